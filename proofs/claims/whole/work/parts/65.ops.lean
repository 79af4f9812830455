theorem gth_self (τ : z_St) (v : Nat) : z_x_th (z_s_th τ v) = v := by
  simp only [z_mkS, z_x_mem, z_x_reg, z_x_inn, z_x_put, z_x_sp, z_x_pc, z_x_ha, z_x_it, z_x_la, z_x_wa, z_x_sg, z_x_ze, z_x_au, z_x_pa, z_x_ca, z_x_st, z_x_th, z_s_mem, z_s_reg, z_s_inn, z_s_put, z_s_sp, z_s_pc, z_s_ha, z_s_it, z_s_la, z_s_wa, z_s_sg, z_s_ze, z_s_au, z_s_pa, z_s_ca, z_s_st, z_s_th]
theorem xin_th (σ : z_St) (v : Nat) : z_x_inn (z_s_th σ v) = z_x_inn σ := by
  simp only [z_mkS, z_x_mem, z_x_reg, z_x_inn, z_x_put, z_x_sp, z_x_pc, z_x_ha, z_x_it, z_x_la, z_x_wa, z_x_sg, z_x_ze, z_x_au, z_x_pa, z_x_ca, z_x_st, z_x_th, z_s_mem, z_s_reg, z_s_inn, z_s_put, z_s_sp, z_s_pc, z_s_ha, z_s_it, z_s_la, z_s_wa, z_s_sg, z_s_ze, z_s_au, z_s_pa, z_s_ca, z_s_st, z_s_th]
theorem xmem_th (σ : z_St) (v : Nat) : z_x_mem (z_s_th σ v) = z_x_mem σ := by
  simp only [z_mkS, z_x_mem, z_x_reg, z_x_inn, z_x_put, z_x_sp, z_x_pc, z_x_ha, z_x_it, z_x_la, z_x_wa, z_x_sg, z_x_ze, z_x_au, z_x_pa, z_x_ca, z_x_st, z_x_th, z_s_mem, z_s_reg, z_s_inn, z_s_put, z_s_sp, z_s_pc, z_s_ha, z_s_it, z_s_la, z_s_wa, z_s_sg, z_s_ze, z_s_au, z_s_pa, z_s_ca, z_s_st, z_s_th]
theorem gth_zset (σ : z_St) (r v : Nat) : z_x_th (zf_set σ r v) = z_x_th σ := by
  unfold zf_set
  (repeat' split)
  · rw [gth_sp]
  · rw [gth_ff]
  · rw [gth_reg]
theorem pw_th (cI : ClassId) (a : pAd) (σ : z_St) (v : Nat) : pw cI a (z_s_th σ v) = pw cI a σ := by
  unfold pw
  simp only [z_mkS, z_x_mem, z_x_reg, z_x_inn, z_x_put, z_x_sp, z_x_pc, z_x_ha, z_x_it, z_x_la, z_x_wa, z_x_sg, z_x_ze, z_x_au, z_x_pa, z_x_ca, z_x_st, z_x_th, z_s_mem, z_s_reg, z_s_inn, z_s_put, z_s_sp, z_s_pc, z_s_ha, z_s_it, z_s_la, z_s_wa, z_s_sg, z_s_ze, z_s_au, z_s_pa, z_s_ca, z_s_st, z_s_th]
theorem kw_th (cI cJ : ClassId) (a : pAd) (o : Nat) (σ : z_St) (v : Nat) (f : Nat → Int64) : kw cI cJ a o (z_s_th σ v) f = kw cI cJ a o σ f := by
  unfold kw
  rw [pw_th]
section
variable {l : Launch} {y : MethodName} {ws : List Cond} {fr lo : Nat} {D : va_G} {cI cJ : ClassId} {a : pAd} {o : Nat} {as : List Value} {σ σ' : z_St} {f : Nat → Int64} {t v : Nat} {V : Int64 → Prop}
theorem kC_s (h : kC l y ws fr lo D cI cJ a o as (z_s_th σ v) f σ' t V) : kC l y ws fr lo D cI cJ a o as σ f σ' t V := by
  unfold kC kPr kQ at h ⊢
  rw [kw_th] at h
  exact h
theorem kC_e (h : kC l y ws fr lo D cI cJ a o as σ f σ' t V) : kC l y ws fr lo D cI cJ a o as σ f (z_s_th σ' v) t V := by
  unfold kC kQ at h ⊢
  simp only [kw_th]
  exact h
end
theorem op_peek {σ : z_St} (l : Launch) (hst : l.stackTraces = false) (hI : z_InvS σ) (x : Int32) : ∃ (τ : z_St) (t : Nat) (v : Int32), t < 2 ∧ z_InvS τ ∧ z_x_th τ = t ∧ (∀ (D : va_G) (cI cJ : ClassId) (a : pAd) (o : Nat) (f : Nat → Int64), kC l y_L_peek w_L_peek 7 103 D cI cJ a o [.ref a.1, .int x, .ref o] σ f τ t (fun z => z = v.toInt64)) ∧ ∀ (D : va_G) (cI : ClassId) (b : qAd), qCi l y_R_peek w_R_peek 1 21 D cI b [.ref b.1, .int x] σ τ v := by
  by_cases h : x < 0 ∨ nI 1024 ≤ x
  · exact ⟨z_s_th σ 1, 1, nI 0, by decide, inv_th hI 1, gth_self σ 1, fun D cI cJ a o f => kC_e (k_peekX l hst D cI cJ a o hI.1 h), fun D cI b => r_peekX l D cI b hI.1 h⟩
  · obtain ⟨n, hn, rfl⟩ := rw_in (by decide) h
    exact ⟨z_s_th σ 0, 0, nI (z_x_mem σ n), by decide, inv_th hI 0, gth_self σ 0, fun D cI cJ a o f => kC_e (k_peek l D cI cJ a o hI.1 hn), fun D cI b => r_peek l D cI b hI.1 hn⟩
theorem op_out {σ : z_St} (l : Launch) (hst : l.stackTraces = false) (hI : z_InvS σ) (x : Int32) : ∃ (τ : z_St) (t : Nat) (v : Int32), t < 2 ∧ z_InvS τ ∧ z_x_th τ = t ∧ (∀ (D : va_G) (cI cJ : ClassId) (a : pAd) (o : Nat) (f : Nat → Int64), kC l y_L_out w_L_out 7 103 D cI cJ a o [.ref a.1, .int x, .ref o] σ f τ t (fun z => z = v.toInt64)) ∧ ∀ (D : va_G) (cI : ClassId) (b : qAd), qCi l y_R_out w_R_out 1 21 D cI b [.ref b.1, .int x] σ τ v := by
  by_cases h : x < 0 ∨ nI 256 ≤ x
  · exact ⟨z_s_th σ 1, 1, nI 0, by decide, inv_th hI 1, gth_self σ 1, fun D cI cJ a o f => kC_e (k_outX l hst D cI cJ a o hI.1 h), fun D cI b => r_outX l D cI b hI.1 h⟩
  · obtain ⟨n, hn, rfl⟩ := rw_in (by decide) h
    exact ⟨z_s_th σ 0, 0, nI (z_x_put σ n) - 1, by decide, inv_th hI 0, gth_self σ 0, fun D cI cJ a o f => kC_e (k_out l D cI cJ a o hI.1 hn), fun D cI b => r_out l D cI b hI.1 hn⟩
theorem op_register {σ : z_St} (l : Launch) (hst : l.stackTraces = false) (hI : z_InvS σ) (x : Int32) : ∃ (τ : z_St) (t : Nat) (v : Int32), t < 2 ∧ z_InvS τ ∧ z_x_th τ = t ∧ (∀ (D : va_G) (cI cJ : ClassId) (a : pAd) (o : Nat) (f : Nat → Int64), kC l y_L_register w_L_register 7 103 D cI cJ a o [.ref a.1, .int x, .ref o] σ f τ t (fun z => z = v.toInt64)) ∧ ∀ (D : va_G) (cI : ClassId) (b : qAd), qCi l y_R_register w_R_register 2 42 D cI b [.ref b.1, .int x] σ τ v := by
  by_cases h : x < 0 ∨ nI 11 ≤ x
  · exact ⟨z_s_th σ 1, 1, nI 0, by decide, inv_th hI 1, gth_self σ 1, fun D cI cJ a o f => kC_e (k_registerX l hst D cI cJ a o hI.1 h), fun D cI b => r_registerX l D cI b hI.1 h⟩
  · obtain ⟨n, hn, rfl⟩ := rw_in (by decide) h
    exact ⟨z_s_th σ 0, 0, nI (zf_reg σ n), by decide, inv_th hI 0, gth_self σ 0, fun D cI cJ a o f => kC_e (k_register l D cI cJ a o hI.1 hn), fun D cI b => r_register l D cI b hI.1 hn⟩
theorem op_is {σ : z_St} (l : Launch) (hst : l.stackTraces = false) (hI : z_InvS σ) (x : Int32) : ∃ (τ : z_St) (t w : Nat), w < 2 ∧ t < 2 ∧ z_InvS τ ∧ z_x_th τ = t ∧ (∀ (D : va_G) (cI cJ : ClassId) (a : pAd) (o : Nat) (f : Nat → Int64), kC l y_L_is w_L_is 7 103 D cI cJ a o [.ref a.1, .int x, .ref o] σ f τ t (fun z => z = lN w)) ∧ ∀ (D : va_G) (cI : ClassId) (b : qAd), qCi l y_R_is w_R_is 1 21 D cI b [.ref b.1, .int x] σ τ (nI w) := by
  by_cases h : x < 0 ∨ nI 3 ≤ x
  · exact ⟨z_s_th σ 1, 1, 0, by decide, by decide, inv_th hI 1, gth_self σ 1, fun D cI cJ a o f => kC_e (k_isX l hst D cI cJ a o hI.1 h), fun D cI b => r_isX l D cI b hI.1 h⟩
  · obtain ⟨n, hn, rfl⟩ := rw_in (by decide) h
    exact ⟨z_s_th σ 0, 0, zf_is σ n, zf_isL hI.1 n, by decide, inv_th hI 0, gth_self σ 0, fun D cI cJ a o f => kC_e (k_is l D cI cJ a o hI.1 hn), fun D cI b => r_is l D cI b hI.1 hn⟩
theorem op_start {σ : z_St} (l : Launch) (hst : l.stackTraces = false) (hI : z_InvS σ) (x : Int32) : ∃ (τ : z_St) (t : Nat), t < 2 ∧ z_InvS τ ∧ z_x_th τ = t ∧ (∀ (D : va_G) (cI cJ : ClassId) (a : pAd) (o : Nat) (f : Nat → Int64), kC l y_L_start w_L_start 7 103 D cI cJ a o [.ref a.1, .int x] σ f τ t (fun _ => True)) ∧ ∀ (D : va_G) (cI : ClassId) (b : qAd), qCv l y_R_start w_R_start 1 21 D cI b [.ref b.1, .int x] σ τ := by
  by_cases h : x < 0 ∨ nI 65536 ≤ x
  · exact ⟨z_s_th σ 1, 1, by decide, inv_th hI 1, gth_self σ 1, fun D cI cJ a o f => kC_e (k_startX l hst D cI cJ a o hI.1 h), fun D cI b => r_startX l D cI b hI.1 h⟩
  · obtain ⟨n, hn, rfl⟩ := rw_in (by decide) h
    exact ⟨z_s_ha (z_s_pc (z_s_th σ 0) n) 0, 0, by decide, inv_start (inv_th hI 0) hn, (by rw [gth_ha, gth_pc, gth_self]), fun D cI cJ a o f => kC_s (v := 0) (k_start l D cI cJ a o (z_ok_th hI.1) hn), fun D cI b => r_start l D cI b hI.1 hn⟩
theorem op_interrupt {σ : z_St} (l : Launch) (hst : l.stackTraces = false) (hI : z_InvS σ) (x : Int32) : ∃ (τ : z_St) (t : Nat), t < 2 ∧ z_InvS τ ∧ z_x_th τ = t ∧ (∀ (D : va_G) (cI cJ : ClassId) (a : pAd) (o : Nat) (f : Nat → Int64), kC l y_L_interrupt w_L_interrupt 7 103 D cI cJ a o [.ref a.1, .int x] σ f τ t (fun _ => True)) ∧ ∀ (D : va_G) (cI : ClassId) (b : qAd), qCv l y_R_interrupt w_R_interrupt 1 21 D cI b [.ref b.1, .int x] σ τ := by
  by_cases h : x < 0 ∨ nI 8 ≤ x
  · exact ⟨z_s_th σ 1, 1, by decide, inv_th hI 1, gth_self σ 1, fun D cI cJ a o f => kC_e (k_interruptX l hst D cI cJ a o hI.1 h), fun D cI b => r_interruptX l D cI b hI.1 h⟩
  · obtain ⟨n, hn, rfl⟩ := rw_in (by decide) h
    exact ⟨z_s_wa (z_s_th σ 0) (n + 1), 0, by decide, inv_wa (inv_th hI 0) (by omega), (by rw [gth_wa, gth_self]), fun D cI cJ a o f => kC_s (v := 0) (k_interrupt l D cI cJ a o (z_ok_th hI.1) hn), fun D cI b => r_interrupt l D cI b hI.1 hn⟩
theorem op_run {σ : z_St} (l : Launch) (hst : l.stackTraces = false) (hI : z_InvS σ) (x : Int32) : ∃ (τ : z_St) (t : Nat) (v : Int32), t < 2 ∧ z_InvS τ ∧ z_x_th τ = t ∧ (∀ (D : va_G) (cI cJ : ClassId) (a : pAd) (o : Nat) (f : Nat → Int64), kC l y_L_run w_L_run 7 158 D cI cJ a o [.ref a.1, .int x, .ref o] σ f τ t (fun z => z = v.toInt64)) ∧ ∀ (D : va_G) (cI : ClassId) (b : qAd), qCi l y_R_run w_R_run 7 166 D cI b [.ref b.1, .int x] σ τ v := by
  by_cases h : x < nI 1 ∨ nI 501 ≤ x
  · exact ⟨z_s_th σ 1, 1, nI 0, by decide, inv_th hI 1, gth_self σ 1, fun D cI cJ a o f => kC_e (k_runX l hst D cI cJ a o hI.1 h), fun D cI b => r_runX l D cI b hI.1 h⟩
  · obtain ⟨n, h1, h2, rfl⟩ := rw_in1 (by decide) h
    exact ⟨z_rx n (z_s_th σ 0), 0, nI (z_rv n (z_s_th σ 0)), by decide, inv_rx n (inv_th hI 0), (gth_rx n (z_s_th σ 0)).trans (gth_self σ 0), fun D cI cJ a o f => kC_s (v := 0) (k_run l D cI cJ a o (z_ok_th hI.1) h1 (by omega)), fun D cI b => r_run l D cI b hI.1 h1 (by omega) hI.2⟩
theorem op_bring {σ : z_St} (l : Launch) (hst : l.stackTraces = false) (hI : z_InvS σ) (x y : Int32) : ∃ (τ : z_St) (t : Nat), t < 2 ∧ z_InvS τ ∧ z_x_th τ = t ∧ (∀ (D : va_G) (cI cJ : ClassId) (a : pAd) (o : Nat) (f : Nat → Int64), kC l y_L_bring w_L_bring 7 104 D cI cJ a o [.ref a.1, .int x, .int y] σ f τ t (fun _ => True)) ∧ ∀ (D : va_G) (cI : ClassId) (b : qAd), qCv l y_R_bring w_R_bring 1 21 D cI b [.ref b.1, .int x, .int y] σ τ := by
  by_cases h : x < 0 ∨ nI 256 ≤ x
  · exact ⟨z_s_th σ 1, 1, by decide, inv_th hI 1, gth_self σ 1, fun D cI cJ a o f => kC_e (k_bringX l hst D cI cJ a o hI.1 h), fun D cI b => r_bringX l D cI b hI.1 h⟩
  · obtain ⟨n, hn, rfl⟩ := rw_in (by decide) h
    by_cases g : y < 0 ∨ nI 256 ≤ y
    · exact ⟨z_s_th σ 1, 1, by decide, inv_th hI 1, gth_self σ 1, fun D cI cJ a o f => kC_e (k_bringY l hst D cI cJ a o hI.1 hn g), fun D cI b => r_bringY l D cI b hI.1 hn g⟩
    · obtain ⟨k, hk, rfl⟩ := rw_in (by decide) g
      refine ⟨z_s_inn (z_s_th σ 0) (z_fs (z_x_inn σ) n k), 0, by decide, inv_inn (inv_th hI 0) (z_fs_lt (z_k_inn hI.1) hk), (by rw [gth_inn, gth_self]), fun D cI cJ a o f => ?_, fun D cI b => r_bring l D cI b hI.1 hn hk⟩
      have q := k_bring (σ := z_s_th σ 0) (f := f) l D cI cJ a o (z_ok_th hI.1) hn hk
      rw [xin_th] at q
      exact kC_s q
theorem op_set {σ : z_St} (l : Launch) (hst : l.stackTraces = false) (hI : z_InvS σ) (x y : Int32) : ∃ (τ : z_St) (t : Nat), t < 2 ∧ z_InvS τ ∧ z_x_th τ = t ∧ (∀ (D : va_G) (cI cJ : ClassId) (a : pAd) (o : Nat) (f : Nat → Int64), kC l y_L_set w_L_set 7 105 D cI cJ a o [.ref a.1, .int x, .int y] σ f τ t (fun _ => True)) ∧ ∀ (D : va_G) (cI : ClassId) (b : qAd), qCv l y_R_set w_R_set 1 21 D cI b [.ref b.1, .int x, .int y] σ τ := by
  by_cases h : x < 0 ∨ nI 10 ≤ x
  · exact ⟨z_s_th σ 1, 1, by decide, inv_th hI 1, gth_self σ 1, fun D cI cJ a o f => kC_e (k_setX l hst D cI cJ a o hI.1 h), fun D cI b => r_setX l D cI b hI.1 h⟩
  · obtain ⟨n, hn, rfl⟩ := rw_in (by decide) h
    by_cases h6 : n = 6
    · subst h6
      exact ⟨z_s_th σ 1, 1, by decide, inv_th hI 1, gth_self σ 1, fun D cI cJ a o f => kC_e (k_set6 l hst D cI cJ a o hI.1), fun D cI b => r_set6 l D cI b hI.1⟩
    · by_cases h9 : n = 9
      · subst h9
        by_cases g : y < 0 ∨ nI 65536 ≤ y
        · exact ⟨z_s_th σ 1, 1, by decide, inv_th hI 1, gth_self σ 1, fun D cI cJ a o f => kC_e (k_set9 l hst D cI cJ a o hI.1 g), fun D cI b => r_set9 l D cI b hI.1 g⟩
        · obtain ⟨k, hk, rfl⟩ := rw_in (by decide) g
          exact ⟨zf_set (z_s_th σ 0) 9 k, 0, by decide, inv_zset (inv_th hI 0) hk (fun q => absurd rfl q), (by rw [gth_zset, gth_self]), fun D cI cJ a o f => kC_s (v := 0) (k_set l D cI cJ a o (z_ok_th hI.1) (by omega) (by omega) hk (fun q => absurd rfl q)), fun D cI b => r_set l D cI b hI.1 (by omega) (by omega) hk (fun q => absurd rfl q)⟩
      · by_cases g : y < 0 ∨ nI 256 ≤ y
        · exact ⟨z_s_th σ 1, 1, by decide, inv_th hI 1, gth_self σ 1, fun D cI cJ a o f => kC_e (k_setY l hst D cI cJ a o hI.1 hn h6 h9 g), fun D cI b => r_setY l D cI b hI.1 hn h6 h9 g⟩
        · obtain ⟨k, hk, rfl⟩ := rw_in (by decide) g
          exact ⟨zf_set (z_s_th σ 0) n k, 0, by decide, inv_zset (inv_th hI 0) (by omega) (fun _ => hk), (by rw [gth_zset, gth_self]), fun D cI cJ a o f => kC_s (v := 0) (k_set l D cI cJ a o (z_ok_th hI.1) hn h6 (by omega) (fun _ => hk)), fun D cI b => r_set l D cI b hI.1 hn h6 (by omega) (fun _ => hk)⟩
theorem op_load {σ : z_St} (l : Launch) (hst : l.stackTraces = false) (hI : z_InvS σ) (x : Int32) (z : Int64) (y : Int32) : ∃ (τ : z_St) (t : Nat), t < 2 ∧ z_InvS τ ∧ z_x_th τ = t ∧ (∀ (D : va_G) (cI cJ : ClassId) (a : pAd) (o : Nat) (f : Nat → Int64), kC l y_L_load w_L_load 7 107 D cI cJ a o [.ref a.1, .int x, .long z, .int y] σ f τ t (fun _ => True)) ∧ ∀ (D : va_G) (cI : ClassId) (b : qAd), qCv l y_R_load w_R_load 0 0 D cI b [.ref b.1, .int x, .long z, .int y] σ τ := by
  by_cases h : y < nI 1 ∨ nI 9 ≤ y
  · exact ⟨z_s_th σ 1, 1, by decide, inv_th hI 1, gth_self σ 1, fun D cI cJ a o f => kC_e (k_loadX l hst D cI cJ a o hI.1 h), fun D cI b => r_loadX l D cI b hI.1 h⟩
  · obtain ⟨n, h1, h2, rfl⟩ := rw_in1 (by decide) h
    by_cases g : x < 0 ∨ nI (1024 - n + 1) ≤ x
    · exact ⟨z_s_th σ 1, 1, by decide, inv_th hI 1, gth_self σ 1, fun D cI cJ a o f => kC_e (k_loadY l hst D cI cJ a o hI.1 h1 (by omega) g), fun D cI b => r_loadY l D cI b hI.1 h1 (by omega) g⟩
    · obtain ⟨d, hd, rfl⟩ := rw_in (by omega) g
      refine ⟨z_s_mem (z_s_th σ 0) (zl_A (z_x_mem σ) d n z n), 0, by decide, inv_mem (inv_th hI 0) (zl_Alt (z_k_mem hI.1) _ _ _ _), (by rw [gth_mem, gth_self]), fun D cI cJ a o f => ?_, fun D cI b => r_load l D cI b hI.1 h1 (by omega) (by omega)⟩
      have q := k_load (σ := z_s_th σ 0) (d := d) (n := n) (b := z) (f := f) l D cI cJ a o (z_ok_th hI.1) h1 (by omega) (by omega)
      rw [xmem_th] at q
      exact kC_s q

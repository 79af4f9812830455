theorem nz_walt : ∀ w, w < 9 → (nI w - 1 < 0 ↔ w = 0) := by decide +kernel
theorem la0 {σ : z_St} (h : z_x_la σ = 0) : z_s_la σ 0 = σ := by
  have e := sx_la σ
  rw [h] at e
  exact e
theorem wr_ha (τ : z_St) (v a w : Nat) : z_wr (z_s_ha τ v) a w = z_s_ha (z_wr τ a w) v := by
  unfold z_wr
  simp only [z_mkS, z_x_mem, z_x_reg, z_x_inn, z_x_put, z_x_sp, z_x_pc, z_x_ha, z_x_it, z_x_la, z_x_wa, z_x_sg, z_x_ze, z_x_au, z_x_pa, z_x_ca, z_x_st, z_x_th, z_s_mem, z_s_reg, z_s_inn, z_s_put, z_s_sp, z_s_pc, z_s_ha, z_s_it, z_s_la, z_s_wa, z_s_sg, z_s_ze, z_s_au, z_s_pa, z_s_ca, z_s_st, z_s_th]
theorem sp_ha (τ : z_St) (v u : Nat) : z_s_sp (z_s_ha τ v) u = z_s_ha (z_s_sp τ u) v := by
  simp only [z_mkS, z_x_mem, z_x_reg, z_x_inn, z_x_put, z_x_sp, z_x_pc, z_x_ha, z_x_it, z_x_la, z_x_wa, z_x_sg, z_x_ze, z_x_au, z_x_pa, z_x_ca, z_x_st, z_x_th, z_s_mem, z_s_reg, z_s_inn, z_s_put, z_s_sp, z_s_pc, z_s_ha, z_s_it, z_s_la, z_s_wa, z_s_sg, z_s_ze, z_s_au, z_s_pa, z_s_ca, z_s_st, z_s_th]
theorem xsp_ha (τ : z_St) (v : Nat) : z_x_sp (z_s_ha τ v) = z_x_sp τ := by
  simp only [z_mkS, z_x_mem, z_x_reg, z_x_inn, z_x_put, z_x_sp, z_x_pc, z_x_ha, z_x_it, z_x_la, z_x_wa, z_x_sg, z_x_ze, z_x_au, z_x_pa, z_x_ca, z_x_st, z_x_th, z_s_mem, z_s_reg, z_s_inn, z_s_put, z_s_sp, z_s_pc, z_s_ha, z_s_it, z_s_la, z_s_wa, z_s_sg, z_s_ze, z_s_au, z_s_pa, z_s_ca, z_s_st, z_s_th]
theorem p1_ha (τ : z_St) (v w : Nat) : z_p1 (z_s_ha τ v) w = z_s_ha (z_p1 τ w) v := by
  unfold z_p1
  rw [xsp_ha, sp_ha, wr_ha]
theorem wr_it (τ : z_St) (v a w : Nat) : z_wr (z_s_it τ v) a w = z_s_it (z_wr τ a w) v := by
  unfold z_wr
  simp only [z_mkS, z_x_mem, z_x_reg, z_x_inn, z_x_put, z_x_sp, z_x_pc, z_x_ha, z_x_it, z_x_la, z_x_wa, z_x_sg, z_x_ze, z_x_au, z_x_pa, z_x_ca, z_x_st, z_x_th, z_s_mem, z_s_reg, z_s_inn, z_s_put, z_s_sp, z_s_pc, z_s_ha, z_s_it, z_s_la, z_s_wa, z_s_sg, z_s_ze, z_s_au, z_s_pa, z_s_ca, z_s_st, z_s_th]
theorem sp_it (τ : z_St) (v u : Nat) : z_s_sp (z_s_it τ v) u = z_s_it (z_s_sp τ u) v := by
  simp only [z_mkS, z_x_mem, z_x_reg, z_x_inn, z_x_put, z_x_sp, z_x_pc, z_x_ha, z_x_it, z_x_la, z_x_wa, z_x_sg, z_x_ze, z_x_au, z_x_pa, z_x_ca, z_x_st, z_x_th, z_s_mem, z_s_reg, z_s_inn, z_s_put, z_s_sp, z_s_pc, z_s_ha, z_s_it, z_s_la, z_s_wa, z_s_sg, z_s_ze, z_s_au, z_s_pa, z_s_ca, z_s_st, z_s_th]
theorem xsp_it (τ : z_St) (v : Nat) : z_x_sp (z_s_it τ v) = z_x_sp τ := by
  simp only [z_mkS, z_x_mem, z_x_reg, z_x_inn, z_x_put, z_x_sp, z_x_pc, z_x_ha, z_x_it, z_x_la, z_x_wa, z_x_sg, z_x_ze, z_x_au, z_x_pa, z_x_ca, z_x_st, z_x_th, z_s_mem, z_s_reg, z_s_inn, z_s_put, z_s_sp, z_s_pc, z_s_ha, z_s_it, z_s_la, z_s_wa, z_s_sg, z_s_ze, z_s_au, z_s_pa, z_s_ca, z_s_st, z_s_th]
theorem p1_it (τ : z_St) (v w : Nat) : z_p1 (z_s_it τ v) w = z_s_it (z_p1 τ w) v := by
  unfold z_p1
  rw [xsp_it, sp_it, wr_it]
theorem pu_ha (τ : z_St) (v w : Nat) : z_pu (z_s_ha τ v) w = z_s_ha (z_pu τ w) v := by
  unfold z_pu
  rw [p1_ha, p1_ha]
theorem pu_it (τ : z_St) (v w : Nat) : z_pu (z_s_it τ v) w = z_s_it (z_pu τ w) v := by
  unfold z_pu
  rw [p1_it, p1_it]
theorem wa_wr (τ : z_St) (a v : Nat) : z_x_wa (z_wr τ a v) = z_x_wa τ := by
  unfold z_wr
  simp only [z_mkS, z_x_mem, z_x_reg, z_x_inn, z_x_put, z_x_sp, z_x_pc, z_x_ha, z_x_it, z_x_la, z_x_wa, z_x_sg, z_x_ze, z_x_au, z_x_pa, z_x_ca, z_x_st, z_x_th, z_s_mem, z_s_reg, z_s_inn, z_s_put, z_s_sp, z_s_pc, z_s_ha, z_s_it, z_s_la, z_s_wa, z_s_sg, z_s_ze, z_s_au, z_s_pa, z_s_ca, z_s_st, z_s_th]
theorem wa_sp (τ : z_St) (v : Nat) : z_x_wa (z_s_sp τ v) = z_x_wa τ := by
  simp only [z_mkS, z_x_mem, z_x_reg, z_x_inn, z_x_put, z_x_sp, z_x_pc, z_x_ha, z_x_it, z_x_la, z_x_wa, z_x_sg, z_x_ze, z_x_au, z_x_pa, z_x_ca, z_x_st, z_x_th, z_s_mem, z_s_reg, z_s_inn, z_s_put, z_s_sp, z_s_pc, z_s_ha, z_s_it, z_s_la, z_s_wa, z_s_sg, z_s_ze, z_s_au, z_s_pa, z_s_ca, z_s_st, z_s_th]
theorem wa_la (τ : z_St) (v : Nat) : z_x_wa (z_s_la τ v) = z_x_wa τ := by
  simp only [z_mkS, z_x_mem, z_x_reg, z_x_inn, z_x_put, z_x_sp, z_x_pc, z_x_ha, z_x_it, z_x_la, z_x_wa, z_x_sg, z_x_ze, z_x_au, z_x_pa, z_x_ca, z_x_st, z_x_th, z_s_mem, z_s_reg, z_s_inn, z_s_put, z_s_sp, z_s_pc, z_s_ha, z_s_it, z_s_la, z_s_wa, z_s_sg, z_s_ze, z_s_au, z_s_pa, z_s_ca, z_s_st, z_s_th]
theorem wa_p1 (τ : z_St) (v : Nat) : z_x_wa (z_p1 τ v) = z_x_wa τ := by
  unfold z_p1
  rw [wa_wr, wa_sp]
theorem wa_pu (τ : z_St) (v : Nat) : z_x_wa (z_pu τ v) = z_x_wa τ := by
  unfold z_pu
  rw [wa_p1, wa_p1]
theorem st_la (τ : z_St) (v : Nat) : z_x_st (z_s_la τ v) = z_x_st τ := by
  simp only [z_mkS, z_x_mem, z_x_reg, z_x_inn, z_x_put, z_x_sp, z_x_pc, z_x_ha, z_x_it, z_x_la, z_x_wa, z_x_sg, z_x_ze, z_x_au, z_x_pa, z_x_ca, z_x_st, z_x_th, z_s_mem, z_s_reg, z_s_inn, z_s_put, z_s_sp, z_s_pc, z_s_ha, z_s_it, z_s_la, z_s_wa, z_s_sg, z_s_ze, z_s_au, z_s_pa, z_s_ca, z_s_st, z_s_th]
theorem pc_hi (τ : z_St) (v w : Nat) : z_x_pc (z_s_ha (z_s_it τ v) w) = z_x_pc τ := by
  simp only [z_mkS, z_x_mem, z_x_reg, z_x_inn, z_x_put, z_x_sp, z_x_pc, z_x_ha, z_x_it, z_x_la, z_x_wa, z_x_sg, z_x_ze, z_x_au, z_x_pa, z_x_ca, z_x_st, z_x_th, z_s_mem, z_s_reg, z_s_inn, z_s_put, z_s_sp, z_s_pc, z_s_ha, z_s_it, z_s_la, z_s_wa, z_s_sg, z_s_ze, z_s_au, z_s_pa, z_s_ca, z_s_st, z_s_th]
theorem li_c (P : z_St) (a : Nat) : z_s_ha (z_s_it (z_s_wa (z_s_pc P a) 0) 0) 0 = z_s_wa (z_s_pc (z_s_ha (z_s_it P 0) 0) a) 0 := by
  simp only [z_mkS, z_x_mem, z_x_reg, z_x_inn, z_x_put, z_x_sp, z_x_pc, z_x_ha, z_x_it, z_x_la, z_x_wa, z_x_sg, z_x_ze, z_x_au, z_x_pa, z_x_ca, z_x_st, z_x_th, z_s_mem, z_s_reg, z_s_inn, z_s_put, z_s_sp, z_s_pc, z_s_ha, z_s_it, z_s_la, z_s_wa, z_s_sg, z_s_ze, z_s_au, z_s_pa, z_s_ca, z_s_st, z_s_th]
theorem li_r (σ : z_St) (a : Nat) : z_s_ha (z_s_it (z_s_wa (z_s_pc (z_pu σ (z_x_pc σ)) a) 0) 0) 0 = z_s_wa (z_ct (z_s_ha (z_s_it σ 0) 0) a) 0 := by
  unfold z_ct
  rw [pc_hi, pu_ha, pu_it]
  exact li_c _ a
theorem nx_la (σ : z_St) (v : Nat) : z_nx (z_s_la σ v) = z_s_la (z_nx σ) v := by
  unfold z_nx
  simp only [z_mkS, z_x_mem, z_x_reg, z_x_inn, z_x_put, z_x_sp, z_x_pc, z_x_ha, z_x_it, z_x_la, z_x_wa, z_x_sg, z_x_ze, z_x_au, z_x_pa, z_x_ca, z_x_st, z_x_th, z_s_mem, z_s_reg, z_s_inn, z_s_put, z_s_sp, z_s_pc, z_s_ha, z_s_it, z_s_la, z_s_wa, z_s_sg, z_s_ze, z_s_au, z_s_pa, z_s_ca, z_s_st, z_s_th]
theorem fo_la (τ : z_St) (v j : Nat) : z_fo (z_s_la τ v) j = z_fo τ j := by
  unfold z_fo
  simp only [z_mkS, z_x_mem, z_x_reg, z_x_inn, z_x_put, z_x_sp, z_x_pc, z_x_ha, z_x_it, z_x_la, z_x_wa, z_x_sg, z_x_ze, z_x_au, z_x_pa, z_x_ca, z_x_st, z_x_th, z_s_mem, z_s_reg, z_s_inn, z_s_put, z_s_sp, z_s_pc, z_s_ha, z_s_it, z_s_la, z_s_wa, z_s_sg, z_s_ze, z_s_au, z_s_pa, z_s_ca, z_s_st, z_s_th]
theorem fo_nx (τ : z_St) (j : Nat) : z_fo (z_nx τ) j = z_fo τ j := by
  unfold z_fo z_nx
  simp only [z_mkS, z_x_mem, z_x_reg, z_x_inn, z_x_put, z_x_sp, z_x_pc, z_x_ha, z_x_it, z_x_la, z_x_wa, z_x_sg, z_x_ze, z_x_au, z_x_pa, z_x_ca, z_x_st, z_x_th, z_s_mem, z_s_reg, z_s_inn, z_s_put, z_s_sp, z_s_pc, z_s_ha, z_s_it, z_s_la, z_s_wa, z_s_sg, z_s_ze, z_s_au, z_s_pa, z_s_ca, z_s_st, z_s_th]
theorem tm_go (σ : z_St) (b : Nat) : z_tm (z_go σ) b = z_tm σ b := by
  unfold z_tm z_td z_hold z_go
  simp only [fo_la, fo_nx]
theorem ex_251 (τ : z_St) : z_ex τ 251 = z_s_it τ 1 := rfl
theorem it_la (τ : z_St) : z_s_la (z_s_it (z_s_la τ 0) 1) 1 = z_s_it (z_s_la τ 1) 1 := by
  simp only [z_mkS, z_x_mem, z_x_reg, z_x_inn, z_x_put, z_x_sp, z_x_pc, z_x_ha, z_x_it, z_x_la, z_x_wa, z_x_sg, z_x_ze, z_x_au, z_x_pa, z_x_ca, z_x_st, z_x_th, z_s_mem, z_s_reg, z_s_inn, z_s_put, z_s_sp, z_s_pc, z_s_ha, z_s_it, z_s_la, z_s_wa, z_s_sg, z_s_ze, z_s_au, z_s_pa, z_s_ca, z_s_st, z_s_th]
theorem ex_go (σ : z_St) : (if z_nb σ = 251 then z_s_la (z_s_it (z_nx (z_s_la σ 0)) 1) 1 else z_ex (z_nx (z_s_la σ 0)) (z_nb σ)) = z_ex (z_go σ) (z_nb σ) := by
  rw [nx_la]
  unfold z_go
  by_cases h : z_nb σ = 251
  · rw [if_pos h, if_pos h, h, ex_251]
    exact it_la (z_nx σ)
  · rw [if_neg h, if_neg h]
section
variable {p : Program} {l : Launch} {e : Env} {R : Room} {s : State} {m : MethodId} {args : Array Value} {below : List Frame} {meth : Method} {c : Code} {H : Heap} {locs : List Loc} {cells slots : Nat} {Q : State → Prop} {cc : ByteArray} {nL : Nat} {Ts : List Cond} {own : String} {pc : Nat} {ls : Array Slot} {rest : List Value}
theorem nv_walt (K : CallFix p m c cc nL s args Ts own) {off : Int} {tgt w : Nat} (hw : w < 9) (hd : decode cc pc = .ok (.ifCond .lt off, 3)) (ht : (pc : Int) + off = (tgt : Int)) (kt : w = 0 → W p l e R s m args below meth c H locs cells slots Q (F0 m tgt ls rest)) (kf : ¬ w = 0 → W p l e R s m args below meth c H locs cells slots Q (F0 m (pc + 3) ls rest)) : W p l e R s m args below meth c H locs cells slots Q (F0 m pc ls (.int (nI w - 1) :: rest)) := lv_if_lt K.1 K.2.1 hd ht (fun h => kt ((nz_walt w hw).mp h)) (fun h => kf (fun q => h ((nz_walt w hw).mpr q)))
end

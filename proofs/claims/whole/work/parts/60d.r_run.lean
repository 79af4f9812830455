set_option maxHeartbeats 4000000 in
set_option maxRecDepth 100000 in
theorem r_run {σ : z_St} {n : Nat} (l : Launch) (D : va_G) (cI : ClassId) (a : qAd) (hO : z_Ok σ) (h1 : 1 ≤ n) (h2 : n ≤ 500) (hinv : z_x_ha σ = 1 → z_x_la σ = 0) : qCi l y_R_run w_R_run 7 166 D cI a [.ref a.1, .int (nI n)] σ (z_rx n (z_s_th σ 0)) (nI (z_rv n (z_s_th σ 0))) := by
  refine qci_of (cc := b_R_run) (maxL := 4) (ret := (some .int)) (by decide) rfl (Nat.le_of_ble_eq_true rfl) ?_
  intro p e s m below meth c ls K hr hlk hl hw
  have K : CallFix p m c b_R_run 4 s _ (_ :: T0) "PortProcessorModel" := K
  have hl : lv_has ls 4 [(0, .ref a.1), (1, .int (nI n))] := hl
  refine lv_aload_n K.1 K.2.1 d_R_run_0 rfl (lv_at hl 0 rfl) ?_
  refine lv_iload_n K.1 K.2.1 d_R_run_1 rfl (lv_at hl 1 rfl) ?_
  refine nv_iconst (v := 1) K d_R_run_2 (by decide) ?_
  refine nv_icmp_lt K (by omega) (by omega) d_R_run_3 rfl (fun h => (by omega : False).elim) (fun _ => ?_)
  refine lv_iload_n K.1 K.2.1 d_R_run_6 rfl (lv_at hl 1 rfl) ?_
  refine nv_sipush (v := 500) K d_R_run_7 (by decide) ?_
  refine nv_icmp_le K (by omega) (by omega) d_R_run_10 rfl (fun _ => ?_) (fun h => (by omega : False).elim)
  refine nv_iconst (v := 0) K d_R_run_17 (by decide) ?_
  refine qp_thrown (v := 0) K hw d_R_run_18 (fun H locs hw => ?_)
  have hO1 : z_Ok (z_s_th σ 0) := z_ok_th hO
  refine nv_iconst (v := 0) K d_R_run_21 (by decide) ?_
  refine lv_istore_n (lv' := [(2, .int (nI 0)), (0, .ref a.1), (1, .int (nI n))]) K.1 K.2.1 d_R_run_22 rfl hl (by decide) rfl (fun ls hl => ?_)
  refine nv_iconst (v := 0) K d_R_run_23 (by decide) ?_
  refine lv_istore_n (lv' := [(3, .int (nI 0)), (2, .int (nI 0)), (0, .ref a.1), (1, .int (nI n))]) K.1 K.2.1 d_R_run_24 rfl hl (by decide) rfl (fun ls hl => ?_)
  suffices loop : ∀ (j i d : Nat) (τ : z_St) (H : Heap) (locs : List Loc) (ls : Array Slot), i + j = n → d ≤ i → z_Ok τ → (z_x_ha τ = 1 → z_x_la τ = 0) → z_x_th τ = 0 → d + z_rv j τ = z_rv n (z_s_th σ 0) → z_rx j τ = z_rx n (z_s_th σ 0) → qW D cI (qA a s.heap.size) a τ s H locs → lv_has ls 4 [(3, .int (nI i)), (2, .int (nI d)), (0, .ref a.1), (1, .int (nI n))] → W p l e (rmz 7 166) s m ([.ref a.1, .int (nI n)] : List Value).toArray below meth c H locs 0 0 (MQ below (qQi D cI a (z_rx n (z_s_th σ 0)) (nI (z_rv n (z_s_th σ 0))) s.heap.size) ([.ref a.1, .int (nI n)] : List Value).toArray s 0 0 (qA a s.heap.size)) (F0 m 25 ls []) from loop n 0 0 (z_s_th σ 0) _ _ ls (by omega) (by omega) hO1 (by rw [gha_th, gla_th]; exact hinv) rfl (by omega) rfl hw hl
  intro j
  induction j with
  | zero =>
    intro i d τ H locs ls hij hdi hOt hI hT hd hx hw hl
    have hd : d = z_rv n (z_s_th σ 0) := hd
    have hx : τ = z_rx n (z_s_th σ 0) := hx
    refine lv_iload_n K.1 K.2.1 d_R_run_25 rfl (lv_at hl 0 rfl) ?_
    refine lv_iload_n K.1 K.2.1 d_R_run_26 rfl (lv_at hl 3 rfl) ?_
    refine nv_icmp_ge K (by omega) (by omega) d_R_run_27 rfl (fun _ => ?_) (fun h => (by omega : False).elim)
    refine lv_iload_n K.1 K.2.1 d_R_run_58 rfl (lv_at hl 1 rfl) ?_
    exact qri K hr hlk hw (by exact hx) (by rw [hd]) d_R_run_59
  | succ j ih =>
    intro i d τ H locs ls hij hdi hOt hI hT hd hx hw hl
    have hd : d + (z_sv τ + z_rv j (z_sx τ)) = z_rv n (z_s_th σ 0) := hd
    have hx : z_rx j (z_sx τ) = z_rx n (z_s_th σ 0) := hx
    refine lv_iload_n K.1 K.2.1 d_R_run_25 rfl (lv_at hl 0 rfl) ?_
    refine lv_iload_n K.1 K.2.1 d_R_run_26 rfl (lv_at hl 3 rfl) ?_
    refine nv_icmp_ge K (by omega) (by omega) d_R_run_27 rfl (fun h => (by omega : False).elim) (fun _ => ?_)
    refine lv_aload_n K.1 K.2.1 d_R_run_30 rfl (lv_at hl 2 rfl) ?_
    refine qg_thrown (v := z_x_th (τ)) K hw rfl d_R_run_31 ?_
    refine nv_if_ne K (by omega) d_R_run_34 rfl (fun h => (by omega : False).elim) (fun _ => ?_)
    refine lv_aload_n K.1 K.2.1 d_R_run_37 rfl (lv_at hl 2 rfl) ?_
    refine qki K (r_step (σ := τ) l D cI a hOt hI) (cw_R_158 K (Nat.le_of_ble_eq_true rfl) (Nat.le_of_ble_eq_true rfl)) hw (va_recv (ci := 3) (q0 := 0) hw.2.2.2.1 hw.1 rfl rfl) rfl hl.1 rfl (Nat.le_of_ble_eq_true rfl) d_R_run_38 ⟨Nat.zero_le _, Nat.zero_le _⟩ (fun H locs hw => ?_)
    have hO2 : z_Ok (z_sx (τ)) := z_ok_sx hOt
    have hb3 : z_sv (τ) < 2 := z_sv_lt _
    refine nv_if_eq K (by omega) d_R_run_41 rfl (fun h4 => ?_) (fun h4 => ?_)
    · refine lv_iload_n K.1 K.2.1 d_R_run_50 rfl (lv_at hl 1 rfl) ?_
      refine lv_istore_n (lv' := [(2, .int (nI d)), (3, .int (nI i)), (0, .ref a.1), (1, .int (nI n))]) K.1 K.2.1 d_R_run_51 rfl hl (by decide) rfl (fun ls hl => ?_)
      refine lv_iinc (k := 1) (v := nI (i + 1)) (lv' := [(3, .int (nI (i + 1))), (2, .int (nI d)), (0, .ref a.1), (1, .int (nI n))]) K.1 K.2.1 d_R_run_52 hl rfl (nI_add _ _) (by decide) rfl (fun ls hl => ?_)
      refine lv_goto K.1 K.2.1 d_R_run_55 rfl ?_
      exact ih (i + 1) d (z_sx τ) H locs ls (by omega) (by omega) hO2 (inv_sx ⟨hOt, hI⟩).2 ((gth_sx τ).trans hT) (by omega) hx hw hl
    · refine lv_iload_n K.1 K.2.1 d_R_run_44 rfl (lv_at hl 1 rfl) ?_
      refine nv_iconst (v := 1) K d_R_run_45 (by decide) ?_
      refine nv_iadd K d_R_run_46 ?_
      refine lv_goto K.1 K.2.1 d_R_run_47 rfl ?_
      refine lv_istore_n (lv' := [(2, .int (nI (d + 1))), (3, .int (nI i)), (0, .ref a.1), (1, .int (nI n))]) K.1 K.2.1 d_R_run_51 rfl hl (by decide) rfl (fun ls hl => ?_)
      refine lv_iinc (k := 1) (v := nI (i + 1)) (lv' := [(3, .int (nI (i + 1))), (2, .int (nI (d + 1))), (0, .ref a.1), (1, .int (nI n))]) K.1 K.2.1 d_R_run_52 hl rfl (nI_add _ _) (by decide) rfl (fun ls hl => ?_)
      refine lv_goto K.1 K.2.1 d_R_run_55 rfl ?_
      exact ih (i + 1) (d + 1) (z_sx τ) H locs ls (by omega) (by omega) hO2 (inv_sx ⟨hOt, hI⟩).2 ((gth_sx τ).trans hT) (by omega) hx hw hl

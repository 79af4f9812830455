set_option maxHeartbeats 4000000 in
set_option maxRecDepth 100000 in
theorem c_run {σ : z_St} {n : Nat} (l : Launch) (D : va_G) (cI : ClassId) (a : pAd) (hO : z_Ok σ) (h1 : 1 ≤ n) (h2 : n ≤ 500) : pCi l y_P_run w_P_run 6 135 D cI a [.ref a.1, .int (nI n)] σ (z_rx n σ) (nI (z_rv n σ)) := by
  refine pci_of (cc := b_P_run) (maxL := 4) (ret := (some .int)) (by decide) rfl (Nat.le_of_ble_eq_true rfl) ?_
  intro p e s m below meth c ls K hr hlk hl hw
  have K : CallFix p m c b_P_run 4 s _ (_ :: T0) "PortProcessor" := K
  have hl : lv_has ls 4 [(0, .ref a.1), (1, .int (nI n))] := hl
  refine lv_iload_n K.1 K.2.1 d_P_run_0 rfl (lv_at hl 1 rfl) ?_
  refine nv_iconst (v := 1) K d_P_run_1 (by decide) ?_
  refine nv_icmp_lt K (by omega) (by omega) d_P_run_2 rfl (fun h => (by omega : False).elim) (fun _ => ?_)
  refine lv_iload_n K.1 K.2.1 d_P_run_5 rfl (lv_at hl 1 rfl) ?_
  refine nv_sipush (v := 500) K d_P_run_6 (by decide) ?_
  refine nv_icmp_le K (by omega) (by omega) d_P_run_9 rfl (fun _ => ?_) (fun h => (by omega : False).elim)
  refine nv_iconst (v := 0) K d_P_run_22 (by decide) ?_
  refine lv_istore_n (lv' := [(2, .int (nI 0)), (0, .ref a.1), (1, .int (nI n))]) K.1 K.2.1 d_P_run_23 rfl hl (by decide) rfl (fun ls hl => ?_)
  refine nv_iconst (v := 0) K d_P_run_24 (by decide) ?_
  refine lv_istore_n (lv' := [(3, .int (nI 0)), (2, .int (nI 0)), (0, .ref a.1), (1, .int (nI n))]) K.1 K.2.1 d_P_run_25 rfl hl (by decide) rfl (fun ls hl => ?_)
  suffices loop : ∀ (j i d : Nat) (τ : z_St) (H : Heap) (locs : List Loc) (ls : Array Slot), i + j = n → d ≤ i → z_Ok τ → d + z_rv j τ = z_rv n (σ) → z_rx j τ = z_rx n (σ) → pW D cI (pA a s.heap.size) a τ s H locs → lv_has ls 4 [(3, .int (nI i)), (2, .int (nI d)), (0, .ref a.1), (1, .int (nI n))] → W p l e (rmz 6 135) s m ([.ref a.1, .int (nI n)] : List Value).toArray below meth c H locs 0 0 (MQ below (pQi D cI a (z_rx n (σ)) (nI (z_rv n (σ))) s.heap.size) ([.ref a.1, .int (nI n)] : List Value).toArray s 0 0 (pA a s.heap.size)) (F0 m 26 ls []) from loop n 0 0 (σ) _ _ ls (by omega) (by omega) hO (by omega) rfl hw hl
  intro j
  induction j with
  | zero =>
    intro i d τ H locs ls hij hdi hOt hd hx hw hl
    have hd : d = z_rv n (σ) := hd
    have hx : τ = z_rx n (σ) := hx
    refine lv_iload_n K.1 K.2.1 d_P_run_26 rfl (lv_at hl 0 rfl) ?_
    refine lv_iload_n K.1 K.2.1 d_P_run_27 rfl (lv_at hl 3 rfl) ?_
    refine nv_icmp_ge K (by omega) (by omega) d_P_run_28 rfl (fun _ => ?_) (fun h => (by omega : False).elim)
    refine lv_iload_n K.1 K.2.1 d_P_run_47 rfl (lv_at hl 1 rfl) ?_
    exact pri K hr hlk hw (by exact hx) (by rw [hd]) d_P_run_48
  | succ j ih =>
    intro i d τ H locs ls hij hdi hOt hd hx hw hl
    have hd : d + (z_sv τ + z_rv j (z_sx τ)) = z_rv n (σ) := hd
    have hx : z_rx j (z_sx τ) = z_rx n (σ) := hx
    refine lv_iload_n K.1 K.2.1 d_P_run_26 rfl (lv_at hl 0 rfl) ?_
    refine lv_iload_n K.1 K.2.1 d_P_run_27 rfl (lv_at hl 3 rfl) ?_
    refine nv_icmp_ge K (by omega) (by omega) d_P_run_28 rfl (fun h => (by omega : False).elim) (fun _ => ?_)
    refine lv_aload_n K.1 K.2.1 d_P_run_31 rfl (lv_at hl 2 rfl) ?_
    refine pki K (c_step (σ := τ) l D cI a hOt) (cw_P_68 K (Nat.le_of_ble_eq_true rfl) (Nat.le_of_ble_eq_true rfl)) hw (va_recv (ci := 0) (q0 := 0) hw.2.2.2.1 hw.1 rfl rfl) rfl hl.1 rfl (Nat.le_of_ble_eq_true rfl) d_P_run_32 ⟨Nat.zero_le _, Nat.zero_le _⟩ (fun H locs hw => ?_)
    have hO1 : z_Ok (z_sx (τ)) := z_ok_sx hOt
    have hb2 : z_sv (τ) < 2 := z_sv_lt _
    refine nv_if_eq K (by omega) d_P_run_35 rfl (fun h3 => ?_) (fun h3 => ?_)
    · refine lv_iinc (k := 0) (v := nI (i + 1)) (lv' := [(3, .int (nI (i + 1))), (2, .int (nI d)), (0, .ref a.1), (1, .int (nI n))]) K.1 K.2.1 d_P_run_41 hl rfl (nI_add _ _) (by decide) rfl (fun ls hl => ?_)
      refine lv_goto K.1 K.2.1 d_P_run_44 rfl ?_
      exact ih (i + 1) d (z_sx τ) H locs ls (by omega) (by omega) hO1 (by omega) hx hw hl
    · refine lv_iinc (k := 1) (v := nI (d + 1)) (lv' := [(2, .int (nI (d + 1))), (3, .int (nI i)), (0, .ref a.1), (1, .int (nI n))]) K.1 K.2.1 d_P_run_38 hl rfl (nI_add _ _) (by decide) rfl (fun ls hl => ?_)
      refine lv_iinc (k := 1) (v := nI (i + 1)) (lv' := [(3, .int (nI (i + 1))), (2, .int (nI (d + 1))), (0, .ref a.1), (1, .int (nI n))]) K.1 K.2.1 d_P_run_41 hl rfl (nI_add _ _) (by decide) rfl (fun ls hl => ?_)
      refine lv_goto K.1 K.2.1 d_P_run_44 rfl ?_
      exact ih (i + 1) (d + 1) (z_sx τ) H locs ls (by omega) (by omega) hO1 (by omega) hx hw hl

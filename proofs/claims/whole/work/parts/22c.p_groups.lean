set_option maxHeartbeats 4000000 in
set_option maxRecDepth 100000 in
theorem c_countPair {σ : z_St} {b : Nat} (l : Launch) (D : va_G) (cI : ClassId) (a : pAd) (hO : z_Ok σ) (hb : b < 256) : pCi l y_P_countPair w_P_countPair 1 22 D cI a [.ref a.1, .int (nI b)] σ (z_ps σ (b / 16 % 4) ((z_pg σ (b / 16 % 4) + (if b / 8 % 2 = 0 then 1 else 65535)) % 65536)) (nI 5) := by
  refine pci_of (cc := b_P_countPair) (maxL := 3) (ret := (some .int)) (by decide) rfl (Nat.le_of_ble_eq_true rfl) ?_
  intro p e s m below meth c ls K hr hlk hl hw
  have K : CallFix p m c b_P_countPair 3 s _ (_ :: T0) "PortProcessor" := K
  have hl : lv_has ls 3 [(0, .ref a.1), (1, .int (nI b))] := hl
  refine lv_iload_n K.1 K.2.1 d_P_countPair_0 rfl (lv_at hl 1 rfl) ?_
  refine nv_bipush (v := 8) K d_P_countPair_1 (by decide) ?_
  refine nv_iand K d_P_countPair_3 ?_
  have hb1 : b &&& 8 ≤ 8 := Nat.and_le_right
  have hb2 : b &&& 8 = 8 * (b / 8 % 2) := nz_b8 _ (by omega)
  refine nv_if_ne K (by omega) d_P_countPair_4 rfl (fun h3 => ?_) (fun h3 => ?_)
  · refine lv_iconst (v := -1) K.1 K.2.1 d_P_countPair_11 (by decide) ?_
    refine lv_istore_n (lv' := [(2, .int (-1)), (0, .ref a.1), (1, .int (nI b))]) K.1 K.2.1 d_P_countPair_12 rfl hl (by decide) rfl (fun ls hl => ?_)
    refine lv_aload_n K.1 K.2.1 d_P_countPair_13 rfl (lv_at hl 1 rfl) ?_
    refine lv_iload_n K.1 K.2.1 d_P_countPair_14 rfl (lv_at hl 2 rfl) ?_
    refine psi K (c_pairOf (σ := σ) (b := b) l D cI a hO (by omega)) (cw_P_190 K (Nat.le_of_ble_eq_true rfl) (Nat.le_of_ble_eq_true rfl)) hw rfl hl.1 rfl (Nat.le_of_ble_eq_true rfl) d_P_countPair_15 ⟨Nat.zero_le _, Nat.zero_le _⟩ (fun H locs hw => ?_)
    refine lv_aload_n K.1 K.2.1 d_P_countPair_18 rfl (lv_at hl 1 rfl) ?_
    refine lv_iload_n K.1 K.2.1 d_P_countPair_19 rfl (lv_at hl 2 rfl) ?_
    refine psi K (c_pairOf (σ := σ) (b := b) l D cI a hO (by omega)) (cw_P_190 K (Nat.le_of_ble_eq_true rfl) (Nat.le_of_ble_eq_true rfl)) hw rfl hl.1 rfl (Nat.le_of_ble_eq_true rfl) d_P_countPair_20 ⟨Nat.zero_le _, Nat.zero_le _⟩ (fun H locs hw => ?_)
    refine pki K (c_readPair (σ := σ) (k := b / 16 % 4) l D cI a hO (by omega)) (cw_P_199 K (Nat.le_of_ble_eq_true rfl) (Nat.le_of_ble_eq_true rfl)) hw (va_recv (ci := 0) (q0 := 0) hw.2.2.2.1 hw.1 rfl rfl) rfl hl.1 rfl (Nat.le_of_ble_eq_true rfl) d_P_countPair_23 ⟨Nat.zero_le _, Nat.zero_le _⟩ (fun H locs hw => ?_)
    have hb4 : z_pg σ (b / 16 % 4) < 65536 := z_pg_lt hO _
    refine lv_iload_n K.1 K.2.1 d_P_countPair_26 rfl (lv_at hl 0 rfl) ?_
    refine lv_iadd K.1 K.2.1 d_P_countPair_27 ?_
    refine nv_ldc (v := 65535) K d_P_countPair_28 (K.2.2.2.2 _ (List.mem_cons_of_mem _ m_constant_PortProcessor_56_65535)) ?_
    refine lv_iand K.1 K.2.1 d_P_countPair_30 (nv_as K (nz_addm1 (by omega)) ?_)
    refine pkv K (c_writePair (σ := σ) (k := b / 16 % 4) (v := ((z_pg σ (b / 16 % 4)) + 65535) % 65536) l D cI a hO (by omega) (by omega)) (cw_P_196 K (Nat.le_of_ble_eq_true rfl) (Nat.le_of_ble_eq_true rfl)) hw (va_recv (ci := 0) (q0 := 0) hw.2.2.2.1 hw.1 rfl rfl) rfl hl.1 rfl (Nat.le_of_ble_eq_true rfl) d_P_countPair_31 ⟨Nat.zero_le _, Nat.zero_le _⟩ (fun H locs hw => ?_)
    have hO5 : z_Ok (z_ps σ (b / 16 % 4) (((z_pg σ (b / 16 % 4)) + 65535) % 65536)) := z_ok_ps hO _ (by omega)
    refine nv_iconst (v := 5) K d_P_countPair_34 (by decide) ?_
    exact pri K hr hlk hw (by first | (rw [if_pos (by omega)]; done) | (rw [if_neg (by omega)]; done)) (by first | rfl | (simp [h3]; done) | (congr 1; omega) | (simp [h3]; omega)) d_P_countPair_35
  · refine nv_iconst (v := 1) K d_P_countPair_7 (by decide) ?_
    refine lv_goto K.1 K.2.1 d_P_countPair_8 rfl ?_
    refine lv_istore_n (lv' := [(2, .int (nI 1)), (0, .ref a.1), (1, .int (nI b))]) K.1 K.2.1 d_P_countPair_12 rfl hl (by decide) rfl (fun ls hl => ?_)
    refine lv_aload_n K.1 K.2.1 d_P_countPair_13 rfl (lv_at hl 1 rfl) ?_
    refine lv_iload_n K.1 K.2.1 d_P_countPair_14 rfl (lv_at hl 2 rfl) ?_
    refine psi K (c_pairOf (σ := σ) (b := b) l D cI a hO (by omega)) (cw_P_190 K (Nat.le_of_ble_eq_true rfl) (Nat.le_of_ble_eq_true rfl)) hw rfl hl.1 rfl (Nat.le_of_ble_eq_true rfl) d_P_countPair_15 ⟨Nat.zero_le _, Nat.zero_le _⟩ (fun H locs hw => ?_)
    refine lv_aload_n K.1 K.2.1 d_P_countPair_18 rfl (lv_at hl 1 rfl) ?_
    refine lv_iload_n K.1 K.2.1 d_P_countPair_19 rfl (lv_at hl 2 rfl) ?_
    refine psi K (c_pairOf (σ := σ) (b := b) l D cI a hO (by omega)) (cw_P_190 K (Nat.le_of_ble_eq_true rfl) (Nat.le_of_ble_eq_true rfl)) hw rfl hl.1 rfl (Nat.le_of_ble_eq_true rfl) d_P_countPair_20 ⟨Nat.zero_le _, Nat.zero_le _⟩ (fun H locs hw => ?_)
    refine pki K (c_readPair (σ := σ) (k := b / 16 % 4) l D cI a hO (by omega)) (cw_P_199 K (Nat.le_of_ble_eq_true rfl) (Nat.le_of_ble_eq_true rfl)) hw (va_recv (ci := 0) (q0 := 0) hw.2.2.2.1 hw.1 rfl rfl) rfl hl.1 rfl (Nat.le_of_ble_eq_true rfl) d_P_countPair_23 ⟨Nat.zero_le _, Nat.zero_le _⟩ (fun H locs hw => ?_)
    have hb6 : z_pg σ (b / 16 % 4) < 65536 := z_pg_lt hO _
    refine lv_iload_n K.1 K.2.1 d_P_countPair_26 rfl (lv_at hl 0 rfl) ?_
    refine nv_iadd K d_P_countPair_27 ?_
    refine nv_ldc (v := 65535) K d_P_countPair_28 (K.2.2.2.2 _ (List.mem_cons_of_mem _ m_constant_PortProcessor_56_65535)) ?_
    refine nv_mask (M := 65536) K 16 rfl rfl d_P_countPair_30 ?_
    refine pkv K (c_writePair (σ := σ) (k := b / 16 % 4) (v := ((z_pg σ (b / 16 % 4)) + 1) % 65536) l D cI a hO (by omega) (by omega)) (cw_P_196 K (Nat.le_of_ble_eq_true rfl) (Nat.le_of_ble_eq_true rfl)) hw (va_recv (ci := 0) (q0 := 0) hw.2.2.2.1 hw.1 rfl rfl) rfl hl.1 rfl (Nat.le_of_ble_eq_true rfl) d_P_countPair_31 ⟨Nat.zero_le _, Nat.zero_le _⟩ (fun H locs hw => ?_)
    have hO7 : z_Ok (z_ps σ (b / 16 % 4) (((z_pg σ (b / 16 % 4)) + 1) % 65536)) := z_ok_ps hO _ (by omega)
    refine nv_iconst (v := 5) K d_P_countPair_34 (by decide) ?_
    exact pri K hr hlk hw (by first | (rw [if_pos (by omega)]; done) | (rw [if_neg (by omega)]; done)) (by first | rfl | (simp [h3]; done) | (congr 1; omega) | (simp [h3]; omega)) d_P_countPair_35

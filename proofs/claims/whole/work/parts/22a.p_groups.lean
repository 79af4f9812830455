set_option maxHeartbeats 4000000 in
set_option maxRecDepth 100000 in
theorem c_targetOf {σ : z_St} {b : Nat} (l : Launch) (D : va_G) (cI : ClassId) (a : pAd) (hO : z_Ok σ) (hb : b < 256) : pCi l y_P_targetOf w_P_targetOf 0 0 D cI a [.int (nI b)] σ σ (nI (b / 8 % 8)) := by
  refine pci_of (cc := b_P_targetOf) (maxL := 1) (ret := (some .int)) (by decide) rfl (Nat.le_of_ble_eq_true rfl) ?_
  intro p e s m below meth c ls K hr hlk hl hw
  have K : CallFix p m c b_P_targetOf 1 s _ (_ :: T0) "PortProcessor" := K
  have hl : lv_has ls 1 [(0, .int (nI b))] := hl
  refine lv_iload_n K.1 K.2.1 d_P_targetOf_0 rfl (lv_at hl 0 rfl) ?_
  refine nv_iconst (v := 3) K d_P_targetOf_1 (by decide) ?_
  refine nv_ishr (M := 8) K (by omega) rfl (by omega) d_P_targetOf_2 ?_
  refine nv_bipush (v := 7) K d_P_targetOf_3 (by decide) ?_
  refine nv_mask (M := 8) K 3 rfl rfl d_P_targetOf_5 ?_
  exact pri K hr hlk hw (by first | rfl | (simp; done) | (skip; rfl)) (by first | rfl | (simp; done) | (congr 1; omega) | (simp; omega)) d_P_targetOf_6
set_option maxHeartbeats 4000000 in
set_option maxRecDepth 100000 in
theorem c_pairOf {σ : z_St} {b : Nat} (l : Launch) (D : va_G) (cI : ClassId) (a : pAd) (hO : z_Ok σ) (hb : b < 256) : pCi l y_P_pairOf w_P_pairOf 0 0 D cI a [.int (nI b)] σ σ (nI (b / 16 % 4)) := by
  refine pci_of (cc := b_P_pairOf) (maxL := 1) (ret := (some .int)) (by decide) rfl (Nat.le_of_ble_eq_true rfl) ?_
  intro p e s m below meth c ls K hr hlk hl hw
  have K : CallFix p m c b_P_pairOf 1 s _ (_ :: T0) "PortProcessor" := K
  have hl : lv_has ls 1 [(0, .int (nI b))] := hl
  refine lv_iload_n K.1 K.2.1 d_P_pairOf_0 rfl (lv_at hl 0 rfl) ?_
  refine nv_iconst (v := 4) K d_P_pairOf_1 (by decide) ?_
  refine nv_ishr (M := 16) K (by omega) rfl (by omega) d_P_pairOf_2 ?_
  refine nv_iconst (v := 3) K d_P_pairOf_3 (by decide) ?_
  refine nv_mask (M := 4) K 2 rfl rfl d_P_pairOf_4 ?_
  exact pri K hr hlk hw (by first | rfl | (simp; done) | (skip; rfl)) (by first | rfl | (simp; done) | (congr 1; omega) | (simp; omega)) d_P_pairOf_5
set_option maxHeartbeats 4000000 in
set_option maxRecDepth 100000 in
theorem c_fillPair {σ : z_St} {b : Nat} (l : Launch) (D : va_G) (cI : ClassId) (a : pAd) (hO : z_Ok σ) (hb : b < 256) : pCi l y_P_fillPair w_P_fillPair 3 63 D cI a [.ref a.1, .int (nI b)] σ (z_ps (z_nn σ) (b / 16 % 4) (z_nw σ)) (nI 10) := by
  refine pci_of (cc := b_P_fillPair) (maxL := 2) (ret := (some .int)) (by decide) rfl (Nat.le_of_ble_eq_true rfl) ?_
  intro p e s m below meth c ls K hr hlk hl hw
  have K : CallFix p m c b_P_fillPair 2 s _ (_ :: T0) "PortProcessor" := K
  have hl : lv_has ls 2 [(0, .ref a.1), (1, .int (nI b))] := hl
  refine lv_aload_n K.1 K.2.1 d_P_fillPair_0 rfl (lv_at hl 0 rfl) ?_
  refine lv_iload_n K.1 K.2.1 d_P_fillPair_1 rfl (lv_at hl 1 rfl) ?_
  refine psi K (c_pairOf (σ := σ) (b := b) l D cI a hO (by omega)) (cw_P_190 K (Nat.le_of_ble_eq_true rfl) (Nat.le_of_ble_eq_true rfl)) hw rfl hl.1 rfl (Nat.le_of_ble_eq_true rfl) d_P_fillPair_2 ⟨Nat.zero_le _, Nat.zero_le _⟩ (fun H locs hw => ?_)
  refine lv_aload_n K.1 K.2.1 d_P_fillPair_5 rfl (lv_at hl 0 rfl) ?_
  refine pki K (c_nextTwoBytes (σ := σ) l D cI a hO) (cw_P_193 K (Nat.le_of_ble_eq_true rfl) (Nat.le_of_ble_eq_true rfl)) hw (va_recv (ci := 0) (q0 := 0) hw.2.2.2.1 hw.1 rfl rfl) rfl hl.1 rfl (Nat.le_of_ble_eq_true rfl) d_P_fillPair_6 ⟨Nat.zero_le _, Nat.zero_le _⟩ (fun H locs hw => ?_)
  have hO1 : z_Ok (z_nn σ) := z_ok_nn hO
  have hb2 : z_nw σ < 65536 := z_nw_lt hO
  refine pkv K (c_writePair (σ := z_nn σ) (k := b / 16 % 4) (v := z_nw σ) l D cI a hO1 (by omega) (by omega)) (cw_P_196 K (Nat.le_of_ble_eq_true rfl) (Nat.le_of_ble_eq_true rfl)) hw (va_recv (ci := 0) (q0 := 0) hw.2.2.2.1 hw.1 rfl rfl) rfl hl.1 rfl (Nat.le_of_ble_eq_true rfl) d_P_fillPair_9 ⟨Nat.zero_le _, Nat.zero_le _⟩ (fun H locs hw => ?_)
  have hO3 : z_Ok (z_ps (z_nn σ) (b / 16 % 4) (z_nw σ)) := z_ok_ps hO1 _ (by omega)
  refine nv_bipush (v := 10) K d_P_fillPair_12 (by decide) ?_
  exact pri K hr hlk hw (by first | rfl | (simp; done) | (skip; rfl)) (by first | rfl | (simp; done) | (congr 1; omega) | (simp; omega)) d_P_fillPair_14

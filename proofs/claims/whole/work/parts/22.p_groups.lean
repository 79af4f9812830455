set_option maxHeartbeats 4000000 in
set_option maxRecDepth 100000 in
theorem c_targetOf {σ : z_St} {b : Nat} (l : Launch) (D : va_G) (cI : ClassId) (a : pAd) (hO : z_Ok σ) (hb : b < 256) : pCi l y_P_targetOf w_P_targetOf 0 0 D cI a [.int (nI b)] σ σ (nI (b / 8 % 8)) := by
  refine pci_of (cc := b_P_targetOf) (maxL := 1) (ret := (some .int)) (by decide) rfl (Nat.le_of_ble_eq_true rfl) ?_
  intro p e s m below meth c ls K hr hlk hl hw
  have K : CallFix p m c b_P_targetOf 1 s _ (_ :: T0) "PortProcessor" := K
  have hl : lv_has ls 1 [(0, .int (nI b))] := hl
  refine lv_iload_n K.1 K.2.1 d_P_targetOf_0 rfl (lv_at hl 0 rfl) ?_
  refine nv_iconst (v := 3) K d_P_targetOf_1 (by decide) ?_
  refine nv_ishr (M := 8) K (by omega) rfl (by omega) d_P_targetOf_2 ?_
  refine nv_bipush (v := 7) K d_P_targetOf_3 (by decide) ?_
  refine nv_mask (M := 8) K 3 rfl rfl d_P_targetOf_5 ?_
  exact pri K hr hlk hw (by first | rfl | (simp; done) | (skip; rfl)) (by first | rfl | (simp; done) | (congr 1; omega) | (simp; omega)) d_P_targetOf_6
set_option maxHeartbeats 4000000 in
set_option maxRecDepth 100000 in
theorem c_pairOf {σ : z_St} {b : Nat} (l : Launch) (D : va_G) (cI : ClassId) (a : pAd) (hO : z_Ok σ) (hb : b < 256) : pCi l y_P_pairOf w_P_pairOf 0 0 D cI a [.int (nI b)] σ σ (nI (b / 16 % 4)) := by
  refine pci_of (cc := b_P_pairOf) (maxL := 1) (ret := (some .int)) (by decide) rfl (Nat.le_of_ble_eq_true rfl) ?_
  intro p e s m below meth c ls K hr hlk hl hw
  have K : CallFix p m c b_P_pairOf 1 s _ (_ :: T0) "PortProcessor" := K
  have hl : lv_has ls 1 [(0, .int (nI b))] := hl
  refine lv_iload_n K.1 K.2.1 d_P_pairOf_0 rfl (lv_at hl 0 rfl) ?_
  refine nv_iconst (v := 4) K d_P_pairOf_1 (by decide) ?_
  refine nv_ishr (M := 16) K (by omega) rfl (by omega) d_P_pairOf_2 ?_
  refine nv_iconst (v := 3) K d_P_pairOf_3 (by decide) ?_
  refine nv_mask (M := 4) K 2 rfl rfl d_P_pairOf_4 ?_
  exact pri K hr hlk hw (by first | rfl | (simp; done) | (skip; rfl)) (by first | rfl | (simp; done) | (congr 1; omega) | (simp; omega)) d_P_pairOf_5
set_option maxHeartbeats 4000000 in
set_option maxRecDepth 100000 in
theorem c_fillPair {σ : z_St} {b : Nat} (l : Launch) (D : va_G) (cI : ClassId) (a : pAd) (hO : z_Ok σ) (hb : b < 256) : pCi l y_P_fillPair w_P_fillPair 3 63 D cI a [.ref a.1, .int (nI b)] σ (z_ps (z_nn σ) (b / 16 % 4) (z_nw σ)) (nI 10) := by
  refine pci_of (cc := b_P_fillPair) (maxL := 2) (ret := (some .int)) (by decide) rfl (Nat.le_of_ble_eq_true rfl) ?_
  intro p e s m below meth c ls K hr hlk hl hw
  have K : CallFix p m c b_P_fillPair 2 s _ (_ :: T0) "PortProcessor" := K
  have hl : lv_has ls 2 [(0, .ref a.1), (1, .int (nI b))] := hl
  refine lv_aload_n K.1 K.2.1 d_P_fillPair_0 rfl (lv_at hl 0 rfl) ?_
  refine lv_iload_n K.1 K.2.1 d_P_fillPair_1 rfl (lv_at hl 1 rfl) ?_
  refine psi K (c_pairOf (σ := σ) (b := b) l D cI a hO (by omega)) (cw_P_190 K (Nat.le_of_ble_eq_true rfl) (Nat.le_of_ble_eq_true rfl)) hw rfl hl.1 rfl (Nat.le_of_ble_eq_true rfl) d_P_fillPair_2 ⟨Nat.zero_le _, Nat.zero_le _⟩ (fun H locs hw => ?_)
  refine lv_aload_n K.1 K.2.1 d_P_fillPair_5 rfl (lv_at hl 0 rfl) ?_
  refine pki K (c_nextTwoBytes (σ := σ) l D cI a hO) (cw_P_193 K (Nat.le_of_ble_eq_true rfl) (Nat.le_of_ble_eq_true rfl)) hw (va_recv (ci := 0) (q0 := 0) hw.2.2.2.1 hw.1 rfl rfl) rfl hl.1 rfl (Nat.le_of_ble_eq_true rfl) d_P_fillPair_6 ⟨Nat.zero_le _, Nat.zero_le _⟩ (fun H locs hw => ?_)
  have hO1 : z_Ok (z_nn σ) := z_ok_nn hO
  have hb2 : z_nw σ < 65536 := z_nw_lt hO
  refine pkv K (c_writePair (σ := z_nn σ) (k := b / 16 % 4) (v := z_nw σ) l D cI a hO1 (by omega) (by omega)) (cw_P_196 K (Nat.le_of_ble_eq_true rfl) (Nat.le_of_ble_eq_true rfl)) hw (va_recv (ci := 0) (q0 := 0) hw.2.2.2.1 hw.1 rfl rfl) rfl hl.1 rfl (Nat.le_of_ble_eq_true rfl) d_P_fillPair_9 ⟨Nat.zero_le _, Nat.zero_le _⟩ (fun H locs hw => ?_)
  have hO3 : z_Ok (z_ps (z_nn σ) (b / 16 % 4) (z_nw σ)) := z_ok_ps hO1 _ (by omega)
  refine nv_bipush (v := 10) K d_P_fillPair_12 (by decide) ?_
  exact pri K hr hlk hw (by first | rfl | (simp; done) | (skip; rfl)) (by first | rfl | (simp; done) | (congr 1; omega) | (simp; omega)) d_P_fillPair_14
set_option maxHeartbeats 4000000 in
set_option maxRecDepth 100000 in
theorem c_addPair {σ : z_St} {b : Nat} (l : Launch) (D : va_G) (cI : ClassId) (a : pAd) (hO : z_Ok σ) (hb : b < 256) : pCi l y_P_addPair w_P_addPair 1 22 D cI a [.ref a.1, .int (nI b)] σ (z_ad σ (b / 16 % 4)) (nI 10) := by
  refine pci_of (cc := b_P_addPair) (maxL := 3) (ret := (some .int)) (by decide) rfl (Nat.le_of_ble_eq_true rfl) ?_
  intro p e s m below meth c ls K hr hlk hl hw
  have K : CallFix p m c b_P_addPair 3 s _ (_ :: T0) "PortProcessor" := K
  have hl : lv_has ls 3 [(0, .ref a.1), (1, .int (nI b))] := hl
  refine lv_aload_n K.1 K.2.1 d_P_addPair_0 rfl (lv_at hl 0 rfl) ?_
  refine nv_iconst (v := 2) K d_P_addPair_1 (by decide) ?_
  refine pki K (c_readPair (σ := σ) (k := 2) l D cI a hO (by omega)) (cw_P_199 K (Nat.le_of_ble_eq_true rfl) (Nat.le_of_ble_eq_true rfl)) hw (va_recv (ci := 0) (q0 := 0) hw.2.2.2.1 hw.1 rfl rfl) rfl hl.1 rfl (Nat.le_of_ble_eq_true rfl) d_P_addPair_2 ⟨Nat.zero_le _, Nat.zero_le _⟩ (fun H locs hw => ?_)
  have hb1 : z_pg σ 2 < 65536 := z_pg_lt hO _
  refine lv_aload_n K.1 K.2.1 d_P_addPair_5 rfl (lv_at hl 0 rfl) ?_
  refine lv_iload_n K.1 K.2.1 d_P_addPair_6 rfl (lv_at hl 1 rfl) ?_
  refine psi K (c_pairOf (σ := σ) (b := b) l D cI a hO (by omega)) (cw_P_190 K (Nat.le_of_ble_eq_true rfl) (Nat.le_of_ble_eq_true rfl)) hw rfl hl.1 rfl (Nat.le_of_ble_eq_true rfl) d_P_addPair_7 ⟨Nat.zero_le _, Nat.zero_le _⟩ (fun H locs hw => ?_)
  refine pki K (c_readPair (σ := σ) (k := b / 16 % 4) l D cI a hO (by omega)) (cw_P_199 K (Nat.le_of_ble_eq_true rfl) (Nat.le_of_ble_eq_true rfl)) hw (va_recv (ci := 0) (q0 := 0) hw.2.2.2.1 hw.1 rfl rfl) rfl hl.1 rfl (Nat.le_of_ble_eq_true rfl) d_P_addPair_10 ⟨Nat.zero_le _, Nat.zero_le _⟩ (fun H locs hw => ?_)
  have hb2 : z_pg σ (b / 16 % 4) < 65536 := z_pg_lt hO _
  refine nv_iadd K d_P_addPair_13 ?_
  refine lv_istore_n (lv' := [(2, .int (nI ((z_pg σ 2) + (z_pg σ (b / 16 % 4))))), (0, .ref a.1), (1, .int (nI b))]) K.1 K.2.1 d_P_addPair_14 rfl hl (by decide) rfl (fun ls hl => ?_)
  refine lv_aload_n K.1 K.2.1 d_P_addPair_15 rfl (lv_at hl 1 rfl) ?_
  refine pg_flags K hw d_P_addPair_16 ?_
  refine lv_iload_n K.1 K.2.1 d_P_addPair_19 rfl (lv_at hl 0 rfl) ?_
  refine nv_ldc (v := 65535) K d_P_addPair_20 (K.2.2.2.2 _ (List.mem_cons_of_mem _ m_constant_PortProcessor_56_65535)) ?_
  refine nf_icmp_le (u := 0) (v := 1) (Y := 30) K (by omega) (by omega) d_P_addPair_22 rfl (fun _ k => nv_iconst (v := 0) K d_P_addPair_29 (by decide) k) (fun _ k => nv_iconst (v := 1) K d_P_addPair_25 (by decide) (lv_goto K.1 K.2.1 d_P_addPair_26 rfl k)) ?_
  have hb3 : (if ((z_pg σ 2) + (z_pg σ (b / 16 % 4))) ≤ 65535 then 0 else 1) < 2 := z_ite_ltB _ (by omega) (by omega)
  refine pkv K (c_takeCarry (σ := σ) (v := (if ((z_pg σ 2) + (z_pg σ (b / 16 % 4))) ≤ 65535 then 0 else 1)) l D cI a hO (by omega)) (cw_P_202 K (Nat.le_of_ble_eq_true rfl) (Nat.le_of_ble_eq_true rfl)) hw (va_recv (ci := 2) (q0 := 2) hw.2.2.2.1 hw.1 rfl rfl) rfl hl.1 rfl (Nat.le_of_ble_eq_true rfl) d_P_addPair_30 ⟨Nat.zero_le _, Nat.zero_le _⟩ (fun H locs hw => ?_)
  have hO4 : z_Ok (z_s_ca σ (if ((z_pg σ 2) + (z_pg σ (b / 16 % 4))) ≤ 65535 then 0 else 1)) := z_ok_ca hO (by omega)
  refine lv_aload_n K.1 K.2.1 d_P_addPair_33 rfl (lv_at hl 1 rfl) ?_
  refine nv_iconst (v := 2) K d_P_addPair_34 (by decide) ?_
  refine lv_iload_n K.1 K.2.1 d_P_addPair_35 rfl (lv_at hl 0 rfl) ?_
  refine nv_ldc (v := 65535) K d_P_addPair_36 (K.2.2.2.2 _ (List.mem_cons_of_mem _ m_constant_PortProcessor_56_65535)) ?_
  refine nv_mask (M := 65536) K 16 rfl rfl d_P_addPair_38 ?_
  refine pkv K (c_writePair (σ := z_s_ca σ (if ((z_pg σ 2) + (z_pg σ (b / 16 % 4))) ≤ 65535 then 0 else 1)) (k := 2) (v := ((z_pg σ 2) + (z_pg σ (b / 16 % 4))) % 65536) l D cI a hO4 (by omega) (by omega)) (cw_P_196 K (Nat.le_of_ble_eq_true rfl) (Nat.le_of_ble_eq_true rfl)) hw (va_recv (ci := 0) (q0 := 0) hw.2.2.2.1 hw.1 rfl rfl) rfl hl.1 rfl (Nat.le_of_ble_eq_true rfl) d_P_addPair_39 ⟨Nat.zero_le _, Nat.zero_le _⟩ (fun H locs hw => ?_)
  have hO5 : z_Ok (z_ps (z_s_ca σ (if ((z_pg σ 2) + (z_pg σ (b / 16 % 4))) ≤ 65535 then 0 else 1)) 2 (((z_pg σ 2) + (z_pg σ (b / 16 % 4))) % 65536)) := z_ok_ps hO4 _ (by omega)
  refine nv_bipush (v := 10) K d_P_addPair_42 (by decide) ?_
  exact pri K hr hlk hw (by first | rfl | (simp; done) | (skip; rfl)) (by first | rfl | (simp; done) | (congr 1; omega) | (simp; omega)) d_P_addPair_44
set_option maxHeartbeats 4000000 in
set_option maxRecDepth 100000 in
theorem c_countPair {σ : z_St} {b : Nat} (l : Launch) (D : va_G) (cI : ClassId) (a : pAd) (hO : z_Ok σ) (hb : b < 256) : pCi l y_P_countPair w_P_countPair 1 22 D cI a [.ref a.1, .int (nI b)] σ (z_ps σ (b / 16 % 4) ((z_pg σ (b / 16 % 4) + (if b / 8 % 2 = 0 then 1 else 65535)) % 65536)) (nI 5) := by
  refine pci_of (cc := b_P_countPair) (maxL := 3) (ret := (some .int)) (by decide) rfl (Nat.le_of_ble_eq_true rfl) ?_
  intro p e s m below meth c ls K hr hlk hl hw
  have K : CallFix p m c b_P_countPair 3 s _ (_ :: T0) "PortProcessor" := K
  have hl : lv_has ls 3 [(0, .ref a.1), (1, .int (nI b))] := hl
  refine lv_iload_n K.1 K.2.1 d_P_countPair_0 rfl (lv_at hl 1 rfl) ?_
  refine nv_bipush (v := 8) K d_P_countPair_1 (by decide) ?_
  refine nv_iand K d_P_countPair_3 ?_
  have hb1 : b &&& 8 ≤ 8 := Nat.and_le_right
  refine nv_if_ne K (by omega) d_P_countPair_4 rfl (fun h2 => ?_) (fun h2 => ?_)
  · refine lv_iconst (v := -1) K.1 K.2.1 d_P_countPair_11 (by decide) ?_
    refine lv_istore_n (lv' := [(2, .int (-1)), (0, .ref a.1), (1, .int (nI b))]) K.1 K.2.1 d_P_countPair_12 rfl hl (by decide) rfl (fun ls hl => ?_)
    refine lv_aload_n K.1 K.2.1 d_P_countPair_13 rfl (lv_at hl 1 rfl) ?_
    refine lv_iload_n K.1 K.2.1 d_P_countPair_14 rfl (lv_at hl 2 rfl) ?_
    refine psi K (c_pairOf (σ := σ) (b := b) l D cI a hO (by omega)) (cw_P_190 K (Nat.le_of_ble_eq_true rfl) (Nat.le_of_ble_eq_true rfl)) hw rfl hl.1 rfl (Nat.le_of_ble_eq_true rfl) d_P_countPair_15 ⟨Nat.zero_le _, Nat.zero_le _⟩ (fun H locs hw => ?_)
    refine lv_aload_n K.1 K.2.1 d_P_countPair_18 rfl (lv_at hl 1 rfl) ?_
    refine lv_iload_n K.1 K.2.1 d_P_countPair_19 rfl (lv_at hl 2 rfl) ?_
    refine psi K (c_pairOf (σ := σ) (b := b) l D cI a hO (by omega)) (cw_P_190 K (Nat.le_of_ble_eq_true rfl) (Nat.le_of_ble_eq_true rfl)) hw rfl hl.1 rfl (Nat.le_of_ble_eq_true rfl) d_P_countPair_20 ⟨Nat.zero_le _, Nat.zero_le _⟩ (fun H locs hw => ?_)
    refine pki K (c_readPair (σ := σ) (k := b / 16 % 4) l D cI a hO (by omega)) (cw_P_199 K (Nat.le_of_ble_eq_true rfl) (Nat.le_of_ble_eq_true rfl)) hw (va_recv (ci := 0) (q0 := 0) hw.2.2.2.1 hw.1 rfl rfl) rfl hl.1 rfl (Nat.le_of_ble_eq_true rfl) d_P_countPair_23 ⟨Nat.zero_le _, Nat.zero_le _⟩ (fun H locs hw => ?_)
    have hb3 : z_pg σ (b / 16 % 4) < 65536 := z_pg_lt hO _
    refine lv_iload_n K.1 K.2.1 d_P_countPair_26 rfl (lv_at hl 0 rfl) ?_
    refine lv_iadd K.1 K.2.1 d_P_countPair_27 ?_
    refine nv_ldc (v := 65535) K d_P_countPair_28 (K.2.2.2.2 _ (List.mem_cons_of_mem _ m_constant_PortProcessor_56_65535)) ?_
    refine lv_iand K.1 K.2.1 d_P_countPair_30 (nv_as K (nz_addm1 (by omega)) ?_)
    refine pkv K (c_writePair (σ := σ) (k := b / 16 % 4) (v := ((z_pg σ (b / 16 % 4)) + 65535) % 65536) l D cI a hO (by omega) (by omega)) (cw_P_196 K (Nat.le_of_ble_eq_true rfl) (Nat.le_of_ble_eq_true rfl)) hw (va_recv (ci := 0) (q0 := 0) hw.2.2.2.1 hw.1 rfl rfl) rfl hl.1 rfl (Nat.le_of_ble_eq_true rfl) d_P_countPair_31 ⟨Nat.zero_le _, Nat.zero_le _⟩ (fun H locs hw => ?_)
    have hO4 : z_Ok (z_ps σ (b / 16 % 4) (((z_pg σ (b / 16 % 4)) + 65535) % 65536)) := z_ok_ps hO _ (by omega)
    refine nv_iconst (v := 5) K d_P_countPair_34 (by decide) ?_
    exact pri K hr hlk hw (by first | rfl | (simp [h2]; done) | (simp only [h2]; rfl)) (by first | rfl | (simp [h2]; done) | (congr 1; omega) | (simp [h2]; omega)) d_P_countPair_35
  · refine nv_iconst (v := 1) K d_P_countPair_7 (by decide) ?_
    refine lv_goto K.1 K.2.1 d_P_countPair_8 rfl ?_
    refine lv_istore_n (lv' := [(2, .int (nI 1)), (0, .ref a.1), (1, .int (nI b))]) K.1 K.2.1 d_P_countPair_12 rfl hl (by decide) rfl (fun ls hl => ?_)
    refine lv_aload_n K.1 K.2.1 d_P_countPair_13 rfl (lv_at hl 1 rfl) ?_
    refine lv_iload_n K.1 K.2.1 d_P_countPair_14 rfl (lv_at hl 2 rfl) ?_
    refine psi K (c_pairOf (σ := σ) (b := b) l D cI a hO (by omega)) (cw_P_190 K (Nat.le_of_ble_eq_true rfl) (Nat.le_of_ble_eq_true rfl)) hw rfl hl.1 rfl (Nat.le_of_ble_eq_true rfl) d_P_countPair_15 ⟨Nat.zero_le _, Nat.zero_le _⟩ (fun H locs hw => ?_)
    refine lv_aload_n K.1 K.2.1 d_P_countPair_18 rfl (lv_at hl 1 rfl) ?_
    refine lv_iload_n K.1 K.2.1 d_P_countPair_19 rfl (lv_at hl 2 rfl) ?_
    refine psi K (c_pairOf (σ := σ) (b := b) l D cI a hO (by omega)) (cw_P_190 K (Nat.le_of_ble_eq_true rfl) (Nat.le_of_ble_eq_true rfl)) hw rfl hl.1 rfl (Nat.le_of_ble_eq_true rfl) d_P_countPair_20 ⟨Nat.zero_le _, Nat.zero_le _⟩ (fun H locs hw => ?_)
    refine pki K (c_readPair (σ := σ) (k := b / 16 % 4) l D cI a hO (by omega)) (cw_P_199 K (Nat.le_of_ble_eq_true rfl) (Nat.le_of_ble_eq_true rfl)) hw (va_recv (ci := 0) (q0 := 0) hw.2.2.2.1 hw.1 rfl rfl) rfl hl.1 rfl (Nat.le_of_ble_eq_true rfl) d_P_countPair_23 ⟨Nat.zero_le _, Nat.zero_le _⟩ (fun H locs hw => ?_)
    have hb5 : z_pg σ (b / 16 % 4) < 65536 := z_pg_lt hO _
    refine lv_iload_n K.1 K.2.1 d_P_countPair_26 rfl (lv_at hl 0 rfl) ?_
    refine nv_iadd K d_P_countPair_27 ?_
    refine nv_ldc (v := 65535) K d_P_countPair_28 (K.2.2.2.2 _ (List.mem_cons_of_mem _ m_constant_PortProcessor_56_65535)) ?_
    refine nv_mask (M := 65536) K 16 rfl rfl d_P_countPair_30 ?_
    refine pkv K (c_writePair (σ := σ) (k := b / 16 % 4) (v := ((z_pg σ (b / 16 % 4)) + 1) % 65536) l D cI a hO (by omega) (by omega)) (cw_P_196 K (Nat.le_of_ble_eq_true rfl) (Nat.le_of_ble_eq_true rfl)) hw (va_recv (ci := 0) (q0 := 0) hw.2.2.2.1 hw.1 rfl rfl) rfl hl.1 rfl (Nat.le_of_ble_eq_true rfl) d_P_countPair_31 ⟨Nat.zero_le _, Nat.zero_le _⟩ (fun H locs hw => ?_)
    have hO6 : z_Ok (z_ps σ (b / 16 % 4) (((z_pg σ (b / 16 % 4)) + 1) % 65536)) := z_ok_ps hO _ (by omega)
    refine nv_iconst (v := 5) K d_P_countPair_34 (by decide) ?_
    exact pri K hr hlk hw (by first | rfl | (simp [h2]; done) | (simp only [h2]; rfl)) (by first | rfl | (simp [h2]; done) | (congr 1; omega) | (simp [h2]; omega)) d_P_countPair_35
set_option maxHeartbeats 4000000 in
set_option maxRecDepth 100000 in
theorem c_storeHl {σ : z_St} {x : Nat} (l : Launch) (D : va_G) (cI : ClassId) (a : pAd) (hO : z_Ok σ) (hx : x < 65536) : pCi l y_P_storeHl w_P_storeHl 1 22 D cI a [.ref a.1, .int (nI x)] σ (z_wr (z_wr σ x (z_x_reg σ 5)) ((x + 1) % 65536) (z_x_reg σ 4)) (nI 16) := by
  refine pci_of (cc := b_P_storeHl) (maxL := 2) (ret := (some .int)) (by decide) rfl (Nat.le_of_ble_eq_true rfl) ?_
  intro p e s m below meth c ls K hr hlk hl hw
  have K : CallFix p m c b_P_storeHl 2 s _ (_ :: T0) "PortProcessor" := K
  have hl : lv_has ls 2 [(0, .ref a.1), (1, .int (nI x))] := hl
  refine lv_aload_n K.1 K.2.1 d_P_storeHl_0 rfl (lv_at hl 0 rfl) ?_
  refine pg_memory K hw d_P_storeHl_1 ?_
  refine lv_iload_n K.1 K.2.1 d_P_storeHl_4 rfl (lv_at hl 1 rfl) ?_
  refine lv_aload_n K.1 K.2.1 d_P_storeHl_5 rfl (lv_at hl 0 rfl) ?_
  refine pg_registers K hw d_P_storeHl_6 ?_
  refine nv_iconst (v := 5) K d_P_storeHl_9 (by decide) ?_
  refine pl_reg (i := 5) (v := z_x_reg σ 5) K hw (by omega) rfl d_P_storeHl_10 ?_
  have hb1 : z_x_reg σ 5 < 256 := z_k_reg hO _
  refine pkv K (c_write (σ := σ) (x := x) (v := z_x_reg σ 5) l D cI a hO (by omega) (by omega)) (cw_P_46 K (Nat.le_of_ble_eq_true rfl) (Nat.le_of_ble_eq_true rfl)) hw (va_recv (ci := 1) (q0 := 1) hw.2.2.2.1 hw.1 rfl rfl) rfl hl.1 rfl (Nat.le_of_ble_eq_true rfl) d_P_storeHl_11 ⟨Nat.zero_le _, Nat.zero_le _⟩ (fun H locs hw => ?_)
  have hO2 : z_Ok (z_wr σ x (z_x_reg σ 5)) := z_ok_wr hO _ (by omega)
  refine lv_aload_n K.1 K.2.1 d_P_storeHl_14 rfl (lv_at hl 0 rfl) ?_
  refine pg_memory K hw d_P_storeHl_15 ?_
  refine lv_iload_n K.1 K.2.1 d_P_storeHl_18 rfl (lv_at hl 1 rfl) ?_
  refine nv_iconst (v := 1) K d_P_storeHl_19 (by decide) ?_
  refine nv_iadd K d_P_storeHl_20 ?_
  refine nv_ldc (v := 65535) K d_P_storeHl_21 (K.2.2.2.2 _ (List.mem_cons_of_mem _ m_constant_PortProcessor_56_65535)) ?_
  refine nv_mask (M := 65536) K 16 rfl rfl d_P_storeHl_23 ?_
  refine lv_aload_n K.1 K.2.1 d_P_storeHl_24 rfl (lv_at hl 0 rfl) ?_
  refine pg_registers K hw d_P_storeHl_25 ?_
  refine nv_iconst (v := 4) K d_P_storeHl_28 (by decide) ?_
  refine pl_reg (i := 4) (v := z_x_reg σ 4) K hw (by omega) rfl d_P_storeHl_29 ?_
  have hb3 : z_x_reg σ 4 < 256 := z_k_reg hO2 _
  refine pkv K (c_write (σ := z_wr σ x (z_x_reg σ 5)) (x := (x + 1) % 65536) (v := z_x_reg σ 4) l D cI a hO2 (by omega) (by omega)) (cw_P_46 K (Nat.le_of_ble_eq_true rfl) (Nat.le_of_ble_eq_true rfl)) hw (va_recv (ci := 1) (q0 := 1) hw.2.2.2.1 hw.1 rfl rfl) rfl hl.1 rfl (Nat.le_of_ble_eq_true rfl) d_P_storeHl_30 ⟨Nat.zero_le _, Nat.zero_le _⟩ (fun H locs hw => ?_)
  have hO4 : z_Ok (z_wr (z_wr σ x (z_x_reg σ 5)) ((x + 1) % 65536) (z_x_reg σ 4)) := z_ok_wr hO2 _ (by omega)
  refine nv_bipush (v := 16) K d_P_storeHl_33 (by decide) ?_
  exact pri K hr hlk hw (by first | rfl | (simp; done) | (skip; rfl)) (by first | rfl | (simp; done) | (congr 1; omega) | (simp; omega)) d_P_storeHl_35
set_option maxHeartbeats 4000000 in
set_option maxRecDepth 100000 in
theorem c_fetchHl {σ : z_St} {x : Nat} (l : Launch) (D : va_G) (cI : ClassId) (a : pAd) (hO : z_Ok σ) (hx : x < 65536) : pCi l y_P_fetchHl w_P_fetchHl 1 21 D cI a [.ref a.1, .int (nI x)] σ (z_s_reg σ (z_fs (z_fs (z_x_reg σ) 5 (z_rd σ x)) 4 (z_rd σ ((x + 1) % 65536)))) (nI 16) := by
  refine pci_of (cc := b_P_fetchHl) (maxL := 2) (ret := (some .int)) (by decide) rfl (Nat.le_of_ble_eq_true rfl) ?_
  intro p e s m below meth c ls K hr hlk hl hw
  have K : CallFix p m c b_P_fetchHl 2 s _ (_ :: T0) "PortProcessor" := K
  have hl : lv_has ls 2 [(0, .ref a.1), (1, .int (nI x))] := hl
  refine lv_aload_n K.1 K.2.1 d_P_fetchHl_0 rfl (lv_at hl 0 rfl) ?_
  refine pg_registers K hw d_P_fetchHl_1 ?_
  refine nv_iconst (v := 5) K d_P_fetchHl_4 (by decide) ?_
  refine lv_aload_n K.1 K.2.1 d_P_fetchHl_5 rfl (lv_at hl 0 rfl) ?_
  refine pg_memory K hw d_P_fetchHl_6 ?_
  refine lv_iload_n K.1 K.2.1 d_P_fetchHl_9 rfl (lv_at hl 1 rfl) ?_
  refine pki K (c_read (σ := σ) (x := x) l D cI a hO (by omega)) (cw_P_52 K (Nat.le_of_ble_eq_true rfl) (Nat.le_of_ble_eq_true rfl)) hw (va_recv (ci := 1) (q0 := 1) hw.2.2.2.1 hw.1 rfl rfl) rfl hl.1 rfl (Nat.le_of_ble_eq_true rfl) d_P_fetchHl_10 ⟨Nat.zero_le _, Nat.zero_le _⟩ (fun H locs hw => ?_)
  have hb1 : z_rd σ x < 256 := z_rd_lt hO _
  refine ps_reg (i := 5) (v := z_rd σ x) K hw (by omega) d_P_fetchHl_13 (fun H locs hw => ?_)
  have hO2 : z_Ok (z_s_reg σ (z_fs (z_x_reg σ) 5 (z_rd σ x))) := z_ok_reg hO (z_fs_lt (z_k_reg hO) (by omega))
  refine lv_aload_n K.1 K.2.1 d_P_fetchHl_14 rfl (lv_at hl 0 rfl) ?_
  refine pg_registers K hw d_P_fetchHl_15 ?_
  refine nv_iconst (v := 4) K d_P_fetchHl_18 (by decide) ?_
  refine lv_aload_n K.1 K.2.1 d_P_fetchHl_19 rfl (lv_at hl 0 rfl) ?_
  refine pg_memory K hw d_P_fetchHl_20 ?_
  refine lv_iload_n K.1 K.2.1 d_P_fetchHl_23 rfl (lv_at hl 1 rfl) ?_
  refine nv_iconst (v := 1) K d_P_fetchHl_24 (by decide) ?_
  refine nv_iadd K d_P_fetchHl_25 ?_
  refine nv_ldc (v := 65535) K d_P_fetchHl_26 (K.2.2.2.2 _ (List.mem_cons_of_mem _ m_constant_PortProcessor_56_65535)) ?_
  refine nv_mask (M := 65536) K 16 rfl rfl d_P_fetchHl_28 ?_
  refine pki K (c_read (σ := z_s_reg σ (z_fs (z_x_reg σ) 5 (z_rd σ x))) (x := (x + 1) % 65536) l D cI a hO2 (by omega)) (cw_P_52 K (Nat.le_of_ble_eq_true rfl) (Nat.le_of_ble_eq_true rfl)) hw (va_recv (ci := 1) (q0 := 1) hw.2.2.2.1 hw.1 rfl rfl) rfl hl.1 rfl (Nat.le_of_ble_eq_true rfl) d_P_fetchHl_29 ⟨Nat.zero_le _, Nat.zero_le _⟩ (fun H locs hw => ?_)
  refine nv_as K (y := nI (z_rd σ ((x + 1) % 65536))) rfl ?_
  have hb3 : z_rd σ ((x + 1) % 65536) < 256 := z_rd_lt hO2 _
  refine ps_reg (i := 4) (v := z_rd σ ((x + 1) % 65536)) K hw (by omega) d_P_fetchHl_32 (fun H locs hw => ?_)
  have hO4 : z_Ok (z_s_reg (z_s_reg σ (z_fs (z_x_reg σ) 5 (z_rd σ x))) (z_fs (z_fs (z_x_reg σ) 5 (z_rd σ x)) 4 (z_rd σ ((x + 1) % 65536)))) := z_ok_reg hO2 (z_fs_lt (z_k_reg hO2) (by omega))
  refine nv_bipush (v := 16) K d_P_fetchHl_33 (by decide) ?_
  exact pri K hr hlk hw (by first | rfl | (simp; done) | (skip; rfl)) (by first | rfl | (simp; done) | (congr 1; omega) | (simp; omega)) d_P_fetchHl_35
set_option maxHeartbeats 4000000 in
set_option maxRecDepth 100000 in
theorem c_storeOrFetch {σ : z_St} {b : Nat} (l : Launch) (D : va_G) (cI : ClassId) (a : pAd) (hO : z_Ok σ) (hb : b < 64) : pCi l y_P_storeOrFetch w_P_storeOrFetch 3 63 D cI a [.ref a.1, .int (nI b)] σ (z_e2 σ (b / 8)) (nI (z_t2 (b / 8))) := by
  refine pci_of (cc := b_P_storeOrFetch) (maxL := 2) (ret := (some .int)) (by decide) rfl (Nat.le_of_ble_eq_true rfl) ?_
  intro p e s m below meth c ls K hr hlk hl hw
  have K : CallFix p m c b_P_storeOrFetch 2 s _ (_ :: T0) "PortProcessor" := K
  have hl : lv_has ls 2 [(0, .ref a.1), (1, .int (nI b))] := hl
  refine lv_iload_n K.1 K.2.1 d_P_storeOrFetch_0 rfl (lv_at hl 1 rfl) ?_
  refine nv_iconst (v := 3) K d_P_storeOrFetch_1 (by decide) ?_
  refine nv_ishr (M := 8) K (by omega) rfl (by omega) d_P_storeOrFetch_2 ?_
  rcases (by omega : (b / 8) = 0 ∨ (b / 8) = 1 ∨ (b / 8) = 2 ∨ (b / 8) = 3 ∨ (b / 8) = 4 ∨ (b / 8) = 5 ∨ (b / 8) = 6 ∨ (b / 8) = 7) with h1 | h1 | h1 | h1 | h1 | h1 | h1 | h1
  · refine nv_as K (congrArg nI h1) ?_
    refine nv_tabIn (a := 0) (tgt := 44) K d_P_storeOrFetch_3 (by decide) (by decide) (by decide) rfl rfl ?_
    refine lv_aload_n K.1 K.2.1 d_P_storeOrFetch_44 rfl (lv_at hl 0 rfl) ?_
    refine pg_memory K hw d_P_storeOrFetch_45 ?_
    refine lv_aload_n K.1 K.2.1 d_P_storeOrFetch_48 rfl (lv_at hl 0 rfl) ?_
    refine nv_iconst (v := 0) K d_P_storeOrFetch_49 (by decide) ?_
    refine pki K (c_readPair (σ := σ) (k := 0) l D cI a hO (by omega)) (cw_P_199 K (Nat.le_of_ble_eq_true rfl) (Nat.le_of_ble_eq_true rfl)) hw (va_recv (ci := 0) (q0 := 0) hw.2.2.2.1 hw.1 rfl rfl) rfl hl.1 rfl (Nat.le_of_ble_eq_true rfl) d_P_storeOrFetch_50 ⟨Nat.zero_le _, Nat.zero_le _⟩ (fun H locs hw => ?_)
    have hb2 : z_pg σ 0 < 65536 := z_pg_lt hO _
    refine lv_aload_n K.1 K.2.1 d_P_storeOrFetch_53 rfl (lv_at hl 0 rfl) ?_
    refine pg_registers K hw d_P_storeOrFetch_54 ?_
    refine nv_bipush (v := 7) K d_P_storeOrFetch_57 (by decide) ?_
    refine pl_reg (i := 7) (v := z_x_reg σ 7) K hw (by omega) rfl d_P_storeOrFetch_59 ?_
    have hb3 : z_x_reg σ 7 < 256 := z_k_reg hO _
    refine pkv K (c_write (σ := σ) (x := z_pg σ 0) (v := z_x_reg σ 7) l D cI a hO (by omega) (by omega)) (cw_P_46 K (Nat.le_of_ble_eq_true rfl) (Nat.le_of_ble_eq_true rfl)) hw (va_recv (ci := 1) (q0 := 1) hw.2.2.2.1 hw.1 rfl rfl) rfl hl.1 rfl (Nat.le_of_ble_eq_true rfl) d_P_storeOrFetch_60 ⟨Nat.zero_le _, Nat.zero_le _⟩ (fun H locs hw => ?_)
    have hO4 : z_Ok (z_wr σ (z_pg σ 0) (z_x_reg σ 7)) := z_ok_wr hO _ (by omega)
    refine nv_bipush (v := 7) K d_P_storeOrFetch_63 (by decide) ?_
    exact pri K hr hlk hw (by rw [h1]; rfl) (by rw [h1]; rfl) d_P_storeOrFetch_65
  · refine nv_as K (congrArg nI h1) ?_
    refine nv_tabIn (a := 1) (tgt := 66) K d_P_storeOrFetch_3 (by decide) (by decide) (by decide) rfl rfl ?_
    refine lv_aload_n K.1 K.2.1 d_P_storeOrFetch_66 rfl (lv_at hl 0 rfl) ?_
    refine pg_registers K hw d_P_storeOrFetch_67 ?_
    refine nv_bipush (v := 7) K d_P_storeOrFetch_70 (by decide) ?_
    refine lv_aload_n K.1 K.2.1 d_P_storeOrFetch_72 rfl (lv_at hl 0 rfl) ?_
    refine pg_memory K hw d_P_storeOrFetch_73 ?_
    refine lv_aload_n K.1 K.2.1 d_P_storeOrFetch_76 rfl (lv_at hl 0 rfl) ?_
    refine nv_iconst (v := 0) K d_P_storeOrFetch_77 (by decide) ?_
    refine pki K (c_readPair (σ := σ) (k := 0) l D cI a hO (by omega)) (cw_P_199 K (Nat.le_of_ble_eq_true rfl) (Nat.le_of_ble_eq_true rfl)) hw (va_recv (ci := 0) (q0 := 0) hw.2.2.2.1 hw.1 rfl rfl) rfl hl.1 rfl (Nat.le_of_ble_eq_true rfl) d_P_storeOrFetch_78 ⟨Nat.zero_le _, Nat.zero_le _⟩ (fun H locs hw => ?_)
    have hb5 : z_pg σ 0 < 65536 := z_pg_lt hO _
    refine pki K (c_read (σ := σ) (x := z_pg σ 0) l D cI a hO (by omega)) (cw_P_52 K (Nat.le_of_ble_eq_true rfl) (Nat.le_of_ble_eq_true rfl)) hw (va_recv (ci := 1) (q0 := 1) hw.2.2.2.1 hw.1 rfl rfl) rfl hl.1 rfl (Nat.le_of_ble_eq_true rfl) d_P_storeOrFetch_81 ⟨Nat.zero_le _, Nat.zero_le _⟩ (fun H locs hw => ?_)
    have hb6 : z_rd σ (z_pg σ 0) < 256 := z_rd_lt hO _
    refine ps_reg (i := 7) (v := z_rd σ (z_pg σ 0)) K hw (by omega) d_P_storeOrFetch_84 (fun H locs hw => ?_)
    have hO7 : z_Ok (z_s_reg σ (z_fs (z_x_reg σ) 7 (z_rd σ (z_pg σ 0)))) := z_ok_reg hO (z_fs_lt (z_k_reg hO) (by omega))
    refine nv_bipush (v := 7) K d_P_storeOrFetch_85 (by decide) ?_
    exact pri K hr hlk hw (by rw [h1]; rfl) (by rw [h1]; rfl) d_P_storeOrFetch_87
  · refine nv_as K (congrArg nI h1) ?_
    refine nv_tabIn (a := 2) (tgt := 88) K d_P_storeOrFetch_3 (by decide) (by decide) (by decide) rfl rfl ?_
    refine lv_aload_n K.1 K.2.1 d_P_storeOrFetch_88 rfl (lv_at hl 0 rfl) ?_
    refine pg_memory K hw d_P_storeOrFetch_89 ?_
    refine lv_aload_n K.1 K.2.1 d_P_storeOrFetch_92 rfl (lv_at hl 0 rfl) ?_
    refine nv_iconst (v := 1) K d_P_storeOrFetch_93 (by decide) ?_
    refine pki K (c_readPair (σ := σ) (k := 1) l D cI a hO (by omega)) (cw_P_199 K (Nat.le_of_ble_eq_true rfl) (Nat.le_of_ble_eq_true rfl)) hw (va_recv (ci := 0) (q0 := 0) hw.2.2.2.1 hw.1 rfl rfl) rfl hl.1 rfl (Nat.le_of_ble_eq_true rfl) d_P_storeOrFetch_94 ⟨Nat.zero_le _, Nat.zero_le _⟩ (fun H locs hw => ?_)
    have hb8 : z_pg σ 1 < 65536 := z_pg_lt hO _
    refine lv_aload_n K.1 K.2.1 d_P_storeOrFetch_97 rfl (lv_at hl 0 rfl) ?_
    refine pg_registers K hw d_P_storeOrFetch_98 ?_
    refine nv_bipush (v := 7) K d_P_storeOrFetch_101 (by decide) ?_
    refine pl_reg (i := 7) (v := z_x_reg σ 7) K hw (by omega) rfl d_P_storeOrFetch_103 ?_
    have hb9 : z_x_reg σ 7 < 256 := z_k_reg hO _
    refine pkv K (c_write (σ := σ) (x := z_pg σ 1) (v := z_x_reg σ 7) l D cI a hO (by omega) (by omega)) (cw_P_46 K (Nat.le_of_ble_eq_true rfl) (Nat.le_of_ble_eq_true rfl)) hw (va_recv (ci := 1) (q0 := 1) hw.2.2.2.1 hw.1 rfl rfl) rfl hl.1 rfl (Nat.le_of_ble_eq_true rfl) d_P_storeOrFetch_104 ⟨Nat.zero_le _, Nat.zero_le _⟩ (fun H locs hw => ?_)
    have hO10 : z_Ok (z_wr σ (z_pg σ 1) (z_x_reg σ 7)) := z_ok_wr hO _ (by omega)
    refine nv_bipush (v := 7) K d_P_storeOrFetch_107 (by decide) ?_
    exact pri K hr hlk hw (by rw [h1]; rfl) (by rw [h1]; rfl) d_P_storeOrFetch_109
  · refine nv_as K (congrArg nI h1) ?_
    refine nv_tabIn (a := 3) (tgt := 110) K d_P_storeOrFetch_3 (by decide) (by decide) (by decide) rfl rfl ?_
    refine lv_aload_n K.1 K.2.1 d_P_storeOrFetch_110 rfl (lv_at hl 0 rfl) ?_
    refine pg_registers K hw d_P_storeOrFetch_111 ?_
    refine nv_bipush (v := 7) K d_P_storeOrFetch_114 (by decide) ?_
    refine lv_aload_n K.1 K.2.1 d_P_storeOrFetch_116 rfl (lv_at hl 0 rfl) ?_
    refine pg_memory K hw d_P_storeOrFetch_117 ?_
    refine lv_aload_n K.1 K.2.1 d_P_storeOrFetch_120 rfl (lv_at hl 0 rfl) ?_
    refine nv_iconst (v := 1) K d_P_storeOrFetch_121 (by decide) ?_
    refine pki K (c_readPair (σ := σ) (k := 1) l D cI a hO (by omega)) (cw_P_199 K (Nat.le_of_ble_eq_true rfl) (Nat.le_of_ble_eq_true rfl)) hw (va_recv (ci := 0) (q0 := 0) hw.2.2.2.1 hw.1 rfl rfl) rfl hl.1 rfl (Nat.le_of_ble_eq_true rfl) d_P_storeOrFetch_122 ⟨Nat.zero_le _, Nat.zero_le _⟩ (fun H locs hw => ?_)
    have hb11 : z_pg σ 1 < 65536 := z_pg_lt hO _
    refine pki K (c_read (σ := σ) (x := z_pg σ 1) l D cI a hO (by omega)) (cw_P_52 K (Nat.le_of_ble_eq_true rfl) (Nat.le_of_ble_eq_true rfl)) hw (va_recv (ci := 1) (q0 := 1) hw.2.2.2.1 hw.1 rfl rfl) rfl hl.1 rfl (Nat.le_of_ble_eq_true rfl) d_P_storeOrFetch_125 ⟨Nat.zero_le _, Nat.zero_le _⟩ (fun H locs hw => ?_)
    have hb12 : z_rd σ (z_pg σ 1) < 256 := z_rd_lt hO _
    refine ps_reg (i := 7) (v := z_rd σ (z_pg σ 1)) K hw (by omega) d_P_storeOrFetch_128 (fun H locs hw => ?_)
    have hO13 : z_Ok (z_s_reg σ (z_fs (z_x_reg σ) 7 (z_rd σ (z_pg σ 1)))) := z_ok_reg hO (z_fs_lt (z_k_reg hO) (by omega))
    refine nv_bipush (v := 7) K d_P_storeOrFetch_129 (by decide) ?_
    exact pri K hr hlk hw (by rw [h1]; rfl) (by rw [h1]; rfl) d_P_storeOrFetch_131
  · refine nv_as K (congrArg nI h1) ?_
    refine nv_tabIn (a := 4) (tgt := 132) K d_P_storeOrFetch_3 (by decide) (by decide) (by decide) rfl rfl ?_
    refine lv_aload_n K.1 K.2.1 d_P_storeOrFetch_132 rfl (lv_at hl 0 rfl) ?_
    refine lv_aload_n K.1 K.2.1 d_P_storeOrFetch_133 rfl (lv_at hl 0 rfl) ?_
    refine pki K (c_nextTwoBytes (σ := σ) l D cI a hO) (cw_P_193 K (Nat.le_of_ble_eq_true rfl) (Nat.le_of_ble_eq_true rfl)) hw (va_recv (ci := 0) (q0 := 0) hw.2.2.2.1 hw.1 rfl rfl) rfl hl.1 rfl (Nat.le_of_ble_eq_true rfl) d_P_storeOrFetch_134 ⟨Nat.zero_le _, Nat.zero_le _⟩ (fun H locs hw => ?_)
    have hO14 : z_Ok (z_nn σ) := z_ok_nn hO
    have hb15 : z_nw σ < 65536 := z_nw_lt hO
    refine pki K (c_storeHl (σ := z_nn σ) (x := z_nw σ) l D cI a hO14 (by omega)) (cw_P_206 K (Nat.le_of_ble_eq_true rfl) (Nat.le_of_ble_eq_true rfl)) hw (va_recv (ci := 0) (q0 := 0) hw.2.2.2.1 hw.1 rfl rfl) rfl hl.1 rfl (Nat.le_of_ble_eq_true rfl) d_P_storeOrFetch_137 ⟨Nat.zero_le _, Nat.zero_le _⟩ (fun H locs hw => ?_)
    have hO16 : z_Ok (z_wr (z_wr (z_nn σ) (z_nw σ) (z_x_reg (z_nn σ) 5)) (((z_nw σ) + 1) % 65536) (z_x_reg (z_nn σ) 4)) := z_ok_wr (z_ok_wr hO14 _ (z_k_reg hO14 5)) _ (z_k_reg hO14 4)
    exact pri K hr hlk hw (by rw [h1]; rfl) (by rw [h1]; rfl) d_P_storeOrFetch_140
  · refine nv_as K (congrArg nI h1) ?_
    refine nv_tabIn (a := 5) (tgt := 141) K d_P_storeOrFetch_3 (by decide) (by decide) (by decide) rfl rfl ?_
    refine lv_aload_n K.1 K.2.1 d_P_storeOrFetch_141 rfl (lv_at hl 0 rfl) ?_
    refine lv_aload_n K.1 K.2.1 d_P_storeOrFetch_142 rfl (lv_at hl 0 rfl) ?_
    refine pki K (c_nextTwoBytes (σ := σ) l D cI a hO) (cw_P_193 K (Nat.le_of_ble_eq_true rfl) (Nat.le_of_ble_eq_true rfl)) hw (va_recv (ci := 0) (q0 := 0) hw.2.2.2.1 hw.1 rfl rfl) rfl hl.1 rfl (Nat.le_of_ble_eq_true rfl) d_P_storeOrFetch_143 ⟨Nat.zero_le _, Nat.zero_le _⟩ (fun H locs hw => ?_)
    have hO17 : z_Ok (z_nn σ) := z_ok_nn hO
    have hb18 : z_nw σ < 65536 := z_nw_lt hO
    refine pki K (c_fetchHl (σ := z_nn σ) (x := z_nw σ) l D cI a hO17 (by omega)) (cw_P_209 K (Nat.le_of_ble_eq_true rfl) (Nat.le_of_ble_eq_true rfl)) hw (va_recv (ci := 0) (q0 := 0) hw.2.2.2.1 hw.1 rfl rfl) rfl hl.1 rfl (Nat.le_of_ble_eq_true rfl) d_P_storeOrFetch_146 ⟨Nat.zero_le _, Nat.zero_le _⟩ (fun H locs hw => ?_)
    have hO19 : z_Ok (z_s_reg (z_nn σ) (z_fs (z_fs (z_x_reg (z_nn σ)) 5 (z_rd (z_nn σ) (z_nw σ))) 4 (z_rd (z_nn σ) (((z_nw σ) + 1) % 65536)))) := z_ok_reg hO17 (z_fs_lt (z_fs_lt (z_k_reg hO17) (z_rd_lt hO17 _)) (z_rd_lt hO17 _))
    exact pri K hr hlk hw (by rw [h1]; rfl) (by rw [h1]; rfl) d_P_storeOrFetch_149
  · refine nv_as K (congrArg nI h1) ?_
    refine nv_tabIn (a := 6) (tgt := 150) K d_P_storeOrFetch_3 (by decide) (by decide) (by decide) rfl rfl ?_
    refine lv_aload_n K.1 K.2.1 d_P_storeOrFetch_150 rfl (lv_at hl 0 rfl) ?_
    refine pg_memory K hw d_P_storeOrFetch_151 ?_
    refine lv_aload_n K.1 K.2.1 d_P_storeOrFetch_154 rfl (lv_at hl 0 rfl) ?_
    refine pki K (c_nextTwoBytes (σ := σ) l D cI a hO) (cw_P_193 K (Nat.le_of_ble_eq_true rfl) (Nat.le_of_ble_eq_true rfl)) hw (va_recv (ci := 0) (q0 := 0) hw.2.2.2.1 hw.1 rfl rfl) rfl hl.1 rfl (Nat.le_of_ble_eq_true rfl) d_P_storeOrFetch_155 ⟨Nat.zero_le _, Nat.zero_le _⟩ (fun H locs hw => ?_)
    have hO20 : z_Ok (z_nn σ) := z_ok_nn hO
    have hb21 : z_nw σ < 65536 := z_nw_lt hO
    refine lv_aload_n K.1 K.2.1 d_P_storeOrFetch_158 rfl (lv_at hl 0 rfl) ?_
    refine pg_registers K hw d_P_storeOrFetch_159 ?_
    refine nv_bipush (v := 7) K d_P_storeOrFetch_162 (by decide) ?_
    refine pl_reg (i := 7) (v := z_x_reg σ 7) K hw (by omega) rfl d_P_storeOrFetch_164 ?_
    have hb22 : z_x_reg σ 7 < 256 := z_k_reg hO20 _
    refine pkv K (c_write (σ := z_nn σ) (x := z_nw σ) (v := z_x_reg σ 7) l D cI a hO20 (by omega) (by omega)) (cw_P_46 K (Nat.le_of_ble_eq_true rfl) (Nat.le_of_ble_eq_true rfl)) hw (va_recv (ci := 1) (q0 := 1) hw.2.2.2.1 hw.1 rfl rfl) rfl hl.1 rfl (Nat.le_of_ble_eq_true rfl) d_P_storeOrFetch_165 ⟨Nat.zero_le _, Nat.zero_le _⟩ (fun H locs hw => ?_)
    have hO23 : z_Ok (z_wr (z_nn σ) (z_nw σ) (z_x_reg σ 7)) := z_ok_wr hO20 _ (by omega)
    refine nv_bipush (v := 13) K d_P_storeOrFetch_168 (by decide) ?_
    exact pri K hr hlk hw (by rw [h1]; rfl) (by rw [h1]; rfl) d_P_storeOrFetch_170
  · refine nv_as K (congrArg nI h1) ?_
    refine nv_tabOut (a := 7) (tgt := 171) K d_P_storeOrFetch_3 (by decide) (by decide) rfl ?_
    refine lv_aload_n K.1 K.2.1 d_P_storeOrFetch_171 rfl (lv_at hl 0 rfl) ?_
    refine pg_registers K hw d_P_storeOrFetch_172 ?_
    refine nv_bipush (v := 7) K d_P_storeOrFetch_175 (by decide) ?_
    refine lv_aload_n K.1 K.2.1 d_P_storeOrFetch_177 rfl (lv_at hl 0 rfl) ?_
    refine pg_memory K hw d_P_storeOrFetch_178 ?_
    refine lv_aload_n K.1 K.2.1 d_P_storeOrFetch_181 rfl (lv_at hl 0 rfl) ?_
    refine pki K (c_nextTwoBytes (σ := σ) l D cI a hO) (cw_P_193 K (Nat.le_of_ble_eq_true rfl) (Nat.le_of_ble_eq_true rfl)) hw (va_recv (ci := 0) (q0 := 0) hw.2.2.2.1 hw.1 rfl rfl) rfl hl.1 rfl (Nat.le_of_ble_eq_true rfl) d_P_storeOrFetch_182 ⟨Nat.zero_le _, Nat.zero_le _⟩ (fun H locs hw => ?_)
    have hO24 : z_Ok (z_nn σ) := z_ok_nn hO
    have hb25 : z_nw σ < 65536 := z_nw_lt hO
    refine pki K (c_read (σ := z_nn σ) (x := z_nw σ) l D cI a hO24 (by omega)) (cw_P_52 K (Nat.le_of_ble_eq_true rfl) (Nat.le_of_ble_eq_true rfl)) hw (va_recv (ci := 1) (q0 := 1) hw.2.2.2.1 hw.1 rfl rfl) rfl hl.1 rfl (Nat.le_of_ble_eq_true rfl) d_P_storeOrFetch_185 ⟨Nat.zero_le _, Nat.zero_le _⟩ (fun H locs hw => ?_)
    refine nv_as K (y := nI (z_rd σ (z_nw σ))) rfl ?_
    have hb26 : z_rd σ (z_nw σ) < 256 := z_rd_lt hO24 _
    refine ps_reg (i := 7) (v := z_rd σ (z_nw σ)) K hw (by omega) d_P_storeOrFetch_188 (fun H locs hw => ?_)
    have hO27 : z_Ok (z_s_reg (z_nn σ) (z_fs (z_x_reg σ) 7 (z_rd σ (z_nw σ)))) := z_ok_reg hO24 (z_fs_lt (z_k_reg hO24) (by omega))
    refine nv_bipush (v := 13) K d_P_storeOrFetch_189 (by decide) ?_
    exact pri K hr hlk hw (by rw [h1]; rfl) (by rw [h1]; rfl) d_P_storeOrFetch_191
set_option maxHeartbeats 4000000 in
set_option maxRecDepth 100000 in
theorem c_raise {σ : z_St} {b : Nat} (l : Launch) (D : va_G) (cI : ClassId) (a : pAd) (hO : z_Ok σ) (hb : b < 256) : pCi l y_P_raise w_P_raise 3 63 D cI a [.ref a.1, .int (nI b)] σ (z_rs (z_up σ (z_rg σ (b / 8 % 8))) (b / 8 % 8) ((z_rg σ (b / 8 % 8) + 1) % 256)) (nI (if b / 8 % 8 = 6 then 10 else 5)) := by
  refine pci_of (cc := b_P_raise) (maxL := 3) (ret := (some .int)) (by decide) rfl (Nat.le_of_ble_eq_true rfl) ?_
  intro p e s m below meth c ls K hr hlk hl hw
  have K : CallFix p m c b_P_raise 3 s _ (_ :: T0) "PortProcessor" := K
  have hl : lv_has ls 3 [(0, .ref a.1), (1, .int (nI b))] := hl
  refine lv_iload_n K.1 K.2.1 d_P_raise_0 rfl (lv_at hl 1 rfl) ?_
  refine psi K (c_targetOf (σ := σ) (b := b) l D cI a hO (by omega)) (cw_P_212 K (Nat.le_of_ble_eq_true rfl) (Nat.le_of_ble_eq_true rfl)) hw rfl hl.1 rfl (Nat.le_of_ble_eq_true rfl) d_P_raise_1 ⟨Nat.zero_le _, Nat.zero_le _⟩ (fun H locs hw => ?_)
  refine lv_istore_n (lv' := [(2, .int (nI (b / 8 % 8))), (0, .ref a.1), (1, .int (nI b))]) K.1 K.2.1 d_P_raise_4 rfl hl (by decide) rfl (fun ls hl => ?_)
  refine lv_aload_n K.1 K.2.1 d_P_raise_5 rfl (lv_at hl 1 rfl) ?_
  refine lv_iload_n K.1 K.2.1 d_P_raise_6 rfl (lv_at hl 0 rfl) ?_
  refine lv_aload_n K.1 K.2.1 d_P_raise_7 rfl (lv_at hl 1 rfl) ?_
  refine pg_flags K hw d_P_raise_8 ?_
  refine lv_aload_n K.1 K.2.1 d_P_raise_11 rfl (lv_at hl 1 rfl) ?_
  refine lv_iload_n K.1 K.2.1 d_P_raise_12 rfl (lv_at hl 0 rfl) ?_
  refine pki K (c_readRegister (σ := σ) (r := b / 8 % 8) l D cI a hO (by omega)) (cw_P_91 K (Nat.le_of_ble_eq_true rfl) (Nat.le_of_ble_eq_true rfl)) hw (va_recv (ci := 0) (q0 := 0) hw.2.2.2.1 hw.1 rfl rfl) rfl hl.1 rfl (Nat.le_of_ble_eq_true rfl) d_P_raise_13 ⟨Nat.zero_le _, Nat.zero_le _⟩ (fun H locs hw => ?_)
  have hb1 : z_rg σ (b / 8 % 8) < 256 := z_rg_lt hO _
  refine pki K (c_raised (σ := σ) (v := z_rg σ (b / 8 % 8)) l D cI a hO (by omega)) (cw_P_215 K (Nat.le_of_ble_eq_true rfl) (Nat.le_of_ble_eq_true rfl)) hw (va_recv (ci := 2) (q0 := 2) hw.2.2.2.1 hw.1 rfl rfl) rfl hl.1 rfl (Nat.le_of_ble_eq_true rfl) d_P_raise_16 ⟨Nat.zero_le _, Nat.zero_le _⟩ (fun H locs hw => ?_)
  have hO2 : z_Ok (z_up σ (z_rg σ (b / 8 % 8))) := z_ok_up hO _
  refine pkv K (c_writeRegister (σ := z_up σ (z_rg σ (b / 8 % 8))) (r := b / 8 % 8) (v := ((z_rg σ (b / 8 % 8)) + 1) % 256) l D cI a hO2 (by omega) (by omega)) (cw_P_218 K (Nat.le_of_ble_eq_true rfl) (Nat.le_of_ble_eq_true rfl)) hw (va_recv (ci := 0) (q0 := 0) hw.2.2.2.1 hw.1 rfl rfl) rfl hl.1 rfl (Nat.le_of_ble_eq_true rfl) d_P_raise_19 ⟨Nat.zero_le _, Nat.zero_le _⟩ (fun H locs hw => ?_)
  have hO3 : z_Ok (z_rs (z_up σ (z_rg σ (b / 8 % 8))) (b / 8 % 8) (((z_rg σ (b / 8 % 8)) + 1) % 256)) := z_ok_rs hO2 _ (by omega)
  refine lv_iload_n K.1 K.2.1 d_P_raise_22 rfl (lv_at hl 0 rfl) ?_
  refine nv_bipush (v := 6) K d_P_raise_23 (by decide) ?_
  refine nf_icmp_ne (u := 5) (v := 10) (Y := 34) K (by omega) (by omega) d_P_raise_25 rfl (fun _ k => nv_iconst (v := 5) K d_P_raise_33 (by decide) k) (fun _ k => nv_bipush (v := 10) K d_P_raise_28 (by decide) (lv_goto K.1 K.2.1 d_P_raise_30 rfl k)) ?_
  have hb4 : (if (b / 8 % 8) = 6 then 10 else 5) < 11 := z_ite_ltB _ (by omega) (by omega)
  exact pri K hr hlk hw (by first | rfl | (simp; done) | (skip; rfl)) (by first | rfl | (simp; done) | (congr 1; omega) | (simp; omega)) d_P_raise_34
set_option maxHeartbeats 4000000 in
set_option maxRecDepth 100000 in
theorem c_lower {σ : z_St} {b : Nat} (l : Launch) (D : va_G) (cI : ClassId) (a : pAd) (hO : z_Ok σ) (hb : b < 256) : pCi l y_P_lower w_P_lower 3 63 D cI a [.ref a.1, .int (nI b)] σ (z_rs (z_dn σ (z_rg σ (b / 8 % 8))) (b / 8 % 8) ((z_rg σ (b / 8 % 8) + 255) % 256)) (nI (if b / 8 % 8 = 6 then 10 else 5)) := by
  refine pci_of (cc := b_P_lower) (maxL := 3) (ret := (some .int)) (by decide) rfl (Nat.le_of_ble_eq_true rfl) ?_
  intro p e s m below meth c ls K hr hlk hl hw
  have K : CallFix p m c b_P_lower 3 s _ (_ :: T0) "PortProcessor" := K
  have hl : lv_has ls 3 [(0, .ref a.1), (1, .int (nI b))] := hl
  refine lv_iload_n K.1 K.2.1 d_P_lower_0 rfl (lv_at hl 1 rfl) ?_
  refine psi K (c_targetOf (σ := σ) (b := b) l D cI a hO (by omega)) (cw_P_212 K (Nat.le_of_ble_eq_true rfl) (Nat.le_of_ble_eq_true rfl)) hw rfl hl.1 rfl (Nat.le_of_ble_eq_true rfl) d_P_lower_1 ⟨Nat.zero_le _, Nat.zero_le _⟩ (fun H locs hw => ?_)
  refine lv_istore_n (lv' := [(2, .int (nI (b / 8 % 8))), (0, .ref a.1), (1, .int (nI b))]) K.1 K.2.1 d_P_lower_4 rfl hl (by decide) rfl (fun ls hl => ?_)
  refine lv_aload_n K.1 K.2.1 d_P_lower_5 rfl (lv_at hl 1 rfl) ?_
  refine lv_iload_n K.1 K.2.1 d_P_lower_6 rfl (lv_at hl 0 rfl) ?_
  refine lv_aload_n K.1 K.2.1 d_P_lower_7 rfl (lv_at hl 1 rfl) ?_
  refine pg_flags K hw d_P_lower_8 ?_
  refine lv_aload_n K.1 K.2.1 d_P_lower_11 rfl (lv_at hl 1 rfl) ?_
  refine lv_iload_n K.1 K.2.1 d_P_lower_12 rfl (lv_at hl 0 rfl) ?_
  refine pki K (c_readRegister (σ := σ) (r := b / 8 % 8) l D cI a hO (by omega)) (cw_P_91 K (Nat.le_of_ble_eq_true rfl) (Nat.le_of_ble_eq_true rfl)) hw (va_recv (ci := 0) (q0 := 0) hw.2.2.2.1 hw.1 rfl rfl) rfl hl.1 rfl (Nat.le_of_ble_eq_true rfl) d_P_lower_13 ⟨Nat.zero_le _, Nat.zero_le _⟩ (fun H locs hw => ?_)
  have hb1 : z_rg σ (b / 8 % 8) < 256 := z_rg_lt hO _
  refine pki K (c_lowered (σ := σ) (v := z_rg σ (b / 8 % 8)) l D cI a hO (by omega)) (cw_P_221 K (Nat.le_of_ble_eq_true rfl) (Nat.le_of_ble_eq_true rfl)) hw (va_recv (ci := 2) (q0 := 2) hw.2.2.2.1 hw.1 rfl rfl) rfl hl.1 rfl (Nat.le_of_ble_eq_true rfl) d_P_lower_16 ⟨Nat.zero_le _, Nat.zero_le _⟩ (fun H locs hw => ?_)
  have hO2 : z_Ok (z_dn σ (z_rg σ (b / 8 % 8))) := z_ok_dn hO _
  refine pkv K (c_writeRegister (σ := z_dn σ (z_rg σ (b / 8 % 8))) (r := b / 8 % 8) (v := ((z_rg σ (b / 8 % 8)) + 255) % 256) l D cI a hO2 (by omega) (by omega)) (cw_P_218 K (Nat.le_of_ble_eq_true rfl) (Nat.le_of_ble_eq_true rfl)) hw (va_recv (ci := 0) (q0 := 0) hw.2.2.2.1 hw.1 rfl rfl) rfl hl.1 rfl (Nat.le_of_ble_eq_true rfl) d_P_lower_19 ⟨Nat.zero_le _, Nat.zero_le _⟩ (fun H locs hw => ?_)
  have hO3 : z_Ok (z_rs (z_dn σ (z_rg σ (b / 8 % 8))) (b / 8 % 8) (((z_rg σ (b / 8 % 8)) + 255) % 256)) := z_ok_rs hO2 _ (by omega)
  refine lv_iload_n K.1 K.2.1 d_P_lower_22 rfl (lv_at hl 0 rfl) ?_
  refine nv_bipush (v := 6) K d_P_lower_23 (by decide) ?_
  refine nf_icmp_ne (u := 5) (v := 10) (Y := 34) K (by omega) (by omega) d_P_lower_25 rfl (fun _ k => nv_iconst (v := 5) K d_P_lower_33 (by decide) k) (fun _ k => nv_bipush (v := 10) K d_P_lower_28 (by decide) (lv_goto K.1 K.2.1 d_P_lower_30 rfl k)) ?_
  have hb4 : (if (b / 8 % 8) = 6 then 10 else 5) < 11 := z_ite_ltB _ (by omega) (by omega)
  exact pri K hr hlk hw (by first | rfl | (simp; done) | (skip; rfl)) (by first | rfl | (simp; done) | (congr 1; omega) | (simp; omega)) d_P_lower_34
set_option maxHeartbeats 4000000 in
set_option maxRecDepth 100000 in
theorem c_fillRegister {σ : z_St} {b : Nat} (l : Launch) (D : va_G) (cI : ClassId) (a : pAd) (hO : z_Ok σ) (hb : b < 256) : pCi l y_P_fillRegister w_P_fillRegister 2 44 D cI a [.ref a.1, .int (nI b)] σ (z_rs (z_nx σ) (b / 8 % 8) (z_nb σ)) (nI (if b / 8 % 8 = 6 then 10 else 7)) := by
  refine pci_of (cc := b_P_fillRegister) (maxL := 3) (ret := (some .int)) (by decide) rfl (Nat.le_of_ble_eq_true rfl) ?_
  intro p e s m below meth c ls K hr hlk hl hw
  have K : CallFix p m c b_P_fillRegister 3 s _ (_ :: T0) "PortProcessor" := K
  have hl : lv_has ls 3 [(0, .ref a.1), (1, .int (nI b))] := hl
  refine lv_iload_n K.1 K.2.1 d_P_fillRegister_0 rfl (lv_at hl 1 rfl) ?_
  refine psi K (c_targetOf (σ := σ) (b := b) l D cI a hO (by omega)) (cw_P_212 K (Nat.le_of_ble_eq_true rfl) (Nat.le_of_ble_eq_true rfl)) hw rfl hl.1 rfl (Nat.le_of_ble_eq_true rfl) d_P_fillRegister_1 ⟨Nat.zero_le _, Nat.zero_le _⟩ (fun H locs hw => ?_)
  refine lv_istore_n (lv' := [(2, .int (nI (b / 8 % 8))), (0, .ref a.1), (1, .int (nI b))]) K.1 K.2.1 d_P_fillRegister_4 rfl hl (by decide) rfl (fun ls hl => ?_)
  refine lv_aload_n K.1 K.2.1 d_P_fillRegister_5 rfl (lv_at hl 1 rfl) ?_
  refine lv_iload_n K.1 K.2.1 d_P_fillRegister_6 rfl (lv_at hl 0 rfl) ?_
  refine lv_aload_n K.1 K.2.1 d_P_fillRegister_7 rfl (lv_at hl 1 rfl) ?_
  refine pki K (c_nextByte (σ := σ) l D cI a hO) (cw_P_121 K (Nat.le_of_ble_eq_true rfl) (Nat.le_of_ble_eq_true rfl)) hw (va_recv (ci := 0) (q0 := 0) hw.2.2.2.1 hw.1 rfl rfl) rfl hl.1 rfl (Nat.le_of_ble_eq_true rfl) d_P_fillRegister_8 ⟨Nat.zero_le _, Nat.zero_le _⟩ (fun H locs hw => ?_)
  have hO1 : z_Ok (z_nx σ) := z_ok_nx hO
  have hb2 : z_nb σ < 256 := z_nb_lt hO
  refine pkv K (c_writeRegister (σ := z_nx σ) (r := b / 8 % 8) (v := z_nb σ) l D cI a hO1 (by omega) (by omega)) (cw_P_218 K (Nat.le_of_ble_eq_true rfl) (Nat.le_of_ble_eq_true rfl)) hw (va_recv (ci := 0) (q0 := 0) hw.2.2.2.1 hw.1 rfl rfl) rfl hl.1 rfl (Nat.le_of_ble_eq_true rfl) d_P_fillRegister_11 ⟨Nat.zero_le _, Nat.zero_le _⟩ (fun H locs hw => ?_)
  have hO3 : z_Ok (z_rs (z_nx σ) (b / 8 % 8) (z_nb σ)) := z_ok_rs hO1 _ (by omega)
  refine lv_iload_n K.1 K.2.1 d_P_fillRegister_14 rfl (lv_at hl 0 rfl) ?_
  refine nv_bipush (v := 6) K d_P_fillRegister_15 (by decide) ?_
  refine nf_icmp_ne (u := 7) (v := 10) (Y := 27) K (by omega) (by omega) d_P_fillRegister_17 rfl (fun _ k => nv_bipush (v := 7) K d_P_fillRegister_25 (by decide) k) (fun _ k => nv_bipush (v := 10) K d_P_fillRegister_20 (by decide) (lv_goto K.1 K.2.1 d_P_fillRegister_22 rfl k)) ?_
  have hb4 : (if (b / 8 % 8) = 6 then 10 else 7) < 11 := z_ite_ltB _ (by omega) (by omega)
  exact pri K hr hlk hw (by first | rfl | (simp; done) | (skip; rfl)) (by first | rfl | (simp; done) | (congr 1; omega) | (simp; omega)) d_P_fillRegister_27
set_option maxHeartbeats 4000000 in
set_option maxRecDepth 100000 in
theorem c_workOnA {σ : z_St} {b : Nat} (l : Launch) (D : va_G) (cI : ClassId) (a : pAd) (hO : z_Ok σ) (hb : b < 64) : pCi l y_P_workOnA w_P_workOnA 3 65 D cI a [.ref a.1, .int (nI b)] σ (z_e7 σ (b / 8)) (nI 4) := by
  refine pci_of (cc := b_P_workOnA) (maxL := 3) (ret := (some .int)) (by decide) rfl (Nat.le_of_ble_eq_true rfl) ?_
  intro p e s m below meth c ls K hr hlk hl hw
  have K : CallFix p m c b_P_workOnA 3 s _ (_ :: T0) "PortProcessor" := K
  have hl : lv_has ls 3 [(0, .ref a.1), (1, .int (nI b))] := hl
  refine lv_aload_n K.1 K.2.1 d_P_workOnA_0 rfl (lv_at hl 0 rfl) ?_
  refine pg_registers K hw d_P_workOnA_1 ?_
  refine nv_bipush (v := 7) K d_P_workOnA_4 (by decide) ?_
  refine pl_reg (i := 7) (v := z_x_reg σ 7) K hw (by omega) rfl d_P_workOnA_6 ?_
  have hb1 : z_x_reg σ 7 < 256 := z_k_reg hO _
  refine lv_istore_n (lv' := [(2, .int (nI (z_x_reg σ 7))), (0, .ref a.1), (1, .int (nI b))]) K.1 K.2.1 d_P_workOnA_7 rfl hl (by decide) rfl (fun ls hl => ?_)
  refine lv_iload_n K.1 K.2.1 d_P_workOnA_8 rfl (lv_at hl 2 rfl) ?_
  refine nv_iconst (v := 3) K d_P_workOnA_9 (by decide) ?_
  refine nv_ishr (M := 8) K (by omega) rfl (by omega) d_P_workOnA_10 ?_
  rcases (by omega : (b / 8) = 0 ∨ (b / 8) = 1 ∨ (b / 8) = 2 ∨ (b / 8) = 3 ∨ (b / 8) = 4 ∨ (b / 8) = 5 ∨ (b / 8) = 6 ∨ (b / 8) = 7) with h2 | h2 | h2 | h2 | h2 | h2 | h2 | h2
  · refine nv_as K (congrArg nI h2) ?_
    refine nv_tabIn (a := 0) (tgt := 52) K d_P_workOnA_11 (by decide) (by decide) (by decide) rfl rfl ?_
    refine lv_aload_n K.1 K.2.1 d_P_workOnA_52 rfl (lv_at hl 1 rfl) ?_
    refine pg_registers K hw d_P_workOnA_53 ?_
    refine nv_bipush (v := 7) K d_P_workOnA_56 (by decide) ?_
    refine lv_aload_n K.1 K.2.1 d_P_workOnA_58 rfl (lv_at hl 1 rfl) ?_
    refine pg_flags K hw d_P_workOnA_59 ?_
    refine lv_iload_n K.1 K.2.1 d_P_workOnA_62 rfl (lv_at hl 0 rfl) ?_
    refine lv_iload_n K.1 K.2.1 d_P_workOnA_63 rfl (lv_at hl 0 rfl) ?_
    refine nv_bipush (v := 7) K d_P_workOnA_64 (by decide) ?_
    refine nv_ishr (M := 128) K (by omega) rfl (by omega) d_P_workOnA_66 ?_
    refine pki K (c_turnedLeft (σ := σ) (v := z_x_reg σ 7) (z := (z_x_reg σ 7) / 128) l D cI a hO (by omega) (by omega)) (cw_P_224 K (Nat.le_of_ble_eq_true rfl) (Nat.le_of_ble_eq_true rfl)) hw (va_recv (ci := 2) (q0 := 2) hw.2.2.2.1 hw.1 rfl rfl) rfl hl.1 rfl (Nat.le_of_ble_eq_true rfl) d_P_workOnA_67 ⟨Nat.zero_le _, Nat.zero_le _⟩ (fun H locs hw => ?_)
    have hO3 : z_Ok (z_s_ca σ ((z_x_reg σ 7) / 128)) := z_ok_ca hO (by omega)
    have hb4 : (z_x_reg σ 7) % 128 * 2 + ((z_x_reg σ 7) / 128) < 256 := (by omega)
    refine ps_reg (i := 7) (v := (z_x_reg σ 7) % 128 * 2 + ((z_x_reg σ 7) / 128)) K hw (by omega) d_P_workOnA_70 (fun H locs hw => ?_)
    have hO5 : z_Ok (z_s_reg (z_s_ca σ ((z_x_reg σ 7) / 128)) (z_fs (z_x_reg σ) 7 ((z_x_reg σ 7) % 128 * 2 + ((z_x_reg σ 7) / 128)))) := z_ok_reg hO3 (z_fs_lt (z_k_reg hO3) (by omega))
    refine lv_goto K.1 K.2.1 d_P_workOnA_71 rfl ?_
    refine nv_iconst (v := 4) K d_P_workOnA_211 (by decide) ?_
    exact pri K hr hlk hw (by rw [h1]; first | rfl | (unfold z_e7 z_A7; simp; done)) (by first | rfl | (simp [h2]; done) | (congr 1; omega) | (simp [h2]; omega)) d_P_workOnA_212
  · refine nv_as K (congrArg nI h2) ?_
    refine nv_tabIn (a := 1) (tgt := 74) K d_P_workOnA_11 (by decide) (by decide) (by decide) rfl rfl ?_
    refine lv_aload_n K.1 K.2.1 d_P_workOnA_74 rfl (lv_at hl 1 rfl) ?_
    refine pg_registers K hw d_P_workOnA_75 ?_
    refine nv_bipush (v := 7) K d_P_workOnA_78 (by decide) ?_
    refine lv_aload_n K.1 K.2.1 d_P_workOnA_80 rfl (lv_at hl 1 rfl) ?_
    refine pg_flags K hw d_P_workOnA_81 ?_
    refine lv_iload_n K.1 K.2.1 d_P_workOnA_84 rfl (lv_at hl 0 rfl) ?_
    refine lv_iload_n K.1 K.2.1 d_P_workOnA_85 rfl (lv_at hl 0 rfl) ?_
    refine nv_iconst (v := 1) K d_P_workOnA_86 (by decide) ?_
    refine nv_mask (M := 2) K 1 rfl rfl d_P_workOnA_87 ?_
    refine pki K (c_turnedRight (σ := σ) (v := z_x_reg σ 7) (z := (z_x_reg σ 7) % 2) l D cI a hO (by omega) (by omega)) (cw_P_228 K (Nat.le_of_ble_eq_true rfl) (Nat.le_of_ble_eq_true rfl)) hw (va_recv (ci := 2) (q0 := 2) hw.2.2.2.1 hw.1 rfl rfl) rfl hl.1 rfl (Nat.le_of_ble_eq_true rfl) d_P_workOnA_88 ⟨Nat.zero_le _, Nat.zero_le _⟩ (fun H locs hw => ?_)
    have hO6 : z_Ok (z_s_ca σ ((z_x_reg σ 7) % 2)) := z_ok_ca hO (by omega)
    have hb7 : (z_x_reg σ 7) / 2 + ((z_x_reg σ 7) % 2) * 128 < 256 := (by omega)
    refine ps_reg (i := 7) (v := (z_x_reg σ 7) / 2 + ((z_x_reg σ 7) % 2) * 128) K hw (by omega) d_P_workOnA_91 (fun H locs hw => ?_)
    have hO8 : z_Ok (z_s_reg (z_s_ca σ ((z_x_reg σ 7) % 2)) (z_fs (z_x_reg σ) 7 ((z_x_reg σ 7) / 2 + ((z_x_reg σ 7) % 2) * 128))) := z_ok_reg hO6 (z_fs_lt (z_k_reg hO6) (by omega))
    refine lv_goto K.1 K.2.1 d_P_workOnA_92 rfl ?_
    refine nv_iconst (v := 4) K d_P_workOnA_211 (by decide) ?_
    exact pri K hr hlk hw (by rw [h1]; first | rfl | (unfold z_e7 z_A7; simp; done)) (by first | rfl | (simp [h2]; done) | (congr 1; omega) | (simp [h2]; omega)) d_P_workOnA_212
  · refine nv_as K (congrArg nI h2) ?_
    refine nv_tabIn (a := 2) (tgt := 95) K d_P_workOnA_11 (by decide) (by decide) (by decide) rfl rfl ?_
    refine lv_aload_n K.1 K.2.1 d_P_workOnA_95 rfl (lv_at hl 1 rfl) ?_
    refine pg_registers K hw d_P_workOnA_96 ?_
    refine nv_bipush (v := 7) K d_P_workOnA_99 (by decide) ?_
    refine lv_aload_n K.1 K.2.1 d_P_workOnA_101 rfl (lv_at hl 1 rfl) ?_
    refine pg_flags K hw d_P_workOnA_102 ?_
    refine lv_iload_n K.1 K.2.1 d_P_workOnA_105 rfl (lv_at hl 0 rfl) ?_
    refine lv_aload_n K.1 K.2.1 d_P_workOnA_106 rfl (lv_at hl 1 rfl) ?_
    refine pg_flags K hw d_P_workOnA_107 ?_
    refine pki K (c_carryBit (σ := σ) l D cI a hO) (cw_P_231 K (Nat.le_of_ble_eq_true rfl) (Nat.le_of_ble_eq_true rfl)) hw (va_recv (ci := 2) (q0 := 2) hw.2.2.2.1 hw.1 rfl rfl) rfl hl.1 rfl (Nat.le_of_ble_eq_true rfl) d_P_workOnA_110 ⟨Nat.zero_le _, Nat.zero_le _⟩ (fun H locs hw => ?_)
    have hb9 : z_x_ca σ < 2 := z_k_ca hO
    refine pki K (c_turnedLeft (σ := σ) (v := z_x_reg σ 7) (z := z_x_ca σ) l D cI a hO (by omega) (by omega)) (cw_P_224 K (Nat.le_of_ble_eq_true rfl) (Nat.le_of_ble_eq_true rfl)) hw (va_recv (ci := 2) (q0 := 2) hw.2.2.2.1 hw.1 rfl rfl) rfl hl.1 rfl (Nat.le_of_ble_eq_true rfl) d_P_workOnA_113 ⟨Nat.zero_le _, Nat.zero_le _⟩ (fun H locs hw => ?_)
    have hO10 : z_Ok (z_s_ca σ ((z_x_reg σ 7) / 128)) := z_ok_ca hO (by omega)
    have hb11 : (z_x_reg σ 7) % 128 * 2 + (z_x_ca σ) < 256 := (by omega)
    refine ps_reg (i := 7) (v := (z_x_reg σ 7) % 128 * 2 + (z_x_ca σ)) K hw (by omega) d_P_workOnA_116 (fun H locs hw => ?_)
    have hO12 : z_Ok (z_s_reg (z_s_ca σ ((z_x_reg σ 7) / 128)) (z_fs (z_x_reg σ) 7 ((z_x_reg σ 7) % 128 * 2 + (z_x_ca σ)))) := z_ok_reg hO10 (z_fs_lt (z_k_reg hO10) (by omega))
    refine lv_goto K.1 K.2.1 d_P_workOnA_117 rfl ?_
    refine nv_iconst (v := 4) K d_P_workOnA_211 (by decide) ?_
    exact pri K hr hlk hw (by rw [h1]; first | rfl | (unfold z_e7 z_A7; simp; done)) (by first | rfl | (simp [h2]; done) | (congr 1; omega) | (simp [h2]; omega)) d_P_workOnA_212
  · refine nv_as K (congrArg nI h2) ?_
    refine nv_tabIn (a := 3) (tgt := 120) K d_P_workOnA_11 (by decide) (by decide) (by decide) rfl rfl ?_
    refine lv_aload_n K.1 K.2.1 d_P_workOnA_120 rfl (lv_at hl 1 rfl) ?_
    refine pg_registers K hw d_P_workOnA_121 ?_
    refine nv_bipush (v := 7) K d_P_workOnA_124 (by decide) ?_
    refine lv_aload_n K.1 K.2.1 d_P_workOnA_126 rfl (lv_at hl 1 rfl) ?_
    refine pg_flags K hw d_P_workOnA_127 ?_
    refine lv_iload_n K.1 K.2.1 d_P_workOnA_130 rfl (lv_at hl 0 rfl) ?_
    refine lv_aload_n K.1 K.2.1 d_P_workOnA_131 rfl (lv_at hl 1 rfl) ?_
    refine pg_flags K hw d_P_workOnA_132 ?_
    refine pki K (c_carryBit (σ := σ) l D cI a hO) (cw_P_231 K (Nat.le_of_ble_eq_true rfl) (Nat.le_of_ble_eq_true rfl)) hw (va_recv (ci := 2) (q0 := 2) hw.2.2.2.1 hw.1 rfl rfl) rfl hl.1 rfl (Nat.le_of_ble_eq_true rfl) d_P_workOnA_135 ⟨Nat.zero_le _, Nat.zero_le _⟩ (fun H locs hw => ?_)
    have hb13 : z_x_ca σ < 2 := z_k_ca hO
    refine pki K (c_turnedRight (σ := σ) (v := z_x_reg σ 7) (z := z_x_ca σ) l D cI a hO (by omega) (by omega)) (cw_P_228 K (Nat.le_of_ble_eq_true rfl) (Nat.le_of_ble_eq_true rfl)) hw (va_recv (ci := 2) (q0 := 2) hw.2.2.2.1 hw.1 rfl rfl) rfl hl.1 rfl (Nat.le_of_ble_eq_true rfl) d_P_workOnA_138 ⟨Nat.zero_le _, Nat.zero_le _⟩ (fun H locs hw => ?_)
    have hO14 : z_Ok (z_s_ca σ ((z_x_reg σ 7) % 2)) := z_ok_ca hO (by omega)
    have hb15 : (z_x_reg σ 7) / 2 + (z_x_ca σ) * 128 < 256 := (by omega)
    refine ps_reg (i := 7) (v := (z_x_reg σ 7) / 2 + (z_x_ca σ) * 128) K hw (by omega) d_P_workOnA_141 (fun H locs hw => ?_)
    have hO16 : z_Ok (z_s_reg (z_s_ca σ ((z_x_reg σ 7) % 2)) (z_fs (z_x_reg σ) 7 ((z_x_reg σ 7) / 2 + (z_x_ca σ) * 128))) := z_ok_reg hO14 (z_fs_lt (z_k_reg hO14) (by omega))
    refine lv_goto K.1 K.2.1 d_P_workOnA_142 rfl ?_
    refine nv_iconst (v := 4) K d_P_workOnA_211 (by decide) ?_
    exact pri K hr hlk hw (by rw [h1]; first | rfl | (unfold z_e7 z_A7; simp; done)) (by first | rfl | (simp [h2]; done) | (congr 1; omega) | (simp [h2]; omega)) d_P_workOnA_212
  · refine nv_as K (congrArg nI h2) ?_
    refine nv_tabIn (a := 4) (tgt := 145) K d_P_workOnA_11 (by decide) (by decide) (by decide) rfl rfl ?_
    refine lv_aload_n K.1 K.2.1 d_P_workOnA_145 rfl (lv_at hl 1 rfl) ?_
    refine pg_registers K hw d_P_workOnA_146 ?_
    refine nv_bipush (v := 7) K d_P_workOnA_149 (by decide) ?_
    refine lv_aload_n K.1 K.2.1 d_P_workOnA_151 rfl (lv_at hl 1 rfl) ?_
    refine pg_flags K hw d_P_workOnA_152 ?_
    refine lv_iload_n K.1 K.2.1 d_P_workOnA_155 rfl (lv_at hl 0 rfl) ?_
    refine pki K (c_decimalOf (σ := σ) (v := z_x_reg σ 7) l D cI a hO (by omega)) (cw_P_234 K (Nat.le_of_ble_eq_true rfl) (Nat.le_of_ble_eq_true rfl)) hw (va_recv (ci := 2) (q0 := 2) hw.2.2.2.1 hw.1 rfl rfl) rfl hl.1 rfl (Nat.le_of_ble_eq_true rfl) d_P_workOnA_156 ⟨Nat.zero_le _, Nat.zero_le _⟩ (fun H locs hw => ?_)
    have hO17 : z_Ok (z_dd σ (z_x_reg σ 7)) := z_ok_dd hO _
    have hb18 : z_dv σ (z_x_reg σ 7) < 256 := z_dv_lt _ _
    refine ps_reg (i := 7) (v := z_dv σ (z_x_reg σ 7)) K hw (by omega) d_P_workOnA_159 (fun H locs hw => ?_)
    have hO19 : z_Ok (z_s_reg (z_dd σ (z_x_reg σ 7)) (z_fs (z_x_reg σ) 7 (z_dv σ (z_x_reg σ 7)))) := z_ok_reg hO17 (z_fs_lt (z_k_reg hO17) (by omega))
    refine lv_goto K.1 K.2.1 d_P_workOnA_160 rfl ?_
    refine nv_iconst (v := 4) K d_P_workOnA_211 (by decide) ?_
    exact pri K hr hlk hw (by rw [h1]; first | rfl | (unfold z_e7 z_A7; simp; done)) (by first | rfl | (simp [h2]; done) | (congr 1; omega) | (simp [h2]; omega)) d_P_workOnA_212
  · refine nv_as K (congrArg nI h2) ?_
    refine nv_tabIn (a := 5) (tgt := 163) K d_P_workOnA_11 (by decide) (by decide) (by decide) rfl rfl ?_
    refine lv_aload_n K.1 K.2.1 d_P_workOnA_163 rfl (lv_at hl 1 rfl) ?_
    refine pg_registers K hw d_P_workOnA_164 ?_
    refine nv_bipush (v := 7) K d_P_workOnA_167 (by decide) ?_
    refine nv_sipush (v := 255) K d_P_workOnA_169 (by decide) ?_
    refine lv_iload_n K.1 K.2.1 d_P_workOnA_172 rfl (lv_at hl 0 rfl) ?_
    refine nv_isub K (by omega) d_P_workOnA_173 ?_
    refine ps_reg (i := 7) (v := 255 - (z_x_reg σ 7)) K hw (by omega) d_P_workOnA_174 (fun H locs hw => ?_)
    have hO20 : z_Ok (z_s_reg σ (z_fs (z_x_reg σ) 7 (255 - (z_x_reg σ 7)))) := z_ok_reg hO (z_fs_lt (z_k_reg hO) (by omega))
    refine lv_goto K.1 K.2.1 d_P_workOnA_175 rfl ?_
    refine nv_iconst (v := 4) K d_P_workOnA_211 (by decide) ?_
    exact pri K hr hlk hw (by rw [h1]; first | rfl | (unfold z_e7 z_A7; simp; done)) (by first | rfl | (simp [h2]; done) | (congr 1; omega) | (simp [h2]; omega)) d_P_workOnA_212
  · refine nv_as K (congrArg nI h2) ?_
    refine nv_tabIn (a := 6) (tgt := 178) K d_P_workOnA_11 (by decide) (by decide) (by decide) rfl rfl ?_
    refine lv_aload_n K.1 K.2.1 d_P_workOnA_178 rfl (lv_at hl 1 rfl) ?_
    refine pg_flags K hw d_P_workOnA_179 ?_
    refine nv_iconst (v := 1) K d_P_workOnA_182 (by decide) ?_
    refine pkv K (c_takeCarry (σ := σ) (v := 1) l D cI a hO (by omega)) (cw_P_202 K (Nat.le_of_ble_eq_true rfl) (Nat.le_of_ble_eq_true rfl)) hw (va_recv (ci := 2) (q0 := 2) hw.2.2.2.1 hw.1 rfl rfl) rfl hl.1 rfl (Nat.le_of_ble_eq_true rfl) d_P_workOnA_183 ⟨Nat.zero_le _, Nat.zero_le _⟩ (fun H locs hw => ?_)
    have hO21 : z_Ok (z_s_ca σ 1) := z_ok_ca hO (by omega)
    refine lv_goto K.1 K.2.1 d_P_workOnA_186 rfl ?_
    refine nv_iconst (v := 4) K d_P_workOnA_211 (by decide) ?_
    exact pri K hr hlk hw (by rw [h1]; first | rfl | (unfold z_e7 z_A7; simp; done)) (by first | rfl | (simp [h2]; done) | (congr 1; omega) | (simp [h2]; omega)) d_P_workOnA_212
  · refine nv_as K (congrArg nI h2) ?_
    refine nv_tabOut (a := 7) (tgt := 189) K d_P_workOnA_11 (by decide) (by decide) rfl ?_
    refine lv_aload_n K.1 K.2.1 d_P_workOnA_189 rfl (lv_at hl 1 rfl) ?_
    refine pg_flags K hw d_P_workOnA_190 ?_
    refine lv_aload_n K.1 K.2.1 d_P_workOnA_193 rfl (lv_at hl 1 rfl) ?_
    refine pg_flags K hw d_P_workOnA_194 ?_
    refine pki K (c_carryBit (σ := σ) l D cI a hO) (cw_P_231 K (Nat.le_of_ble_eq_true rfl) (Nat.le_of_ble_eq_true rfl)) hw (va_recv (ci := 2) (q0 := 2) hw.2.2.2.1 hw.1 rfl rfl) rfl hl.1 rfl (Nat.le_of_ble_eq_true rfl) d_P_workOnA_197 ⟨Nat.zero_le _, Nat.zero_le _⟩ (fun H locs hw => ?_)
    have hb22 : z_x_ca σ < 2 := z_k_ca hO
    refine nf_if_ne (u := 0) (v := 1) (Y := 208) K (by omega) d_P_workOnA_200 rfl (fun _ k => nv_iconst (v := 0) K d_P_workOnA_207 (by decide) k) (fun _ k => nv_iconst (v := 1) K d_P_workOnA_203 (by decide) (lv_goto K.1 K.2.1 d_P_workOnA_204 rfl k)) ?_
    have hb23 : (if (z_x_ca σ) = 0 then 1 else 0) < 2 := z_ite_ltB _ (by omega) (by omega)
    refine pkv K (c_takeCarry (σ := σ) (v := (if (z_x_ca σ) = 0 then 1 else 0)) l D cI a hO (by omega)) (cw_P_202 K (Nat.le_of_ble_eq_true rfl) (Nat.le_of_ble_eq_true rfl)) hw (va_recv (ci := 2) (q0 := 2) hw.2.2.2.1 hw.1 rfl rfl) rfl hl.1 rfl (Nat.le_of_ble_eq_true rfl) d_P_workOnA_208 ⟨Nat.zero_le _, Nat.zero_le _⟩ (fun H locs hw => ?_)
    have hO24 : z_Ok (z_s_ca σ (if (z_x_ca σ) = 0 then 1 else 0)) := z_ok_ca hO (by omega)
    refine nv_iconst (v := 4) K d_P_workOnA_211 (by decide) ?_
    exact pri K hr hlk hw (by rw [h1]; first | rfl | (unfold z_e7 z_A7; simp; done)) (by first | rfl | (simp [h2]; done) | (congr 1; omega) | (simp [h2]; omega)) d_P_workOnA_212
set_option maxHeartbeats 4000000 in
set_option maxRecDepth 100000 in
theorem c_move {σ : z_St} {b : Nat} (l : Launch) (D : va_G) (cI : ClassId) (a : pAd) (hO : z_Ok σ) (hb : b < 256) : pCi l y_P_move w_P_move 2 44 D cI a [.ref a.1, .int (nI b)] σ (z_eb σ b) (nI (z_tb b)) := by
  refine pci_of (cc := b_P_move) (maxL := 4) (ret := (some .int)) (by decide) rfl (Nat.le_of_ble_eq_true rfl) ?_
  intro p e s m below meth c ls K hr hlk hl hw
  have K : CallFix p m c b_P_move 4 s _ (_ :: T0) "PortProcessor" := K
  have hl : lv_has ls 4 [(0, .ref a.1), (1, .int (nI b))] := hl
  refine lv_iload_n K.1 K.2.1 d_P_move_0 rfl (lv_at hl 1 rfl) ?_
  refine nv_bipush (v := 118) K d_P_move_1 (by decide) ?_
  refine nv_icmp_ne K (by omega) (by omega) d_P_move_3 rfl (fun h1 => ?_) (fun h1 => ?_)
  · refine lv_iload_n K.1 K.2.1 d_P_move_14 rfl (lv_at hl 1 rfl) ?_
    refine psi K (c_targetOf (σ := σ) (b := b) l D cI a hO (by omega)) (cw_P_212 K (Nat.le_of_ble_eq_true rfl) (Nat.le_of_ble_eq_true rfl)) hw rfl hl.1 rfl (Nat.le_of_ble_eq_true rfl) d_P_move_15 ⟨Nat.zero_le _, Nat.zero_le _⟩ (fun H locs hw => ?_)
    refine lv_istore_n (lv' := [(2, .int (nI (b / 8 % 8))), (0, .ref a.1), (1, .int (nI b))]) K.1 K.2.1 d_P_move_18 rfl hl (by decide) rfl (fun ls hl => ?_)
    refine lv_iload_n K.1 K.2.1 d_P_move_19 rfl (lv_at hl 2 rfl) ?_
    refine nv_bipush (v := 7) K d_P_move_20 (by decide) ?_
    refine nv_mask (M := 8) K 3 rfl rfl d_P_move_22 ?_
    refine lv_istore_n (lv' := [(3, .int (nI (b % 8))), (2, .int (nI (b / 8 % 8))), (0, .ref a.1), (1, .int (nI b))]) K.1 K.2.1 d_P_move_23 rfl hl (by decide) rfl (fun ls hl => ?_)
    refine lv_aload_n K.1 K.2.1 d_P_move_24 rfl (lv_at hl 2 rfl) ?_
    refine lv_iload_n K.1 K.2.1 d_P_move_25 rfl (lv_at hl 1 rfl) ?_
    refine lv_aload_n K.1 K.2.1 d_P_move_26 rfl (lv_at hl 2 rfl) ?_
    refine lv_iload_n K.1 K.2.1 d_P_move_27 rfl (lv_at hl 0 rfl) ?_
    refine pki K (c_readRegister (σ := σ) (r := b % 8) l D cI a hO (by omega)) (cw_P_91 K (Nat.le_of_ble_eq_true rfl) (Nat.le_of_ble_eq_true rfl)) hw (va_recv (ci := 0) (q0 := 0) hw.2.2.2.1 hw.1 rfl rfl) rfl hl.1 rfl (Nat.le_of_ble_eq_true rfl) d_P_move_28 ⟨Nat.zero_le _, Nat.zero_le _⟩ (fun H locs hw => ?_)
    have hb2 : z_rg σ (b % 8) < 256 := z_rg_lt hO _
    refine pkv K (c_writeRegister (σ := σ) (r := b / 8 % 8) (v := z_rg σ (b % 8)) l D cI a hO (by omega) (by omega)) (cw_P_218 K (Nat.le_of_ble_eq_true rfl) (Nat.le_of_ble_eq_true rfl)) hw (va_recv (ci := 0) (q0 := 0) hw.2.2.2.1 hw.1 rfl rfl) rfl hl.1 rfl (Nat.le_of_ble_eq_true rfl) d_P_move_31 ⟨Nat.zero_le _, Nat.zero_le _⟩ (fun H locs hw => ?_)
    have hO3 : z_Ok (z_rs σ (b / 8 % 8) (z_rg σ (b % 8))) := z_ok_rs hO _ (by omega)
    refine lv_iload_n K.1 K.2.1 d_P_move_34 rfl (lv_at hl 1 rfl) ?_
    refine nv_bipush (v := 6) K d_P_move_35 (by decide) ?_
    refine nv_icmp_eq K (by omega) (by omega) d_P_move_37 rfl (fun h4 => ?_) (fun h4 => ?_)
    · refine nv_bipush (v := 7) K d_P_move_46 (by decide) ?_
      refine lv_goto K.1 K.2.1 d_P_move_48 rfl ?_
      exact pri K hr hlk hw (by first | rfl | (simp [z_tb, z_eb, h1, h4]; done) | (simp only [z_tb, z_eb, h1, h4]; rfl)) (by first | rfl | (simp [z_tb, z_eb, h1, h4]; done) | (congr 1; omega) | (simp [z_tb, z_eb, h1, h4]; omega)) d_P_move_52
    · refine lv_iload_n K.1 K.2.1 d_P_move_40 rfl (lv_at hl 0 rfl) ?_
      refine nv_bipush (v := 6) K d_P_move_41 (by decide) ?_
      refine nf_icmp_ne (u := 5) (v := 7) (Y := 52) K (by omega) (by omega) d_P_move_43 rfl (fun _ k => nv_iconst (v := 5) K d_P_move_51 (by decide) k) (fun _ k => nv_bipush (v := 7) K d_P_move_46 (by decide) (lv_goto K.1 K.2.1 d_P_move_48 rfl k)) ?_
      have hb5 : (if (b % 8) = 6 then 7 else 5) < 8 := z_ite_ltB _ (by omega) (by omega)
      exact pri K hr hlk hw (by first | rfl | (simp [z_tb, z_eb, h1, h4]; done) | (simp only [z_tb, z_eb, h1, h4]; rfl)) (by first | rfl | (simp [z_tb, z_eb, h1, h4]; done) | (congr 1; omega) | (simp [z_tb, z_eb, h1, h4]; omega)) d_P_move_52
  · refine lv_aload_n K.1 K.2.1 d_P_move_6 rfl (lv_at hl 0 rfl) ?_
    refine nv_iconst (v := 1) K d_P_move_7 (by decide) ?_
    refine pp_halted (v := 1) K hw (by omega) d_P_move_8 (fun H locs hw => ?_)
    have hO6 : z_Ok (z_s_ha σ 1) := z_ok_ha hO (by omega)
    refine nv_bipush (v := 7) K d_P_move_11 (by decide) ?_
    exact pri K hr hlk hw (by first | rfl | (simp [z_tb, z_eb, h1]; done) | (simp only [z_tb, z_eb, h1]; rfl)) (by first | rfl | (simp [z_tb, z_eb, h1]; done) | (congr 1; omega) | (simp [z_tb, z_eb, h1]; omega)) d_P_move_13
set_option maxHeartbeats 4000000 in
set_option maxRecDepth 100000 in
theorem c_combineWithRegister {σ : z_St} {b : Nat} (l : Launch) (D : va_G) (cI : ClassId) (a : pAd) (hO : z_Ok σ) (hb : b < 256) : pCi l y_P_combineWithRegister w_P_combineWithRegister 3 72 D cI a [.ref a.1, .int (nI b)] σ (z_ec σ b) (nI (z_tc b)) := by
  refine pci_of (cc := b_P_combineWithRegister) (maxL := 3) (ret := (some .int)) (by decide) rfl (Nat.le_of_ble_eq_true rfl) ?_
  intro p e s m below meth c ls K hr hlk hl hw
  have K : CallFix p m c b_P_combineWithRegister 3 s _ (_ :: T0) "PortProcessor" := K
  have hl : lv_has ls 3 [(0, .ref a.1), (1, .int (nI b))] := hl
  refine lv_iload_n K.1 K.2.1 d_P_combineWithRegister_0 rfl (lv_at hl 1 rfl) ?_
  refine nv_bipush (v := 7) K d_P_combineWithRegister_1 (by decide) ?_
  refine nv_mask (M := 8) K 3 rfl rfl d_P_combineWithRegister_3 ?_
  refine lv_istore_n (lv' := [(2, .int (nI (b % 8))), (0, .ref a.1), (1, .int (nI b))]) K.1 K.2.1 d_P_combineWithRegister_4 rfl hl (by decide) rfl (fun ls hl => ?_)
  refine lv_aload_n K.1 K.2.1 d_P_combineWithRegister_5 rfl (lv_at hl 1 rfl) ?_
  refine pg_registers K hw d_P_combineWithRegister_6 ?_
  refine nv_bipush (v := 7) K d_P_combineWithRegister_9 (by decide) ?_
  refine lv_aload_n K.1 K.2.1 d_P_combineWithRegister_11 rfl (lv_at hl 1 rfl) ?_
  refine pg_flags K hw d_P_combineWithRegister_12 ?_
  refine lv_iload_n K.1 K.2.1 d_P_combineWithRegister_15 rfl (lv_at hl 2 rfl) ?_
  refine psi K (c_targetOf (σ := σ) (b := b) l D cI a hO (by omega)) (cw_P_212 K (Nat.le_of_ble_eq_true rfl) (Nat.le_of_ble_eq_true rfl)) hw rfl hl.1 rfl (Nat.le_of_ble_eq_true rfl) d_P_combineWithRegister_16 ⟨Nat.zero_le _, Nat.zero_le _⟩ (fun H locs hw => ?_)
  refine lv_aload_n K.1 K.2.1 d_P_combineWithRegister_19 rfl (lv_at hl 1 rfl) ?_
  refine pg_registers K hw d_P_combineWithRegister_20 ?_
  refine nv_bipush (v := 7) K d_P_combineWithRegister_23 (by decide) ?_
  refine pl_reg (i := 7) (v := z_x_reg σ 7) K hw (by omega) rfl d_P_combineWithRegister_25 ?_
  have hb1 : z_x_reg σ 7 < 256 := z_k_reg hO _
  refine lv_aload_n K.1 K.2.1 d_P_combineWithRegister_26 rfl (lv_at hl 1 rfl) ?_
  refine lv_iload_n K.1 K.2.1 d_P_combineWithRegister_27 rfl (lv_at hl 0 rfl) ?_
  refine pki K (c_readRegister (σ := σ) (r := b % 8) l D cI a hO (by omega)) (cw_P_91 K (Nat.le_of_ble_eq_true rfl) (Nat.le_of_ble_eq_true rfl)) hw (va_recv (ci := 0) (q0 := 0) hw.2.2.2.1 hw.1 rfl rfl) rfl hl.1 rfl (Nat.le_of_ble_eq_true rfl) d_P_combineWithRegister_28 ⟨Nat.zero_le _, Nat.zero_le _⟩ (fun H locs hw => ?_)
  have hb2 : z_rg σ (b % 8) < 256 := z_rg_lt hO _
  refine pki K (c_combined (σ := σ) (k := b / 8 % 8) (x := z_x_reg σ 7) (y := z_rg σ (b % 8)) l D cI a hO (by omega) (by omega) (by omega)) (cw_P_237 K (Nat.le_of_ble_eq_true rfl) (Nat.le_of_ble_eq_true rfl)) hw (va_recv (ci := 2) (q0 := 2) hw.2.2.2.1 hw.1 rfl rfl) rfl hl.1 rfl (Nat.le_of_ble_eq_true rfl) d_P_combineWithRegister_31 ⟨Nat.zero_le _, Nat.zero_le _⟩ (fun H locs hw => ?_)
  have hO3 : z_Ok (z_cm σ (b / 8 % 8) (z_x_reg σ 7) (z_rg σ (b % 8))) := z_ok_cm hO _ (by omega) (by omega)
  have hb4 : z_cv σ (b / 8 % 8) (z_x_reg σ 7) (z_rg σ (b % 8)) < 256 := z_cv_lt _ _ (by omega) (by omega)
  refine ps_reg (i := 7) (v := z_cv σ (b / 8 % 8) (z_x_reg σ 7) (z_rg σ (b % 8))) K hw (by omega) d_P_combineWithRegister_34 (fun H locs hw => ?_)
  have hO5 : z_Ok (z_s_reg (z_cm σ (b / 8 % 8) (z_x_reg σ 7) (z_rg σ (b % 8))) (z_fs (z_x_reg σ) 7 (z_cv σ (b / 8 % 8) (z_x_reg σ 7) (z_rg σ (b % 8))))) := z_ok_reg hO3 (z_fs_lt (z_k_reg hO3) (by omega))
  refine lv_iload_n K.1 K.2.1 d_P_combineWithRegister_35 rfl (lv_at hl 0 rfl) ?_
  refine nv_bipush (v := 6) K d_P_combineWithRegister_36 (by decide) ?_
  refine nf_icmp_ne (u := 4) (v := 7) (Y := 47) K (by omega) (by omega) d_P_combineWithRegister_38 rfl (fun _ k => nv_iconst (v := 4) K d_P_combineWithRegister_46 (by decide) k) (fun _ k => nv_bipush (v := 7) K d_P_combineWithRegister_41 (by decide) (lv_goto K.1 K.2.1 d_P_combineWithRegister_43 rfl k)) ?_
  have hb6 : (if (b % 8) = 6 then 7 else 4) < 8 := z_ite_ltB _ (by omega) (by omega)
  exact pri K hr hlk hw (by first | rfl | (simp [z_tc]; done) | (simp only [z_tc]; rfl)) (by first | rfl | (simp [z_tc]; done) | (congr 1; omega) | (simp [z_tc]; omega)) d_P_combineWithRegister_47
set_option maxHeartbeats 4000000 in
set_option maxRecDepth 100000 in
theorem c_combineWithNext {σ : z_St} {b : Nat} (l : Launch) (D : va_G) (cI : ClassId) (a : pAd) (hO : z_Ok σ) (hb : b < 256) : pCi l y_P_combineWithNext w_P_combineWithNext 3 72 D cI a [.ref a.1, .int (nI b)] σ (z_rk (z_nx σ) (b / 8 % 8) (z_nb σ)) (nI 7) := by
  refine pci_of (cc := b_P_combineWithNext) (maxL := 2) (ret := (some .int)) (by decide) rfl (Nat.le_of_ble_eq_true rfl) ?_
  intro p e s m below meth c ls K hr hlk hl hw
  have K : CallFix p m c b_P_combineWithNext 2 s _ (_ :: T0) "PortProcessor" := K
  have hl : lv_has ls 2 [(0, .ref a.1), (1, .int (nI b))] := hl
  refine lv_aload_n K.1 K.2.1 d_P_combineWithNext_0 rfl (lv_at hl 0 rfl) ?_
  refine pg_registers K hw d_P_combineWithNext_1 ?_
  refine nv_bipush (v := 7) K d_P_combineWithNext_4 (by decide) ?_
  refine lv_aload_n K.1 K.2.1 d_P_combineWithNext_6 rfl (lv_at hl 0 rfl) ?_
  refine pg_flags K hw d_P_combineWithNext_7 ?_
  refine lv_iload_n K.1 K.2.1 d_P_combineWithNext_10 rfl (lv_at hl 1 rfl) ?_
  refine psi K (c_targetOf (σ := σ) (b := b) l D cI a hO (by omega)) (cw_P_212 K (Nat.le_of_ble_eq_true rfl) (Nat.le_of_ble_eq_true rfl)) hw rfl hl.1 rfl (Nat.le_of_ble_eq_true rfl) d_P_combineWithNext_11 ⟨Nat.zero_le _, Nat.zero_le _⟩ (fun H locs hw => ?_)
  refine lv_aload_n K.1 K.2.1 d_P_combineWithNext_14 rfl (lv_at hl 0 rfl) ?_
  refine pg_registers K hw d_P_combineWithNext_15 ?_
  refine nv_bipush (v := 7) K d_P_combineWithNext_18 (by decide) ?_
  refine pl_reg (i := 7) (v := z_x_reg σ 7) K hw (by omega) rfl d_P_combineWithNext_20 ?_
  have hb1 : z_x_reg σ 7 < 256 := z_k_reg hO _
  refine lv_aload_n K.1 K.2.1 d_P_combineWithNext_21 rfl (lv_at hl 0 rfl) ?_
  refine pki K (c_nextByte (σ := σ) l D cI a hO) (cw_P_121 K (Nat.le_of_ble_eq_true rfl) (Nat.le_of_ble_eq_true rfl)) hw (va_recv (ci := 0) (q0 := 0) hw.2.2.2.1 hw.1 rfl rfl) rfl hl.1 rfl (Nat.le_of_ble_eq_true rfl) d_P_combineWithNext_22 ⟨Nat.zero_le _, Nat.zero_le _⟩ (fun H locs hw => ?_)
  have hO2 : z_Ok (z_nx σ) := z_ok_nx hO
  have hb3 : z_nb σ < 256 := z_nb_lt hO
  refine pki K (c_combined (σ := z_nx σ) (k := b / 8 % 8) (x := z_x_reg σ 7) (y := z_nb σ) l D cI a hO2 (by omega) (by omega) (by omega)) (cw_P_237 K (Nat.le_of_ble_eq_true rfl) (Nat.le_of_ble_eq_true rfl)) hw (va_recv (ci := 2) (q0 := 2) hw.2.2.2.1 hw.1 rfl rfl) rfl hl.1 rfl (Nat.le_of_ble_eq_true rfl) d_P_combineWithNext_25 ⟨Nat.zero_le _, Nat.zero_le _⟩ (fun H locs hw => ?_)
  have hO4 : z_Ok (z_cm (z_nx σ) (b / 8 % 8) (z_x_reg σ 7) (z_nb σ)) := z_ok_cm hO2 _ (by omega) (by omega)
  refine nv_as K (y := nI (z_cv σ (b / 8 % 8) (z_x_reg σ 7) (z_nb σ))) rfl ?_
  have hb5 : z_cv σ (b / 8 % 8) (z_x_reg σ 7) (z_nb σ) < 256 := z_cv_lt _ _ (by omega) (by omega)
  refine ps_reg (i := 7) (v := z_cv σ (b / 8 % 8) (z_x_reg σ 7) (z_nb σ)) K hw (by omega) d_P_combineWithNext_28 (fun H locs hw => ?_)
  have hO6 : z_Ok (z_s_reg (z_cm (z_nx σ) (b / 8 % 8) (z_x_reg σ 7) (z_nb σ)) (z_fs (z_x_reg σ) 7 (z_cv σ (b / 8 % 8) (z_x_reg σ 7) (z_nb σ)))) := z_ok_reg hO4 (z_fs_lt (z_k_reg hO4) (by omega))
  refine nv_bipush (v := 7) K d_P_combineWithNext_29 (by decide) ?_
  exact pri K hr hlk hw (by first | rfl | (simp; done) | (skip; rfl)) (by first | rfl | (simp; done) | (congr 1; omega) | (simp; omega)) d_P_combineWithNext_31

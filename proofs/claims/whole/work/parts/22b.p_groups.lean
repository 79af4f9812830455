set_option maxHeartbeats 4000000 in
set_option maxRecDepth 100000 in
theorem c_addPair {σ : z_St} {b : Nat} (l : Launch) (D : va_G) (cI : ClassId) (a : pAd) (hO : z_Ok σ) (hb : b < 256) : pCi l y_P_addPair w_P_addPair 1 22 D cI a [.ref a.1, .int (nI b)] σ (z_ad σ (b / 16 % 4)) (nI 10) := by
  refine pci_of (cc := b_P_addPair) (maxL := 3) (ret := (some .int)) (by decide) rfl (Nat.le_of_ble_eq_true rfl) ?_
  intro p e s m below meth c ls K hr hlk hl hw
  have K : CallFix p m c b_P_addPair 3 s _ (_ :: T0) "PortProcessor" := K
  have hl : lv_has ls 3 [(0, .ref a.1), (1, .int (nI b))] := hl
  refine lv_aload_n K.1 K.2.1 d_P_addPair_0 rfl (lv_at hl 0 rfl) ?_
  refine nv_iconst (v := 2) K d_P_addPair_1 (by decide) ?_
  refine pki K (c_readPair (σ := σ) (k := 2) l D cI a hO (by omega)) (cw_P_199 K (Nat.le_of_ble_eq_true rfl) (Nat.le_of_ble_eq_true rfl)) hw (va_recv (ci := 0) (q0 := 0) hw.2.2.2.1 hw.1 rfl rfl) rfl hl.1 rfl (Nat.le_of_ble_eq_true rfl) d_P_addPair_2 ⟨Nat.zero_le _, Nat.zero_le _⟩ (fun H locs hw => ?_)
  have hb1 : z_pg σ 2 < 65536 := z_pg_lt hO _
  refine lv_aload_n K.1 K.2.1 d_P_addPair_5 rfl (lv_at hl 0 rfl) ?_
  refine lv_iload_n K.1 K.2.1 d_P_addPair_6 rfl (lv_at hl 1 rfl) ?_
  refine psi K (c_pairOf (σ := σ) (b := b) l D cI a hO (by omega)) (cw_P_190 K (Nat.le_of_ble_eq_true rfl) (Nat.le_of_ble_eq_true rfl)) hw rfl hl.1 rfl (Nat.le_of_ble_eq_true rfl) d_P_addPair_7 ⟨Nat.zero_le _, Nat.zero_le _⟩ (fun H locs hw => ?_)
  refine pki K (c_readPair (σ := σ) (k := b / 16 % 4) l D cI a hO (by omega)) (cw_P_199 K (Nat.le_of_ble_eq_true rfl) (Nat.le_of_ble_eq_true rfl)) hw (va_recv (ci := 0) (q0 := 0) hw.2.2.2.1 hw.1 rfl rfl) rfl hl.1 rfl (Nat.le_of_ble_eq_true rfl) d_P_addPair_10 ⟨Nat.zero_le _, Nat.zero_le _⟩ (fun H locs hw => ?_)
  have hb2 : z_pg σ (b / 16 % 4) < 65536 := z_pg_lt hO _
  refine nv_iadd K d_P_addPair_13 ?_
  refine lv_istore_n (lv' := [(2, .int (nI ((z_pg σ 2) + (z_pg σ (b / 16 % 4))))), (0, .ref a.1), (1, .int (nI b))]) K.1 K.2.1 d_P_addPair_14 rfl hl (by decide) rfl (fun ls hl => ?_)
  refine lv_aload_n K.1 K.2.1 d_P_addPair_15 rfl (lv_at hl 1 rfl) ?_
  refine pg_flags K hw d_P_addPair_16 ?_
  refine lv_iload_n K.1 K.2.1 d_P_addPair_19 rfl (lv_at hl 0 rfl) ?_
  refine nv_ldc (v := 65535) K d_P_addPair_20 (K.2.2.2.2 _ (List.mem_cons_of_mem _ m_constant_PortProcessor_56_65535)) ?_
  refine nf_icmp_le (u := 0) (v := 1) (Y := 30) K (by omega) (by omega) d_P_addPair_22 rfl (fun _ k => nv_iconst (v := 0) K d_P_addPair_29 (by decide) k) (fun _ k => nv_iconst (v := 1) K d_P_addPair_25 (by decide) (lv_goto K.1 K.2.1 d_P_addPair_26 rfl k)) ?_
  have hb3 : (if ((z_pg σ 2) + (z_pg σ (b / 16 % 4))) ≤ 65535 then 0 else 1) < 2 := z_ite_ltB _ (by omega) (by omega)
  refine pkv K (c_takeCarry (σ := σ) (v := (if ((z_pg σ 2) + (z_pg σ (b / 16 % 4))) ≤ 65535 then 0 else 1)) l D cI a hO (by omega)) (cw_P_202 K (Nat.le_of_ble_eq_true rfl) (Nat.le_of_ble_eq_true rfl)) hw (va_recv (ci := 2) (q0 := 2) hw.2.2.2.1 hw.1 rfl rfl) rfl hl.1 rfl (Nat.le_of_ble_eq_true rfl) d_P_addPair_30 ⟨Nat.zero_le _, Nat.zero_le _⟩ (fun H locs hw => ?_)
  have hO4 : z_Ok (z_s_ca σ (if ((z_pg σ 2) + (z_pg σ (b / 16 % 4))) ≤ 65535 then 0 else 1)) := z_ok_ca hO (by omega)
  refine lv_aload_n K.1 K.2.1 d_P_addPair_33 rfl (lv_at hl 1 rfl) ?_
  refine nv_iconst (v := 2) K d_P_addPair_34 (by decide) ?_
  refine lv_iload_n K.1 K.2.1 d_P_addPair_35 rfl (lv_at hl 0 rfl) ?_
  refine nv_ldc (v := 65535) K d_P_addPair_36 (K.2.2.2.2 _ (List.mem_cons_of_mem _ m_constant_PortProcessor_56_65535)) ?_
  refine nv_mask (M := 65536) K 16 rfl rfl d_P_addPair_38 ?_
  refine pkv K (c_writePair (σ := z_s_ca σ (if ((z_pg σ 2) + (z_pg σ (b / 16 % 4))) ≤ 65535 then 0 else 1)) (k := 2) (v := ((z_pg σ 2) + (z_pg σ (b / 16 % 4))) % 65536) l D cI a hO4 (by omega) (by omega)) (cw_P_196 K (Nat.le_of_ble_eq_true rfl) (Nat.le_of_ble_eq_true rfl)) hw (va_recv (ci := 0) (q0 := 0) hw.2.2.2.1 hw.1 rfl rfl) rfl hl.1 rfl (Nat.le_of_ble_eq_true rfl) d_P_addPair_39 ⟨Nat.zero_le _, Nat.zero_le _⟩ (fun H locs hw => ?_)
  have hO5 : z_Ok (z_ps (z_s_ca σ (if ((z_pg σ 2) + (z_pg σ (b / 16 % 4))) ≤ 65535 then 0 else 1)) 2 (((z_pg σ 2) + (z_pg σ (b / 16 % 4))) % 65536)) := z_ok_ps hO4 _ (by omega)
  refine nv_bipush (v := 10) K d_P_addPair_42 (by decide) ?_
  exact pri K hr hlk hw (by rw [nz_c16 (by omega)]; rfl) (by first | rfl | (simp [z_ad]; done) | (congr 1; omega) | (simp [z_ad]; omega)) d_P_addPair_44

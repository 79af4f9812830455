set_option maxHeartbeats 4000000 in
set_option maxRecDepth 100000 in
theorem c_combineWithRegister {σ : z_St} {b : Nat} (l : Launch) (D : va_G) (cI : ClassId) (a : pAd) (hO : z_Ok σ) (hb : b < 256) : pCi l y_P_combineWithRegister w_P_combineWithRegister 3 72 D cI a [.ref a.1, .int (nI b)] σ (z_ec σ b) (nI (z_tc b)) := by
  refine pci_of (cc := b_P_combineWithRegister) (maxL := 3) (ret := (some .int)) (by decide) rfl (Nat.le_of_ble_eq_true rfl) ?_
  intro p e s m below meth c ls K hr hlk hl hw
  have K : CallFix p m c b_P_combineWithRegister 3 s _ (_ :: T0) "PortProcessor" := K
  have hl : lv_has ls 3 [(0, .ref a.1), (1, .int (nI b))] := hl
  refine lv_iload_n K.1 K.2.1 d_P_combineWithRegister_0 rfl (lv_at hl 1 rfl) ?_
  refine nv_bipush (v := 7) K d_P_combineWithRegister_1 (by decide) ?_
  refine nv_mask (M := 8) K 3 rfl rfl d_P_combineWithRegister_3 ?_
  refine lv_istore_n (lv' := [(2, .int (nI (b % 8))), (0, .ref a.1), (1, .int (nI b))]) K.1 K.2.1 d_P_combineWithRegister_4 rfl hl (by decide) rfl (fun ls hl => ?_)
  refine lv_aload_n K.1 K.2.1 d_P_combineWithRegister_5 rfl (lv_at hl 1 rfl) ?_
  refine pg_registers K hw d_P_combineWithRegister_6 ?_
  refine nv_bipush (v := 7) K d_P_combineWithRegister_9 (by decide) ?_
  refine lv_aload_n K.1 K.2.1 d_P_combineWithRegister_11 rfl (lv_at hl 1 rfl) ?_
  refine pg_flags K hw d_P_combineWithRegister_12 ?_
  refine lv_iload_n K.1 K.2.1 d_P_combineWithRegister_15 rfl (lv_at hl 2 rfl) ?_
  refine psi K (c_targetOf (σ := σ) (b := b) l D cI a hO (by omega)) (cw_P_212 K (Nat.le_of_ble_eq_true rfl) (Nat.le_of_ble_eq_true rfl)) hw rfl hl.1 rfl (Nat.le_of_ble_eq_true rfl) d_P_combineWithRegister_16 ⟨Nat.zero_le _, Nat.zero_le _⟩ (fun H locs hw => ?_)
  refine lv_aload_n K.1 K.2.1 d_P_combineWithRegister_19 rfl (lv_at hl 1 rfl) ?_
  refine pg_registers K hw d_P_combineWithRegister_20 ?_
  refine nv_bipush (v := 7) K d_P_combineWithRegister_23 (by decide) ?_
  refine pl_reg (i := 7) (v := z_x_reg σ 7) K hw (by omega) rfl d_P_combineWithRegister_25 ?_
  have hb1 : z_x_reg σ 7 < 256 := z_k_reg hO _
  refine lv_aload_n K.1 K.2.1 d_P_combineWithRegister_26 rfl (lv_at hl 1 rfl) ?_
  refine lv_iload_n K.1 K.2.1 d_P_combineWithRegister_27 rfl (lv_at hl 0 rfl) ?_
  refine pki K (c_readRegister (σ := σ) (r := b % 8) l D cI a hO (by omega)) (cw_P_91 K (Nat.le_of_ble_eq_true rfl) (Nat.le_of_ble_eq_true rfl)) hw (va_recv (ci := 0) (q0 := 0) hw.2.2.2.1 hw.1 rfl rfl) rfl hl.1 rfl (Nat.le_of_ble_eq_true rfl) d_P_combineWithRegister_28 ⟨Nat.zero_le _, Nat.zero_le _⟩ (fun H locs hw => ?_)
  have hb2 : z_rg σ (b % 8) < 256 := z_rg_lt hO _
  refine pki K (c_combined (σ := σ) (k := b / 8 % 8) (x := z_x_reg σ 7) (y := z_rg σ (b % 8)) l D cI a hO (by omega) (by omega) (by omega)) (cw_P_237 K (Nat.le_of_ble_eq_true rfl) (Nat.le_of_ble_eq_true rfl)) hw (va_recv (ci := 2) (q0 := 2) hw.2.2.2.1 hw.1 rfl rfl) rfl hl.1 rfl (Nat.le_of_ble_eq_true rfl) d_P_combineWithRegister_31 ⟨Nat.zero_le _, Nat.zero_le _⟩ (fun H locs hw => ?_)
  have hO3 : z_Ok (z_cm σ (b / 8 % 8) (z_x_reg σ 7) (z_rg σ (b % 8))) := z_ok_cm hO _ (by omega) (by omega)
  have hb4 : z_cv σ (b / 8 % 8) (z_x_reg σ 7) (z_rg σ (b % 8)) < 256 := z_cv_lt _ _ (by omega) (by omega)
  refine ps_reg (i := 7) (v := z_cv σ (b / 8 % 8) (z_x_reg σ 7) (z_rg σ (b % 8))) K hw (by omega) d_P_combineWithRegister_34 (fun H locs hw => ?_)
  have hO5 : z_Ok (z_s_reg (z_cm σ (b / 8 % 8) (z_x_reg σ 7) (z_rg σ (b % 8))) (z_fs (z_x_reg σ) 7 (z_cv σ (b / 8 % 8) (z_x_reg σ 7) (z_rg σ (b % 8))))) := z_ok_reg hO3 (z_fs_lt (z_k_reg hO) (by omega))
  refine lv_iload_n K.1 K.2.1 d_P_combineWithRegister_35 rfl (lv_at hl 0 rfl) ?_
  refine nv_bipush (v := 6) K d_P_combineWithRegister_36 (by decide) ?_
  refine nf_icmp_ne (u := 4) (v := 7) (Y := 47) K (by omega) (by omega) d_P_combineWithRegister_38 rfl (fun _ k => nv_iconst (v := 4) K d_P_combineWithRegister_46 (by decide) k) (fun _ k => nv_bipush (v := 7) K d_P_combineWithRegister_41 (by decide) (lv_goto K.1 K.2.1 d_P_combineWithRegister_43 rfl k)) ?_
  have hb6 : (if (b % 8) = 6 then 7 else 4) < 8 := z_ite_ltB _ (by omega) (by omega)
  exact pri K hr hlk hw (by first | rfl | (simp [z_tc, z_ec, z_rk]; done) | (simp only [z_tc, z_ec, z_rk]; rfl)) (by first | rfl | (simp [z_tc, z_ec, z_rk]; done) | (congr 1; omega) | (simp [z_tc, z_ec, z_rk]; omega)) d_P_combineWithRegister_47
set_option maxHeartbeats 4000000 in
set_option maxRecDepth 100000 in
theorem c_combineWithNext {σ : z_St} {b : Nat} (l : Launch) (D : va_G) (cI : ClassId) (a : pAd) (hO : z_Ok σ) (hb : b < 256) : pCi l y_P_combineWithNext w_P_combineWithNext 3 72 D cI a [.ref a.1, .int (nI b)] σ (z_rk (z_nx σ) (b / 8 % 8) (z_nb σ)) (nI 7) := by
  refine pci_of (cc := b_P_combineWithNext) (maxL := 2) (ret := (some .int)) (by decide) rfl (Nat.le_of_ble_eq_true rfl) ?_
  intro p e s m below meth c ls K hr hlk hl hw
  have K : CallFix p m c b_P_combineWithNext 2 s _ (_ :: T0) "PortProcessor" := K
  have hl : lv_has ls 2 [(0, .ref a.1), (1, .int (nI b))] := hl
  refine lv_aload_n K.1 K.2.1 d_P_combineWithNext_0 rfl (lv_at hl 0 rfl) ?_
  refine pg_registers K hw d_P_combineWithNext_1 ?_
  refine nv_bipush (v := 7) K d_P_combineWithNext_4 (by decide) ?_
  refine lv_aload_n K.1 K.2.1 d_P_combineWithNext_6 rfl (lv_at hl 0 rfl) ?_
  refine pg_flags K hw d_P_combineWithNext_7 ?_
  refine lv_iload_n K.1 K.2.1 d_P_combineWithNext_10 rfl (lv_at hl 1 rfl) ?_
  refine psi K (c_targetOf (σ := σ) (b := b) l D cI a hO (by omega)) (cw_P_212 K (Nat.le_of_ble_eq_true rfl) (Nat.le_of_ble_eq_true rfl)) hw rfl hl.1 rfl (Nat.le_of_ble_eq_true rfl) d_P_combineWithNext_11 ⟨Nat.zero_le _, Nat.zero_le _⟩ (fun H locs hw => ?_)
  refine lv_aload_n K.1 K.2.1 d_P_combineWithNext_14 rfl (lv_at hl 0 rfl) ?_
  refine pg_registers K hw d_P_combineWithNext_15 ?_
  refine nv_bipush (v := 7) K d_P_combineWithNext_18 (by decide) ?_
  refine pl_reg (i := 7) (v := z_x_reg σ 7) K hw (by omega) rfl d_P_combineWithNext_20 ?_
  have hb1 : z_x_reg σ 7 < 256 := z_k_reg hO _
  refine lv_aload_n K.1 K.2.1 d_P_combineWithNext_21 rfl (lv_at hl 0 rfl) ?_
  refine pki K (c_nextByte (σ := σ) l D cI a hO) (cw_P_121 K (Nat.le_of_ble_eq_true rfl) (Nat.le_of_ble_eq_true rfl)) hw (va_recv (ci := 0) (q0 := 0) hw.2.2.2.1 hw.1 rfl rfl) rfl hl.1 rfl (Nat.le_of_ble_eq_true rfl) d_P_combineWithNext_22 ⟨Nat.zero_le _, Nat.zero_le _⟩ (fun H locs hw => ?_)
  have hO2 : z_Ok (z_nx σ) := z_ok_nx hO
  have hb3 : z_nb σ < 256 := z_nb_lt hO
  refine pki K (c_combined (σ := z_nx σ) (k := b / 8 % 8) (x := z_x_reg σ 7) (y := z_nb σ) l D cI a hO2 (by omega) (by omega) (by omega)) (cw_P_237 K (Nat.le_of_ble_eq_true rfl) (Nat.le_of_ble_eq_true rfl)) hw (va_recv (ci := 2) (q0 := 2) hw.2.2.2.1 hw.1 rfl rfl) rfl hl.1 rfl (Nat.le_of_ble_eq_true rfl) d_P_combineWithNext_25 ⟨Nat.zero_le _, Nat.zero_le _⟩ (fun H locs hw => ?_)
  have hO4 : z_Ok (z_cm (z_nx σ) (b / 8 % 8) (z_x_reg σ 7) (z_nb σ)) := z_ok_cm hO2 _ (by omega) (by omega)
  refine nv_as K (y := nI (z_cv σ (b / 8 % 8) (z_x_reg σ 7) (z_nb σ))) rfl ?_
  have hb5 : z_cv σ (b / 8 % 8) (z_x_reg σ 7) (z_nb σ) < 256 := z_cv_lt _ _ (by omega) (by omega)
  refine ps_reg (i := 7) (v := z_cv σ (b / 8 % 8) (z_x_reg σ 7) (z_nb σ)) K hw (by omega) d_P_combineWithNext_28 (fun H locs hw => ?_)
  have hO6 : z_Ok (z_s_reg (z_cm (z_nx σ) (b / 8 % 8) (z_x_reg σ 7) (z_nb σ)) (z_fs (z_x_reg σ) 7 (z_cv σ (b / 8 % 8) (z_x_reg σ 7) (z_nb σ)))) := z_ok_reg hO4 (z_fs_lt (z_k_reg hO) (by omega))
  refine nv_bipush (v := 7) K d_P_combineWithNext_29 (by decide) ?_
  exact pri K hr hlk hw (by first | rfl | (simp [z_rk]; done) | (simp only [z_rk]; rfl)) (by first | rfl | (simp [z_rk]; done) | (congr 1; omega) | (simp [z_rk]; omega)) d_P_combineWithNext_31

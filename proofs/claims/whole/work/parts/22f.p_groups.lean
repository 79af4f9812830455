set_option maxHeartbeats 4000000 in
set_option maxRecDepth 100000 in
theorem c_raise {σ : z_St} {b : Nat} (l : Launch) (D : va_G) (cI : ClassId) (a : pAd) (hO : z_Ok σ) (hb : b < 256) : pCi l y_P_raise w_P_raise 3 63 D cI a [.ref a.1, .int (nI b)] σ (z_rs (z_up σ (z_rg σ (b / 8 % 8))) (b / 8 % 8) ((z_rg σ (b / 8 % 8) + 1) % 256)) (nI (if b / 8 % 8 = 6 then 10 else 5)) := by
  refine pci_of (cc := b_P_raise) (maxL := 3) (ret := (some .int)) (by decide) rfl (Nat.le_of_ble_eq_true rfl) ?_
  intro p e s m below meth c ls K hr hlk hl hw
  have K : CallFix p m c b_P_raise 3 s _ (_ :: T0) "PortProcessor" := K
  have hl : lv_has ls 3 [(0, .ref a.1), (1, .int (nI b))] := hl
  refine lv_iload_n K.1 K.2.1 d_P_raise_0 rfl (lv_at hl 1 rfl) ?_
  refine psi K (c_targetOf (σ := σ) (b := b) l D cI a hO (by omega)) (cw_P_212 K (Nat.le_of_ble_eq_true rfl) (Nat.le_of_ble_eq_true rfl)) hw rfl hl.1 rfl (Nat.le_of_ble_eq_true rfl) d_P_raise_1 ⟨Nat.zero_le _, Nat.zero_le _⟩ (fun H locs hw => ?_)
  refine lv_istore_n (lv' := [(2, .int (nI (b / 8 % 8))), (0, .ref a.1), (1, .int (nI b))]) K.1 K.2.1 d_P_raise_4 rfl hl (by decide) rfl (fun ls hl => ?_)
  refine lv_aload_n K.1 K.2.1 d_P_raise_5 rfl (lv_at hl 1 rfl) ?_
  refine lv_iload_n K.1 K.2.1 d_P_raise_6 rfl (lv_at hl 0 rfl) ?_
  refine lv_aload_n K.1 K.2.1 d_P_raise_7 rfl (lv_at hl 1 rfl) ?_
  refine pg_flags K hw d_P_raise_8 ?_
  refine lv_aload_n K.1 K.2.1 d_P_raise_11 rfl (lv_at hl 1 rfl) ?_
  refine lv_iload_n K.1 K.2.1 d_P_raise_12 rfl (lv_at hl 0 rfl) ?_
  refine pki K (c_readRegister (σ := σ) (r := b / 8 % 8) l D cI a hO (by omega)) (cw_P_91 K (Nat.le_of_ble_eq_true rfl) (Nat.le_of_ble_eq_true rfl)) hw (va_recv (ci := 0) (q0 := 0) hw.2.2.2.1 hw.1 rfl rfl) rfl hl.1 rfl (Nat.le_of_ble_eq_true rfl) d_P_raise_13 ⟨Nat.zero_le _, Nat.zero_le _⟩ (fun H locs hw => ?_)
  have hb1 : z_rg σ (b / 8 % 8) < 256 := z_rg_lt hO _
  refine pki K (c_raised (σ := σ) (v := z_rg σ (b / 8 % 8)) l D cI a hO (by omega)) (cw_P_215 K (Nat.le_of_ble_eq_true rfl) (Nat.le_of_ble_eq_true rfl)) hw (va_recv (ci := 2) (q0 := 2) hw.2.2.2.1 hw.1 rfl rfl) rfl hl.1 rfl (Nat.le_of_ble_eq_true rfl) d_P_raise_16 ⟨Nat.zero_le _, Nat.zero_le _⟩ (fun H locs hw => ?_)
  have hO2 : z_Ok (z_up σ (z_rg σ (b / 8 % 8))) := z_ok_up hO _
  refine pkv K (c_writeRegister (σ := z_up σ (z_rg σ (b / 8 % 8))) (r := b / 8 % 8) (v := ((z_rg σ (b / 8 % 8)) + 1) % 256) l D cI a hO2 (by omega) (by omega)) (cw_P_218 K (Nat.le_of_ble_eq_true rfl) (Nat.le_of_ble_eq_true rfl)) hw (va_recv (ci := 0) (q0 := 0) hw.2.2.2.1 hw.1 rfl rfl) rfl hl.1 rfl (Nat.le_of_ble_eq_true rfl) d_P_raise_19 ⟨Nat.zero_le _, Nat.zero_le _⟩ (fun H locs hw => ?_)
  have hO3 : z_Ok (z_rs (z_up σ (z_rg σ (b / 8 % 8))) (b / 8 % 8) (((z_rg σ (b / 8 % 8)) + 1) % 256)) := z_ok_rs hO2 _ (by omega)
  refine lv_iload_n K.1 K.2.1 d_P_raise_22 rfl (lv_at hl 0 rfl) ?_
  refine nv_bipush (v := 6) K d_P_raise_23 (by decide) ?_
  refine nf_icmp_ne (u := 5) (v := 10) (Y := 34) K (by omega) (by omega) d_P_raise_25 rfl (fun _ k => nv_iconst (v := 5) K d_P_raise_33 (by decide) k) (fun _ k => nv_bipush (v := 10) K d_P_raise_28 (by decide) (lv_goto K.1 K.2.1 d_P_raise_30 rfl k)) ?_
  have hb4 : (if (b / 8 % 8) = 6 then 10 else 5) < 11 := z_ite_ltB _ (by omega) (by omega)
  exact pri K hr hlk hw (by first | rfl | (simp; done) | (skip; rfl)) (by first | rfl | (simp; done) | (congr 1; omega) | (simp; omega)) d_P_raise_34
set_option maxHeartbeats 4000000 in
set_option maxRecDepth 100000 in
theorem c_lower {σ : z_St} {b : Nat} (l : Launch) (D : va_G) (cI : ClassId) (a : pAd) (hO : z_Ok σ) (hb : b < 256) : pCi l y_P_lower w_P_lower 3 63 D cI a [.ref a.1, .int (nI b)] σ (z_rs (z_dn σ (z_rg σ (b / 8 % 8))) (b / 8 % 8) ((z_rg σ (b / 8 % 8) + 255) % 256)) (nI (if b / 8 % 8 = 6 then 10 else 5)) := by
  refine pci_of (cc := b_P_lower) (maxL := 3) (ret := (some .int)) (by decide) rfl (Nat.le_of_ble_eq_true rfl) ?_
  intro p e s m below meth c ls K hr hlk hl hw
  have K : CallFix p m c b_P_lower 3 s _ (_ :: T0) "PortProcessor" := K
  have hl : lv_has ls 3 [(0, .ref a.1), (1, .int (nI b))] := hl
  refine lv_iload_n K.1 K.2.1 d_P_lower_0 rfl (lv_at hl 1 rfl) ?_
  refine psi K (c_targetOf (σ := σ) (b := b) l D cI a hO (by omega)) (cw_P_212 K (Nat.le_of_ble_eq_true rfl) (Nat.le_of_ble_eq_true rfl)) hw rfl hl.1 rfl (Nat.le_of_ble_eq_true rfl) d_P_lower_1 ⟨Nat.zero_le _, Nat.zero_le _⟩ (fun H locs hw => ?_)
  refine lv_istore_n (lv' := [(2, .int (nI (b / 8 % 8))), (0, .ref a.1), (1, .int (nI b))]) K.1 K.2.1 d_P_lower_4 rfl hl (by decide) rfl (fun ls hl => ?_)
  refine lv_aload_n K.1 K.2.1 d_P_lower_5 rfl (lv_at hl 1 rfl) ?_
  refine lv_iload_n K.1 K.2.1 d_P_lower_6 rfl (lv_at hl 0 rfl) ?_
  refine lv_aload_n K.1 K.2.1 d_P_lower_7 rfl (lv_at hl 1 rfl) ?_
  refine pg_flags K hw d_P_lower_8 ?_
  refine lv_aload_n K.1 K.2.1 d_P_lower_11 rfl (lv_at hl 1 rfl) ?_
  refine lv_iload_n K.1 K.2.1 d_P_lower_12 rfl (lv_at hl 0 rfl) ?_
  refine pki K (c_readRegister (σ := σ) (r := b / 8 % 8) l D cI a hO (by omega)) (cw_P_91 K (Nat.le_of_ble_eq_true rfl) (Nat.le_of_ble_eq_true rfl)) hw (va_recv (ci := 0) (q0 := 0) hw.2.2.2.1 hw.1 rfl rfl) rfl hl.1 rfl (Nat.le_of_ble_eq_true rfl) d_P_lower_13 ⟨Nat.zero_le _, Nat.zero_le _⟩ (fun H locs hw => ?_)
  have hb1 : z_rg σ (b / 8 % 8) < 256 := z_rg_lt hO _
  refine pki K (c_lowered (σ := σ) (v := z_rg σ (b / 8 % 8)) l D cI a hO (by omega)) (cw_P_221 K (Nat.le_of_ble_eq_true rfl) (Nat.le_of_ble_eq_true rfl)) hw (va_recv (ci := 2) (q0 := 2) hw.2.2.2.1 hw.1 rfl rfl) rfl hl.1 rfl (Nat.le_of_ble_eq_true rfl) d_P_lower_16 ⟨Nat.zero_le _, Nat.zero_le _⟩ (fun H locs hw => ?_)
  have hO2 : z_Ok (z_dn σ (z_rg σ (b / 8 % 8))) := z_ok_dn hO _
  refine pkv K (c_writeRegister (σ := z_dn σ (z_rg σ (b / 8 % 8))) (r := b / 8 % 8) (v := ((z_rg σ (b / 8 % 8)) + 255) % 256) l D cI a hO2 (by omega) (by omega)) (cw_P_218 K (Nat.le_of_ble_eq_true rfl) (Nat.le_of_ble_eq_true rfl)) hw (va_recv (ci := 0) (q0 := 0) hw.2.2.2.1 hw.1 rfl rfl) rfl hl.1 rfl (Nat.le_of_ble_eq_true rfl) d_P_lower_19 ⟨Nat.zero_le _, Nat.zero_le _⟩ (fun H locs hw => ?_)
  have hO3 : z_Ok (z_rs (z_dn σ (z_rg σ (b / 8 % 8))) (b / 8 % 8) (((z_rg σ (b / 8 % 8)) + 255) % 256)) := z_ok_rs hO2 _ (by omega)
  refine lv_iload_n K.1 K.2.1 d_P_lower_22 rfl (lv_at hl 0 rfl) ?_
  refine nv_bipush (v := 6) K d_P_lower_23 (by decide) ?_
  refine nf_icmp_ne (u := 5) (v := 10) (Y := 34) K (by omega) (by omega) d_P_lower_25 rfl (fun _ k => nv_iconst (v := 5) K d_P_lower_33 (by decide) k) (fun _ k => nv_bipush (v := 10) K d_P_lower_28 (by decide) (lv_goto K.1 K.2.1 d_P_lower_30 rfl k)) ?_
  have hb4 : (if (b / 8 % 8) = 6 then 10 else 5) < 11 := z_ite_ltB _ (by omega) (by omega)
  exact pri K hr hlk hw (by first | rfl | (simp; done) | (skip; rfl)) (by first | rfl | (simp; done) | (congr 1; omega) | (simp; omega)) d_P_lower_34
set_option maxHeartbeats 4000000 in
set_option maxRecDepth 100000 in
theorem c_fillRegister {σ : z_St} {b : Nat} (l : Launch) (D : va_G) (cI : ClassId) (a : pAd) (hO : z_Ok σ) (hb : b < 256) : pCi l y_P_fillRegister w_P_fillRegister 2 44 D cI a [.ref a.1, .int (nI b)] σ (z_rs (z_nx σ) (b / 8 % 8) (z_nb σ)) (nI (if b / 8 % 8 = 6 then 10 else 7)) := by
  refine pci_of (cc := b_P_fillRegister) (maxL := 3) (ret := (some .int)) (by decide) rfl (Nat.le_of_ble_eq_true rfl) ?_
  intro p e s m below meth c ls K hr hlk hl hw
  have K : CallFix p m c b_P_fillRegister 3 s _ (_ :: T0) "PortProcessor" := K
  have hl : lv_has ls 3 [(0, .ref a.1), (1, .int (nI b))] := hl
  refine lv_iload_n K.1 K.2.1 d_P_fillRegister_0 rfl (lv_at hl 1 rfl) ?_
  refine psi K (c_targetOf (σ := σ) (b := b) l D cI a hO (by omega)) (cw_P_212 K (Nat.le_of_ble_eq_true rfl) (Nat.le_of_ble_eq_true rfl)) hw rfl hl.1 rfl (Nat.le_of_ble_eq_true rfl) d_P_fillRegister_1 ⟨Nat.zero_le _, Nat.zero_le _⟩ (fun H locs hw => ?_)
  refine lv_istore_n (lv' := [(2, .int (nI (b / 8 % 8))), (0, .ref a.1), (1, .int (nI b))]) K.1 K.2.1 d_P_fillRegister_4 rfl hl (by decide) rfl (fun ls hl => ?_)
  refine lv_aload_n K.1 K.2.1 d_P_fillRegister_5 rfl (lv_at hl 1 rfl) ?_
  refine lv_iload_n K.1 K.2.1 d_P_fillRegister_6 rfl (lv_at hl 0 rfl) ?_
  refine lv_aload_n K.1 K.2.1 d_P_fillRegister_7 rfl (lv_at hl 1 rfl) ?_
  refine pki K (c_nextByte (σ := σ) l D cI a hO) (cw_P_121 K (Nat.le_of_ble_eq_true rfl) (Nat.le_of_ble_eq_true rfl)) hw (va_recv (ci := 0) (q0 := 0) hw.2.2.2.1 hw.1 rfl rfl) rfl hl.1 rfl (Nat.le_of_ble_eq_true rfl) d_P_fillRegister_8 ⟨Nat.zero_le _, Nat.zero_le _⟩ (fun H locs hw => ?_)
  have hO1 : z_Ok (z_nx σ) := z_ok_nx hO
  have hb2 : z_nb σ < 256 := z_nb_lt hO
  refine pkv K (c_writeRegister (σ := z_nx σ) (r := b / 8 % 8) (v := z_nb σ) l D cI a hO1 (by omega) (by omega)) (cw_P_218 K (Nat.le_of_ble_eq_true rfl) (Nat.le_of_ble_eq_true rfl)) hw (va_recv (ci := 0) (q0 := 0) hw.2.2.2.1 hw.1 rfl rfl) rfl hl.1 rfl (Nat.le_of_ble_eq_true rfl) d_P_fillRegister_11 ⟨Nat.zero_le _, Nat.zero_le _⟩ (fun H locs hw => ?_)
  have hO3 : z_Ok (z_rs (z_nx σ) (b / 8 % 8) (z_nb σ)) := z_ok_rs hO1 _ (by omega)
  refine lv_iload_n K.1 K.2.1 d_P_fillRegister_14 rfl (lv_at hl 0 rfl) ?_
  refine nv_bipush (v := 6) K d_P_fillRegister_15 (by decide) ?_
  refine nf_icmp_ne (u := 7) (v := 10) (Y := 27) K (by omega) (by omega) d_P_fillRegister_17 rfl (fun _ k => nv_bipush (v := 7) K d_P_fillRegister_25 (by decide) k) (fun _ k => nv_bipush (v := 10) K d_P_fillRegister_20 (by decide) (lv_goto K.1 K.2.1 d_P_fillRegister_22 rfl k)) ?_
  have hb4 : (if (b / 8 % 8) = 6 then 10 else 7) < 11 := z_ite_ltB _ (by omega) (by omega)
  exact pri K hr hlk hw (by first | rfl | (simp; done) | (skip; rfl)) (by first | rfl | (simp; done) | (congr 1; omega) | (simp; omega)) d_P_fillRegister_27

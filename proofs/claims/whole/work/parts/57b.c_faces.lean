set_option maxHeartbeats 4000000 in
set_option maxRecDepth 100000 in
theorem c_register {σ : z_St} {x : Nat} (l : Launch) (D : va_G) (cI : ClassId) (a : pAd) (hO : z_Ok σ) (hx : x < 11) : pCi l y_P_register w_P_register 2 42 D cI a [.ref a.1, .int (nI x)] σ σ (nI (zf_reg σ x)) := by
  refine pci_of (cc := b_P_register) (maxL := 2) (ret := (some .int)) (by decide) rfl (Nat.le_of_ble_eq_true rfl) ?_
  intro p e s m below meth c ls K hr hlk hl hw
  have K : CallFix p m c b_P_register 2 s _ (_ :: T0) "PortProcessor" := K
  have hl : lv_has ls 2 [(0, .ref a.1), (1, .int (nI x))] := hl
  refine lv_iload_n K.1 K.2.1 d_P_register_0 rfl (lv_at hl 1 rfl) ?_
  refine nv_if_lt K (by omega) d_P_register_1 rfl ?_
  refine lv_iload_n K.1 K.2.1 d_P_register_4 rfl (lv_at hl 1 rfl) ?_
  refine nv_bipush (v := 10) K d_P_register_5 (by decide) ?_
  refine nv_icmp_le K (by omega) (by omega) d_P_register_7 rfl (fun _ => ?_) (fun h => (by omega : False).elim)
  refine lv_iload_n K.1 K.2.1 d_P_register_20 rfl (lv_at hl 1 rfl) ?_
  rcases (by omega : x = 0 ∨ x = 1 ∨ x = 2 ∨ x = 3 ∨ x = 4 ∨ x = 5 ∨ x = 6 ∨ x = 7 ∨ x = 8 ∨ x = 9 ∨ x = 10) with h1 | h1 | h1 | h1 | h1 | h1 | h1 | h1 | h1 | h1 | h1
  · refine nv_as K (congrArg nI h1) ?_
    refine nv_tabOut (a := 0) (tgt := 66) K d_P_register_21 (by decide) (by decide) rfl ?_
    refine lv_aload_n K.1 K.2.1 d_P_register_66 rfl (lv_at hl 0 rfl) ?_
    refine lv_iload_n K.1 K.2.1 d_P_register_67 rfl (lv_at hl 1 rfl) ?_
    refine pki K (c_readRegister (σ := σ) (r := x) l D cI a hO (by omega)) (cw_P_91 K (Nat.le_of_ble_eq_true rfl) (Nat.le_of_ble_eq_true rfl)) hw (va_recv (ci := 0) (q0 := 0) hw.2.2.2.1 hw.1 rfl rfl) rfl hl.1 rfl (Nat.le_of_ble_eq_true rfl) d_P_register_68 ⟨Nat.zero_le _, Nat.zero_le _⟩ (fun H locs hw => ?_)
    have hb2 : z_rg σ x < 256 := z_rg_lt hO _
    exact pri K hr hlk hw (by rfl) (congrArg nI (zf_regS (by omega))) d_P_register_71
  · refine nv_as K (congrArg nI h1) ?_
    refine nv_tabOut (a := 1) (tgt := 66) K d_P_register_21 (by decide) (by decide) rfl ?_
    refine lv_aload_n K.1 K.2.1 d_P_register_66 rfl (lv_at hl 0 rfl) ?_
    refine lv_iload_n K.1 K.2.1 d_P_register_67 rfl (lv_at hl 1 rfl) ?_
    refine pki K (c_readRegister (σ := σ) (r := x) l D cI a hO (by omega)) (cw_P_91 K (Nat.le_of_ble_eq_true rfl) (Nat.le_of_ble_eq_true rfl)) hw (va_recv (ci := 0) (q0 := 0) hw.2.2.2.1 hw.1 rfl rfl) rfl hl.1 rfl (Nat.le_of_ble_eq_true rfl) d_P_register_68 ⟨Nat.zero_le _, Nat.zero_le _⟩ (fun H locs hw => ?_)
    have hb3 : z_rg σ x < 256 := z_rg_lt hO _
    exact pri K hr hlk hw (by rfl) (congrArg nI (zf_regS (by omega))) d_P_register_71
  · refine nv_as K (congrArg nI h1) ?_
    refine nv_tabOut (a := 2) (tgt := 66) K d_P_register_21 (by decide) (by decide) rfl ?_
    refine lv_aload_n K.1 K.2.1 d_P_register_66 rfl (lv_at hl 0 rfl) ?_
    refine lv_iload_n K.1 K.2.1 d_P_register_67 rfl (lv_at hl 1 rfl) ?_
    refine pki K (c_readRegister (σ := σ) (r := x) l D cI a hO (by omega)) (cw_P_91 K (Nat.le_of_ble_eq_true rfl) (Nat.le_of_ble_eq_true rfl)) hw (va_recv (ci := 0) (q0 := 0) hw.2.2.2.1 hw.1 rfl rfl) rfl hl.1 rfl (Nat.le_of_ble_eq_true rfl) d_P_register_68 ⟨Nat.zero_le _, Nat.zero_le _⟩ (fun H locs hw => ?_)
    have hb4 : z_rg σ x < 256 := z_rg_lt hO _
    exact pri K hr hlk hw (by rfl) (congrArg nI (zf_regS (by omega))) d_P_register_71
  · refine nv_as K (congrArg nI h1) ?_
    refine nv_tabOut (a := 3) (tgt := 66) K d_P_register_21 (by decide) (by decide) rfl ?_
    refine lv_aload_n K.1 K.2.1 d_P_register_66 rfl (lv_at hl 0 rfl) ?_
    refine lv_iload_n K.1 K.2.1 d_P_register_67 rfl (lv_at hl 1 rfl) ?_
    refine pki K (c_readRegister (σ := σ) (r := x) l D cI a hO (by omega)) (cw_P_91 K (Nat.le_of_ble_eq_true rfl) (Nat.le_of_ble_eq_true rfl)) hw (va_recv (ci := 0) (q0 := 0) hw.2.2.2.1 hw.1 rfl rfl) rfl hl.1 rfl (Nat.le_of_ble_eq_true rfl) d_P_register_68 ⟨Nat.zero_le _, Nat.zero_le _⟩ (fun H locs hw => ?_)
    have hb5 : z_rg σ x < 256 := z_rg_lt hO _
    exact pri K hr hlk hw (by rfl) (congrArg nI (zf_regS (by omega))) d_P_register_71
  · refine nv_as K (congrArg nI h1) ?_
    refine nv_tabOut (a := 4) (tgt := 66) K d_P_register_21 (by decide) (by decide) rfl ?_
    refine lv_aload_n K.1 K.2.1 d_P_register_66 rfl (lv_at hl 0 rfl) ?_
    refine lv_iload_n K.1 K.2.1 d_P_register_67 rfl (lv_at hl 1 rfl) ?_
    refine pki K (c_readRegister (σ := σ) (r := x) l D cI a hO (by omega)) (cw_P_91 K (Nat.le_of_ble_eq_true rfl) (Nat.le_of_ble_eq_true rfl)) hw (va_recv (ci := 0) (q0 := 0) hw.2.2.2.1 hw.1 rfl rfl) rfl hl.1 rfl (Nat.le_of_ble_eq_true rfl) d_P_register_68 ⟨Nat.zero_le _, Nat.zero_le _⟩ (fun H locs hw => ?_)
    have hb6 : z_rg σ x < 256 := z_rg_lt hO _
    exact pri K hr hlk hw (by rfl) (congrArg nI (zf_regS (by omega))) d_P_register_71
  · refine nv_as K (congrArg nI h1) ?_
    refine nv_tabOut (a := 5) (tgt := 66) K d_P_register_21 (by decide) (by decide) rfl ?_
    refine lv_aload_n K.1 K.2.1 d_P_register_66 rfl (lv_at hl 0 rfl) ?_
    refine lv_iload_n K.1 K.2.1 d_P_register_67 rfl (lv_at hl 1 rfl) ?_
    refine pki K (c_readRegister (σ := σ) (r := x) l D cI a hO (by omega)) (cw_P_91 K (Nat.le_of_ble_eq_true rfl) (Nat.le_of_ble_eq_true rfl)) hw (va_recv (ci := 0) (q0 := 0) hw.2.2.2.1 hw.1 rfl rfl) rfl hl.1 rfl (Nat.le_of_ble_eq_true rfl) d_P_register_68 ⟨Nat.zero_le _, Nat.zero_le _⟩ (fun H locs hw => ?_)
    have hb7 : z_rg σ x < 256 := z_rg_lt hO _
    exact pri K hr hlk hw (by rfl) (congrArg nI (zf_regS (by omega))) d_P_register_71
  · refine nv_as K (congrArg nI h1) ?_
    refine nv_tabOut (a := 6) (tgt := 66) K d_P_register_21 (by decide) (by decide) rfl ?_
    refine lv_aload_n K.1 K.2.1 d_P_register_66 rfl (lv_at hl 0 rfl) ?_
    refine lv_iload_n K.1 K.2.1 d_P_register_67 rfl (lv_at hl 1 rfl) ?_
    refine pki K (c_readRegister (σ := σ) (r := x) l D cI a hO (by omega)) (cw_P_91 K (Nat.le_of_ble_eq_true rfl) (Nat.le_of_ble_eq_true rfl)) hw (va_recv (ci := 0) (q0 := 0) hw.2.2.2.1 hw.1 rfl rfl) rfl hl.1 rfl (Nat.le_of_ble_eq_true rfl) d_P_register_68 ⟨Nat.zero_le _, Nat.zero_le _⟩ (fun H locs hw => ?_)
    have hb8 : z_rg σ x < 256 := z_rg_lt hO _
    exact pri K hr hlk hw (by rfl) (congrArg nI (zf_regS (by omega))) d_P_register_71
  · refine nv_as K (congrArg nI h1) ?_
    refine nv_tabOut (a := 7) (tgt := 66) K d_P_register_21 (by decide) (by decide) rfl ?_
    refine lv_aload_n K.1 K.2.1 d_P_register_66 rfl (lv_at hl 0 rfl) ?_
    refine lv_iload_n K.1 K.2.1 d_P_register_67 rfl (lv_at hl 1 rfl) ?_
    refine pki K (c_readRegister (σ := σ) (r := x) l D cI a hO (by omega)) (cw_P_91 K (Nat.le_of_ble_eq_true rfl) (Nat.le_of_ble_eq_true rfl)) hw (va_recv (ci := 0) (q0 := 0) hw.2.2.2.1 hw.1 rfl rfl) rfl hl.1 rfl (Nat.le_of_ble_eq_true rfl) d_P_register_68 ⟨Nat.zero_le _, Nat.zero_le _⟩ (fun H locs hw => ?_)
    have hb9 : z_rg σ x < 256 := z_rg_lt hO _
    exact pri K hr hlk hw (by rfl) (congrArg nI (zf_regS (by omega))) d_P_register_71
  · refine nv_as K (congrArg nI h1) ?_
    refine nv_tabIn (a := 8) (tgt := 48) K d_P_register_21 (by decide) (by decide) (by decide) rfl rfl ?_
    refine lv_aload_n K.1 K.2.1 d_P_register_48 rfl (lv_at hl 0 rfl) ?_
    refine pg_flags K hw d_P_register_49 ?_
    refine pki K (c_asByte (σ := σ) l D cI a hO) (cw_P_84 K (Nat.le_of_ble_eq_true rfl) (Nat.le_of_ble_eq_true rfl)) hw (va_recv (ci := 2) (q0 := 2) hw.2.2.2.1 hw.1 rfl rfl) rfl hl.1 rfl (Nat.le_of_ble_eq_true rfl) d_P_register_52 ⟨Nat.zero_le _, Nat.zero_le _⟩ (fun H locs hw => ?_)
    have hb10 : z_fb σ < 256 := z_fb_lt hO
    exact pri K hr hlk hw (by rfl) (by rw [h1]; rfl) d_P_register_55
  · refine nv_as K (congrArg nI h1) ?_
    refine nv_tabIn (a := 9) (tgt := 56) K d_P_register_21 (by decide) (by decide) (by decide) rfl rfl ?_
    refine lv_aload_n K.1 K.2.1 d_P_register_56 rfl (lv_at hl 0 rfl) ?_
    refine pg_stackPointer (v := z_x_sp σ) K hw rfl d_P_register_57 ?_
    have hb11 : z_x_sp σ < 65536 := z_k_sp hO
    exact pri K hr hlk hw (by rfl) (by rw [h1]; rfl) d_P_register_60
  · refine nv_as K (congrArg nI h1) ?_
    refine nv_tabIn (a := 10) (tgt := 61) K d_P_register_21 (by decide) (by decide) (by decide) rfl rfl ?_
    refine lv_aload_n K.1 K.2.1 d_P_register_61 rfl (lv_at hl 0 rfl) ?_
    refine pg_programCounter (v := z_x_pc σ) K hw rfl d_P_register_62 ?_
    have hb12 : z_x_pc σ < 65536 := z_k_pc hO
    exact pri K hr hlk hw (by rfl) (by rw [h1]; rfl) d_P_register_65
set_option maxHeartbeats 4000000 in
set_option maxRecDepth 100000 in
theorem c_is {σ : z_St} {x : Nat} (l : Launch) (D : va_G) (cI : ClassId) (a : pAd) (hO : z_Ok σ) (hx : x < 3) : pCi l y_P_is w_P_is 0 0 D cI a [.ref a.1, .int (nI x)] σ σ (nI (zf_is σ x)) := by
  refine pci_of (cc := b_P_is) (maxL := 2) (ret := (some .boolean)) (by decide) rfl (Nat.le_of_ble_eq_true rfl) ?_
  intro p e s m below meth c ls K hr hlk hl hw
  have K : CallFix p m c b_P_is 2 s _ (_ :: T0) "PortProcessor" := K
  have hl : lv_has ls 2 [(0, .ref a.1), (1, .int (nI x))] := hl
  refine lv_iload_n K.1 K.2.1 d_P_is_0 rfl (lv_at hl 1 rfl) ?_
  rcases (by omega : x = 0 ∨ x = 1 ∨ x = 2) with h1 | h1 | h1
  · refine nv_as K (congrArg nI h1) ?_
    refine nv_tabIn (a := 0) (tgt := 28) K d_P_is_1 (by decide) (by decide) (by decide) rfl rfl ?_
    refine lv_aload_n K.1 K.2.1 d_P_is_28 rfl (lv_at hl 0 rfl) ?_
    refine pg_halted (v := z_x_ha σ) K hw rfl d_P_is_29 ?_
    have hb2 : z_x_ha σ < 2 := z_k_ha hO
    exact prz K hr hlk hw (by rfl) (by omega) (by rw [h1]; rfl) d_P_is_32
  · refine nv_as K (congrArg nI h1) ?_
    refine nv_tabIn (a := 1) (tgt := 33) K d_P_is_1 (by decide) (by decide) (by decide) rfl rfl ?_
    refine lv_aload_n K.1 K.2.1 d_P_is_33 rfl (lv_at hl 0 rfl) ?_
    refine pg_interruptsOn (v := z_x_it σ) K hw rfl d_P_is_34 ?_
    have hb3 : z_x_it σ < 2 := z_k_it hO
    exact prz K hr hlk hw (by rfl) (by omega) (by rw [h1]; rfl) d_P_is_37
  · refine nv_as K (congrArg nI h1) ?_
    refine nv_tabIn (a := 2) (tgt := 38) K d_P_is_1 (by decide) (by decide) (by decide) rfl rfl ?_
    refine lv_aload_n K.1 K.2.1 d_P_is_38 rfl (lv_at hl 0 rfl) ?_
    refine pg_waitingInterrupt (v := z_x_wa σ) K hw rfl d_P_is_39 ?_
    have hb4 : z_x_wa σ < 9 := z_k_wa hO
    refine lv_iconst (v := -1) K.1 K.2.1 d_P_is_42 (by decide) ?_
    refine nf_wa (w := z_x_wa σ) (u := 0) (v := 1) (Y := 51) K (by omega) d_P_is_43 rfl (fun _ k => nv_iconst (v := 0) K d_P_is_50 (by decide) k) (fun _ k => nv_iconst (v := 1) K d_P_is_46 (by decide) (lv_goto K.1 K.2.1 d_P_is_47 rfl k)) ?_
    have hb6 : (if (z_x_wa σ) = 0 then 0 else 1) < 2 := z_ite_ltB _ (by omega) (by omega)
    exact prz K hr hlk hw (by rfl) (by omega) (by rw [h1]; rfl) d_P_is_51

set_option maxHeartbeats 4000000 in
set_option maxRecDepth 100000 in
theorem r_register {σ : z_St} {x : Nat} (l : Launch) (D : va_G) (cI : ClassId) (a : qAd) (hO : z_Ok σ) (hx : x < 11) : qCi l y_R_register w_R_register 2 42 D cI a [.ref a.1, .int (nI x)] σ (z_s_th σ 0) (nI (zf_reg σ x)) := by
  refine qci_of (cc := b_R_register) (maxL := 2) (ret := (some .int)) (by decide) rfl (Nat.le_of_ble_eq_true rfl) ?_
  intro p e s m below meth c ls K hr hlk hl hw
  have K : CallFix p m c b_R_register 2 s _ (_ :: T0) "PortProcessorModel" := K
  have hl : lv_has ls 2 [(0, .ref a.1), (1, .int (nI x))] := hl
  refine lv_aload_n K.1 K.2.1 d_R_register_0 rfl (lv_at hl 0 rfl) ?_
  refine lv_iload_n K.1 K.2.1 d_R_register_1 rfl (lv_at hl 1 rfl) ?_
  refine nv_bipush (v := 11) K d_R_register_2 (by decide) ?_
  refine qsi K (r_outside (σ := σ) (x := x) (y := 11) l D cI a hO (by omega) (by omega)) (cw_R_154 K (Nat.le_of_ble_eq_true rfl) (Nat.le_of_ble_eq_true rfl)) hw rfl hl.1 rfl (Nat.le_of_ble_eq_true rfl) d_R_register_4 ⟨Nat.zero_le _, Nat.zero_le _⟩ (fun H locs hw => ?_)
  refine nv_if_eq K (by omega) d_R_register_7 rfl (fun _ => ?_) (fun h => (by omega : False).elim)
  refine nv_iconst (v := 0) K d_R_register_14 (by decide) ?_
  refine qp_thrown (v := 0) K hw d_R_register_15 (fun H locs hw => ?_)
  have hO1 : z_Ok (z_s_th σ 0) := z_ok_th hO
  refine lv_aload_n K.1 K.2.1 d_R_register_18 rfl (lv_at hl 0 rfl) ?_
  refine qg_thrown (v := 0) K hw rfl d_R_register_19 ?_
  refine nv_if_le K (by omega) d_R_register_22 rfl (fun _ => ?_) (fun h => (by omega : False).elim)
  refine lv_iload_n K.1 K.2.1 d_R_register_27 rfl (lv_at hl 1 rfl) ?_
  refine nv_bipush (v := 8) K d_R_register_28 (by decide) ?_
  refine nv_icmp_ge K (by omega) (by omega) d_R_register_30 rfl (fun h2 => ?_) (fun h2 => ?_)
  · refine lv_iload_n K.1 K.2.1 d_R_register_41 rfl (lv_at hl 1 rfl) ?_
    refine nv_bipush (v := 8) K d_R_register_42 (by decide) ?_
    refine nv_icmp_ne K (by omega) (by omega) d_R_register_44 rfl (fun h3 => ?_) (fun h3 => ?_)
    · refine lv_iload_n K.1 K.2.1 d_R_register_54 rfl (lv_at hl 1 rfl) ?_
      refine nv_bipush (v := 9) K d_R_register_55 (by decide) ?_
      refine nv_icmp_ne K (by omega) (by omega) d_R_register_57 rfl (fun h4 => ?_) (fun h4 => ?_)
      · refine lv_aload_n K.1 K.2.1 d_R_register_67 rfl (lv_at hl 0 rfl) ?_
        refine qg_pc (v := z_x_pc σ) K hw rfl d_R_register_68 ?_
        have hb5 : z_x_pc σ < 65536 := z_k_pc hO
        exact qri K hr hlk hw (by rfl) (congrArg nI (by rw [show x = 10 by omega]; rfl)) d_R_register_71
      · refine lv_aload_n K.1 K.2.1 d_R_register_60 rfl (lv_at hl 0 rfl) ?_
        refine qg_sp (v := z_x_sp σ) K hw rfl d_R_register_61 ?_
        have hb6 : z_x_sp σ < 65536 := z_k_sp hO
        refine lv_goto K.1 K.2.1 d_R_register_64 rfl ?_
        exact qri K hr hlk hw (by rfl) (congrArg nI (by rw [show x = 9 by omega]; rfl)) d_R_register_71
    · refine lv_aload_n K.1 K.2.1 d_R_register_47 rfl (lv_at hl 0 rfl) ?_
      refine qki K (r_flags (σ := z_s_th σ 0) l D cI a hO1) (cw_R_125 K (Nat.le_of_ble_eq_true rfl) (Nat.le_of_ble_eq_true rfl)) hw (va_recv (ci := 3) (q0 := 0) hw.2.2.2.1 hw.1 rfl rfl) rfl hl.1 rfl (Nat.le_of_ble_eq_true rfl) d_R_register_48 ⟨Nat.zero_le _, Nat.zero_le _⟩ (fun H locs hw => ?_)
      refine nv_as K (y := nI (z_fb σ)) rfl ?_
      have hb7 : z_fb σ < 256 := z_fb_lt hO1
      refine lv_goto K.1 K.2.1 d_R_register_51 rfl ?_
      exact qri K hr hlk hw (by rfl) (congrArg nI (by rw [show x = 8 by omega]; rfl)) d_R_register_71
  · refine lv_aload_n K.1 K.2.1 d_R_register_33 rfl (lv_at hl 0 rfl) ?_
    refine lv_iload_n K.1 K.2.1 d_R_register_34 rfl (lv_at hl 1 rfl) ?_
    refine qki K (r_get (σ := z_s_th σ 0) (r := x) l D cI a hO1 (by omega)) (cw_R_85 K (Nat.le_of_ble_eq_true rfl) (Nat.le_of_ble_eq_true rfl)) hw (va_recv (ci := 3) (q0 := 0) hw.2.2.2.1 hw.1 rfl rfl) rfl hl.1 rfl (Nat.le_of_ble_eq_true rfl) d_R_register_35 ⟨Nat.zero_le _, Nat.zero_le _⟩ (fun H locs hw => ?_)
    refine nv_as K (y := nI (z_rg σ x)) rfl ?_
    have hb8 : z_rg σ x < 256 := z_rg_lt hO1 _
    refine lv_goto K.1 K.2.1 d_R_register_38 rfl ?_
    exact qri K hr hlk hw (by rfl) (congrArg nI (zf_regS (by omega))) d_R_register_71
set_option maxHeartbeats 4000000 in
set_option maxRecDepth 100000 in
theorem r_is {σ : z_St} {x : Nat} (l : Launch) (D : va_G) (cI : ClassId) (a : qAd) (hO : z_Ok σ) (hx : x < 3) : qCi l y_R_is w_R_is 1 21 D cI a [.ref a.1, .int (nI x)] σ (z_s_th σ 0) (nI (zf_is σ x)) := by
  refine qci_of (cc := b_R_is) (maxL := 2) (ret := (some .boolean)) (by decide) rfl (Nat.le_of_ble_eq_true rfl) ?_
  intro p e s m below meth c ls K hr hlk hl hw
  have K : CallFix p m c b_R_is 2 s _ (_ :: T0) "PortProcessorModel" := K
  have hl : lv_has ls 2 [(0, .ref a.1), (1, .int (nI x))] := hl
  refine lv_aload_n K.1 K.2.1 d_R_is_0 rfl (lv_at hl 0 rfl) ?_
  refine lv_iload_n K.1 K.2.1 d_R_is_1 rfl (lv_at hl 1 rfl) ?_
  refine nv_iconst (v := 3) K d_R_is_2 (by decide) ?_
  refine qsi K (r_outside (σ := σ) (x := x) (y := 3) l D cI a hO (by omega) (by omega)) (cw_R_154 K (Nat.le_of_ble_eq_true rfl) (Nat.le_of_ble_eq_true rfl)) hw rfl hl.1 rfl (Nat.le_of_ble_eq_true rfl) d_R_is_3 ⟨Nat.zero_le _, Nat.zero_le _⟩ (fun H locs hw => ?_)
  refine nv_if_eq K (by omega) d_R_is_6 rfl (fun _ => ?_) (fun h => (by omega : False).elim)
  refine nv_iconst (v := 0) K d_R_is_13 (by decide) ?_
  refine qp_thrown (v := 0) K hw d_R_is_14 (fun H locs hw => ?_)
  have hO1 : z_Ok (z_s_th σ 0) := z_ok_th hO
  refine lv_aload_n K.1 K.2.1 d_R_is_17 rfl (lv_at hl 0 rfl) ?_
  refine qg_thrown (v := 0) K hw rfl d_R_is_18 ?_
  refine nv_if_ne K (by omega) d_R_is_21 rfl (fun h => (by omega : False).elim) (fun _ => ?_)
  refine lv_iload_n K.1 K.2.1 d_R_is_24 rfl (lv_at hl 1 rfl) ?_
  refine nv_if_ne K (by omega) d_R_is_25 rfl (fun h2 => ?_) (fun h2 => ?_)
  · refine lv_iload_n K.1 K.2.1 d_R_is_38 rfl (lv_at hl 1 rfl) ?_
    refine nv_iconst (v := 1) K d_R_is_39 (by decide) ?_
    refine nv_icmp_ne K (by omega) (by omega) d_R_is_40 rfl (fun h3 => ?_) (fun h3 => ?_)
    · refine lv_aload_n K.1 K.2.1 d_R_is_53 rfl (lv_at hl 0 rfl) ?_
      refine qg_waiting (v := z_x_wa σ) K hw rfl d_R_is_54 ?_
      have hb4 : z_x_wa σ < 9 := z_k_wa hO
      refine nv_walt (w := z_x_wa σ) K (by omega) d_R_is_57 rfl (fun h5 => ?_) (fun h5 => ?_)
      · refine nv_iconst (v := 0) K d_R_is_64 (by decide) ?_
        exact qrz K hr hlk hw (by rfl) (by omega) (congrArg nI (by unfold zf_is; (repeat' split) <;> omega)) d_R_is_65
      · refine nv_iconst (v := 1) K d_R_is_60 (by decide) ?_
        refine lv_goto K.1 K.2.1 d_R_is_61 rfl ?_
        exact qrz K hr hlk hw (by rfl) (by omega) (congrArg nI (by unfold zf_is; (repeat' split) <;> omega)) d_R_is_65
    · refine lv_aload_n K.1 K.2.1 d_R_is_43 rfl (lv_at hl 0 rfl) ?_
      refine qg_lets (v := z_x_it σ) K hw rfl d_R_is_44 ?_
      have hb6 : z_x_it σ < 2 := z_k_it hO
      refine nv_if_eq K (by omega) d_R_is_47 rfl (fun h7 => ?_) (fun h7 => ?_)
      · refine nv_iconst (v := 0) K d_R_is_64 (by decide) ?_
        exact qrz K hr hlk hw (by rfl) (by omega) (congrArg nI (by unfold zf_is; (repeat' split) <;> omega)) d_R_is_65
      · refine lv_goto K.1 K.2.1 d_R_is_50 rfl ?_
        refine nv_iconst (v := 1) K d_R_is_60 (by decide) ?_
        refine lv_goto K.1 K.2.1 d_R_is_61 rfl ?_
        exact qrz K hr hlk hw (by rfl) (by omega) (congrArg nI (by unfold zf_is; (repeat' split) <;> omega)) d_R_is_65
  · refine lv_aload_n K.1 K.2.1 d_R_is_28 rfl (lv_at hl 0 rfl) ?_
    refine qg_halted (v := z_x_ha σ) K hw rfl d_R_is_29 ?_
    have hb8 : z_x_ha σ < 2 := z_k_ha hO
    refine nv_if_eq K (by omega) d_R_is_32 rfl (fun h9 => ?_) (fun h9 => ?_)
    · refine nv_iconst (v := 0) K d_R_is_64 (by decide) ?_
      exact qrz K hr hlk hw (by rfl) (by omega) (congrArg nI (by unfold zf_is; (repeat' split) <;> omega)) d_R_is_65
    · refine lv_goto K.1 K.2.1 d_R_is_35 rfl ?_
      refine nv_iconst (v := 1) K d_R_is_60 (by decide) ?_
      refine lv_goto K.1 K.2.1 d_R_is_61 rfl ?_
      exact qrz K hr hlk hw (by rfl) (by omega) (congrArg nI (by unfold zf_is; (repeat' split) <;> omega)) d_R_is_65

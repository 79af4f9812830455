set_option maxHeartbeats 4000000 in
set_option maxRecDepth 100000 in
theorem c_jumpExchangeOrSwitch {σ : z_St} {b : Nat} (l : Launch) (D : va_G) (cI : ClassId) (a : pAd) (hO : z_Ok σ) (hb : b < 256) : pCi l y_P_jumpExchangeOrSwitch w_P_jumpExchangeOrSwitch 3 63 D cI a [.ref a.1, .int (nI b)] σ (z_e3 σ (b / 8 % 8)) (nI (z_t3 (b / 8 % 8))) := by
  refine pci_of (cc := b_P_jumpExchangeOrSwitch) (maxL := 2) (ret := (some .int)) (by decide) rfl (Nat.le_of_ble_eq_true rfl) ?_
  intro p e s m below meth c ls K hr hlk hl hw
  have K : CallFix p m c b_P_jumpExchangeOrSwitch 2 s _ (_ :: T0) "PortProcessor" := K
  have hl : lv_has ls 2 [(0, .ref a.1), (1, .int (nI b))] := hl
  refine lv_iload_n K.1 K.2.1 d_P_jumpExchangeOrSwitch_0 rfl (lv_at hl 1 rfl) ?_
  refine psi K (c_targetOf (σ := σ) (b := b) l D cI a hO (by omega)) (cw_P_212 K (Nat.le_of_ble_eq_true rfl) (Nat.le_of_ble_eq_true rfl)) hw rfl hl.1 rfl (Nat.le_of_ble_eq_true rfl) d_P_jumpExchangeOrSwitch_1 ⟨Nat.zero_le _, Nat.zero_le _⟩ (fun H locs hw => ?_)
  rcases (by omega : (b / 8 % 8) = 0 ∨ (b / 8 % 8) = 1 ∨ (b / 8 % 8) = 2 ∨ (b / 8 % 8) = 3 ∨ (b / 8 % 8) = 4 ∨ (b / 8 % 8) = 5 ∨ (b / 8 % 8) = 6 ∨ (b / 8 % 8) = 7) with h1 | h1 | h1 | h1 | h1 | h1 | h1 | h1
  · refine nv_as K (congrArg nI h1) ?_
    refine nv_tabOut (a := 0) (tgt := 106) K d_P_jumpExchangeOrSwitch_4 (by decide) (by decide) rfl ?_
    refine lv_aload_n K.1 K.2.1 d_P_jumpExchangeOrSwitch_106 rfl (lv_at hl 0 rfl) ?_
    refine lv_aload_n K.1 K.2.1 d_P_jumpExchangeOrSwitch_107 rfl (lv_at hl 0 rfl) ?_
    refine pki K (c_nextTwoBytes (σ := σ) l D cI a hO) (cw_P_193 K (Nat.le_of_ble_eq_true rfl) (Nat.le_of_ble_eq_true rfl)) hw (va_recv (ci := 0) (q0 := 0) hw.2.2.2.1 hw.1 rfl rfl) rfl hl.1 rfl (Nat.le_of_ble_eq_true rfl) d_P_jumpExchangeOrSwitch_108 ⟨Nat.zero_le _, Nat.zero_le _⟩ (fun H locs hw => ?_)
    have hO2 : z_Ok (z_nn σ) := z_ok_nn hO
    have hb3 : z_nw σ < 65536 := z_nw_lt hO
    refine pp_programCounter (v := z_nw σ) K hw d_P_jumpExchangeOrSwitch_111 (fun H locs hw => ?_)
    have hO4 : z_Ok (z_s_pc (z_nn σ) (z_nw σ)) := z_ok_pc hO2 (by omega)
    refine nv_bipush (v := 10) K d_P_jumpExchangeOrSwitch_114 (by decide) ?_
    exact pri K hr hlk hw (by rw [h1]; rfl) (by rw [h1]; rfl) d_P_jumpExchangeOrSwitch_116
  · refine nv_as K (congrArg nI h1) ?_
    refine nv_tabOut (a := 1) (tgt := 106) K d_P_jumpExchangeOrSwitch_4 (by decide) (by decide) rfl ?_
    refine lv_aload_n K.1 K.2.1 d_P_jumpExchangeOrSwitch_106 rfl (lv_at hl 0 rfl) ?_
    refine lv_aload_n K.1 K.2.1 d_P_jumpExchangeOrSwitch_107 rfl (lv_at hl 0 rfl) ?_
    refine pki K (c_nextTwoBytes (σ := σ) l D cI a hO) (cw_P_193 K (Nat.le_of_ble_eq_true rfl) (Nat.le_of_ble_eq_true rfl)) hw (va_recv (ci := 0) (q0 := 0) hw.2.2.2.1 hw.1 rfl rfl) rfl hl.1 rfl (Nat.le_of_ble_eq_true rfl) d_P_jumpExchangeOrSwitch_108 ⟨Nat.zero_le _, Nat.zero_le _⟩ (fun H locs hw => ?_)
    have hO5 : z_Ok (z_nn σ) := z_ok_nn hO
    have hb6 : z_nw σ < 65536 := z_nw_lt hO
    refine pp_programCounter (v := z_nw σ) K hw d_P_jumpExchangeOrSwitch_111 (fun H locs hw => ?_)
    have hO7 : z_Ok (z_s_pc (z_nn σ) (z_nw σ)) := z_ok_pc hO5 (by omega)
    refine nv_bipush (v := 10) K d_P_jumpExchangeOrSwitch_114 (by decide) ?_
    exact pri K hr hlk hw (by rw [h1]; rfl) (by rw [h1]; rfl) d_P_jumpExchangeOrSwitch_116
  · refine nv_as K (congrArg nI h1) ?_
    refine nv_tabIn (a := 2) (tgt := 44) K d_P_jumpExchangeOrSwitch_4 (by decide) (by decide) (by decide) rfl rfl ?_
    refine lv_aload_n K.1 K.2.1 d_P_jumpExchangeOrSwitch_44 rfl (lv_at hl 0 rfl) ?_
    refine pg_putOut K hw d_P_jumpExchangeOrSwitch_45 ?_
    refine lv_aload_n K.1 K.2.1 d_P_jumpExchangeOrSwitch_48 rfl (lv_at hl 0 rfl) ?_
    refine pki K (c_nextByte (σ := σ) l D cI a hO) (cw_P_121 K (Nat.le_of_ble_eq_true rfl) (Nat.le_of_ble_eq_true rfl)) hw (va_recv (ci := 0) (q0 := 0) hw.2.2.2.1 hw.1 rfl rfl) rfl hl.1 rfl (Nat.le_of_ble_eq_true rfl) d_P_jumpExchangeOrSwitch_49 ⟨Nat.zero_le _, Nat.zero_le _⟩ (fun H locs hw => ?_)
    have hO8 : z_Ok (z_nx σ) := z_ok_nx hO
    have hb9 : z_nb σ < 256 := z_nb_lt hO
    refine lv_aload_n K.1 K.2.1 d_P_jumpExchangeOrSwitch_52 rfl (lv_at hl 0 rfl) ?_
    refine pg_registers K hw d_P_jumpExchangeOrSwitch_53 ?_
    refine nv_bipush (v := 7) K d_P_jumpExchangeOrSwitch_56 (by decide) ?_
    refine pl_reg (i := 7) (v := z_x_reg σ 7) K hw (by omega) rfl d_P_jumpExchangeOrSwitch_58 ?_
    have hb10 : z_x_reg σ 7 < 256 := z_k_reg hO _
    refine ps_put (i := z_nb σ) (v := z_x_reg σ 7) K hw (by omega) d_P_jumpExchangeOrSwitch_59 (fun H locs hw => ?_)
    have hO11 : z_Ok (z_s_put (z_nx σ) (z_fs (z_x_put σ) (z_nb σ) ((z_x_reg σ 7) + 1))) := z_ok_put hO8 (z_fs_lt (z_k_put hO) (by omega))
    refine nv_bipush (v := 10) K d_P_jumpExchangeOrSwitch_60 (by decide) ?_
    exact pri K hr hlk hw (by rw [h1]; rfl) (by rw [h1]; rfl) d_P_jumpExchangeOrSwitch_62
  · refine nv_as K (congrArg nI h1) ?_
    refine nv_tabIn (a := 3) (tgt := 63) K d_P_jumpExchangeOrSwitch_4 (by decide) (by decide) (by decide) rfl rfl ?_
    refine lv_aload_n K.1 K.2.1 d_P_jumpExchangeOrSwitch_63 rfl (lv_at hl 0 rfl) ?_
    refine pg_registers K hw d_P_jumpExchangeOrSwitch_64 ?_
    refine nv_bipush (v := 7) K d_P_jumpExchangeOrSwitch_67 (by decide) ?_
    refine lv_aload_n K.1 K.2.1 d_P_jumpExchangeOrSwitch_69 rfl (lv_at hl 0 rfl) ?_
    refine pg_broughtIn K hw d_P_jumpExchangeOrSwitch_70 ?_
    refine lv_aload_n K.1 K.2.1 d_P_jumpExchangeOrSwitch_73 rfl (lv_at hl 0 rfl) ?_
    refine pki K (c_nextByte (σ := σ) l D cI a hO) (cw_P_121 K (Nat.le_of_ble_eq_true rfl) (Nat.le_of_ble_eq_true rfl)) hw (va_recv (ci := 0) (q0 := 0) hw.2.2.2.1 hw.1 rfl rfl) rfl hl.1 rfl (Nat.le_of_ble_eq_true rfl) d_P_jumpExchangeOrSwitch_74 ⟨Nat.zero_le _, Nat.zero_le _⟩ (fun H locs hw => ?_)
    have hO12 : z_Ok (z_nx σ) := z_ok_nx hO
    have hb13 : z_nb σ < 256 := z_nb_lt hO
    refine pl_inn (i := z_nb σ) (v := z_x_inn σ (z_nb σ)) K hw (by omega) rfl d_P_jumpExchangeOrSwitch_77 ?_
    have hb14 : z_x_inn σ (z_nb σ) < 256 := z_k_inn hO _
    refine ps_reg (i := 7) (v := z_x_inn σ (z_nb σ)) K hw (by omega) d_P_jumpExchangeOrSwitch_78 (fun H locs hw => ?_)
    have hO15 : z_Ok (z_s_reg (z_nx σ) (z_fs (z_x_reg σ) 7 (z_x_inn σ (z_nb σ)))) := z_ok_reg hO12 (z_fs_lt (z_k_reg hO) (by omega))
    refine nv_bipush (v := 10) K d_P_jumpExchangeOrSwitch_79 (by decide) ?_
    exact pri K hr hlk hw (by rw [h1]; rfl) (by rw [h1]; rfl) d_P_jumpExchangeOrSwitch_81
  · refine nv_as K (congrArg nI h1) ?_
    refine nv_tabIn (a := 4) (tgt := 82) K d_P_jumpExchangeOrSwitch_4 (by decide) (by decide) (by decide) rfl rfl ?_
    refine lv_aload_n K.1 K.2.1 d_P_jumpExchangeOrSwitch_82 rfl (lv_at hl 0 rfl) ?_
    refine pki K (c_exchangeHlWithStack (σ := σ) l D cI a hO) (cw_P_250 K (Nat.le_of_ble_eq_true rfl) (Nat.le_of_ble_eq_true rfl)) hw (va_recv (ci := 0) (q0 := 0) hw.2.2.2.1 hw.1 rfl rfl) rfl hl.1 rfl (Nat.le_of_ble_eq_true rfl) d_P_jumpExchangeOrSwitch_83 ⟨Nat.zero_le _, Nat.zero_le _⟩ (fun H locs hw => ?_)
    have hO16 : z_Ok (z_xs σ) := z_ok_xs hO
    exact pri K hr hlk hw (by rw [h1]; rfl) (by rw [h1]; rfl) d_P_jumpExchangeOrSwitch_86
  · refine nv_as K (congrArg nI h1) ?_
    refine nv_tabIn (a := 5) (tgt := 87) K d_P_jumpExchangeOrSwitch_4 (by decide) (by decide) (by decide) rfl rfl ?_
    refine lv_aload_n K.1 K.2.1 d_P_jumpExchangeOrSwitch_87 rfl (lv_at hl 0 rfl) ?_
    refine pki K (c_exchangeHlWithDe (σ := σ) l D cI a hO) (cw_P_253 K (Nat.le_of_ble_eq_true rfl) (Nat.le_of_ble_eq_true rfl)) hw (va_recv (ci := 0) (q0 := 0) hw.2.2.2.1 hw.1 rfl rfl) rfl hl.1 rfl (Nat.le_of_ble_eq_true rfl) d_P_jumpExchangeOrSwitch_88 ⟨Nat.zero_le _, Nat.zero_le _⟩ (fun H locs hw => ?_)
    have hO17 : z_Ok (z_xd σ) := z_ok_xd hO
    exact pri K hr hlk hw (by rw [h1]; rfl) (by rw [h1]; rfl) d_P_jumpExchangeOrSwitch_91
  · refine nv_as K (congrArg nI h1) ?_
    refine nv_tabIn (a := 6) (tgt := 92) K d_P_jumpExchangeOrSwitch_4 (by decide) (by decide) (by decide) rfl rfl ?_
    refine lv_aload_n K.1 K.2.1 d_P_jumpExchangeOrSwitch_92 rfl (lv_at hl 0 rfl) ?_
    refine nv_iconst (v := 0) K d_P_jumpExchangeOrSwitch_93 (by decide) ?_
    refine pp_interruptsOn (v := 0) K hw (by omega) d_P_jumpExchangeOrSwitch_94 (fun H locs hw => ?_)
    have hO18 : z_Ok (z_s_it σ 0) := z_ok_it hO (by omega)
    refine nv_iconst (v := 4) K d_P_jumpExchangeOrSwitch_97 (by decide) ?_
    exact pri K hr hlk hw (by rw [h1]; rfl) (by rw [h1]; rfl) d_P_jumpExchangeOrSwitch_98
  · refine nv_as K (congrArg nI h1) ?_
    refine nv_tabIn (a := 7) (tgt := 99) K d_P_jumpExchangeOrSwitch_4 (by decide) (by decide) (by decide) rfl rfl ?_
    refine lv_aload_n K.1 K.2.1 d_P_jumpExchangeOrSwitch_99 rfl (lv_at hl 0 rfl) ?_
    refine nv_iconst (v := 1) K d_P_jumpExchangeOrSwitch_100 (by decide) ?_
    refine pp_interruptsOn (v := 1) K hw (by omega) d_P_jumpExchangeOrSwitch_101 (fun H locs hw => ?_)
    have hO19 : z_Ok (z_s_it σ 1) := z_ok_it hO (by omega)
    refine nv_iconst (v := 4) K d_P_jumpExchangeOrSwitch_104 (by decide) ?_
    exact pri K hr hlk hw (by rw [h1]; rfl) (by rw [h1]; rfl) d_P_jumpExchangeOrSwitch_105

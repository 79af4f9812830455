set_option maxHeartbeats 4000000 in
set_option maxRecDepth 100000 in
theorem c_letInterruptIn {σ : z_St} (l : Launch) (D : va_G) (cI : ClassId) (a : pAd) (hO : z_Ok σ) (hwa : z_x_wa σ ≠ 0) : pCv l y_P_letInterruptIn w_P_letInterruptIn 3 64 D cI a [.ref a.1] σ (z_li σ) := by
  refine pcv_of (cc := b_P_letInterruptIn) (maxL := 1) (ret := none) (by decide) rfl (Nat.le_of_ble_eq_true rfl) ?_
  intro p e s m below meth c ls K hr hlk hl hw
  have K : CallFix p m c b_P_letInterruptIn 1 s _ (_ :: T0) "PortProcessor" := K
  have hl : lv_has ls 1 [(0, .ref a.1)] := hl
  refine lv_aload_n K.1 K.2.1 d_P_letInterruptIn_0 rfl (lv_at hl 0 rfl) ?_
  refine nv_iconst (v := 0) K d_P_letInterruptIn_1 (by decide) ?_
  refine pp_interruptsOn (v := 0) K hw (by omega) d_P_letInterruptIn_2 (fun H locs hw => ?_)
  have hO1 : z_Ok (z_s_it σ 0) := z_ok_it hO (by omega)
  refine lv_aload_n K.1 K.2.1 d_P_letInterruptIn_5 rfl (lv_at hl 0 rfl) ?_
  refine nv_iconst (v := 0) K d_P_letInterruptIn_6 (by decide) ?_
  refine pp_halted (v := 0) K hw (by omega) d_P_letInterruptIn_7 (fun H locs hw => ?_)
  have hO2 : z_Ok (z_s_ha (z_s_it σ 0) 0) := z_ok_ha hO1 (by omega)
  refine lv_aload_n K.1 K.2.1 d_P_letInterruptIn_10 rfl (lv_at hl 0 rfl) ?_
  refine nv_bipush (v := 8) K d_P_letInterruptIn_11 (by decide) ?_
  refine lv_aload_n K.1 K.2.1 d_P_letInterruptIn_13 rfl (lv_at hl 0 rfl) ?_
  refine pg_waitingInterrupt (v := z_x_wa σ) K hw rfl d_P_letInterruptIn_14 ?_
  have hb3 : z_x_wa σ < 9 := z_k_wa hO
  refine nv_as K (nz_pred hwa) ?_
  refine nv_imul K d_P_letInterruptIn_17 ?_
  refine pkv K (c_callTo (σ := z_s_ha (z_s_it σ 0) 0) (x := 8 * (z_x_wa σ - 1)) l D cI a hO2 (by omega)) (cw_P_136 K (Nat.le_of_ble_eq_true rfl) (Nat.le_of_ble_eq_true rfl)) hw (va_recv (ci := 0) (q0 := 0) hw.2.2.2.1 hw.1 rfl rfl) rfl hl.1 rfl (Nat.le_of_ble_eq_true rfl) d_P_letInterruptIn_18 ⟨Nat.zero_le _, Nat.zero_le _⟩ (fun H locs hw => ?_)
  have hO4 : z_Ok (z_ct (z_s_ha (z_s_it σ 0) 0) (8 * (z_x_wa σ - 1))) := z_ok_ct hO2 (by omega)
  refine lv_aload_n K.1 K.2.1 d_P_letInterruptIn_21 rfl (lv_at hl 0 rfl) ?_
  refine lv_iconst (v := -1) K.1 K.2.1 d_P_letInterruptIn_22 (by decide) ?_
  refine pp_waitingInterrupt0 K hw d_P_letInterruptIn_23 (fun H locs hw => ?_)
  have hO5 : z_Ok (z_s_wa (z_ct (z_s_ha (z_s_it σ 0) 0) (8 * (z_x_wa σ - 1))) 0) := z_ok_wa hO4 (by omega)
  exact prv K hr hlk hw (by first | rfl | (simp [z_li, z_ct]; done) | (simp only [z_li, z_ct]; rfl)) d_P_letInterruptIn_26

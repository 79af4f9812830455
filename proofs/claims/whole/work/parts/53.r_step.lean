set_option maxHeartbeats 4000000 in
set_option maxRecDepth 100000 in
theorem r_step {σ : z_St} (l : Launch) (D : va_G) (cI : ClassId) (a : qAd) (hO : z_Ok σ) (hinv : z_x_ha σ = 1 → z_x_la σ = 0) : qCi l y_R_step w_R_step 6 144 D cI a [.ref a.1] σ (z_sx σ) (nI (z_sv σ)) := by
  refine qci_of (cc := b_R_step) (maxL := 3) (ret := (some .boolean)) (by decide) rfl (Nat.le_of_ble_eq_true rfl) ?_
  intro p e s m below meth c ls K hr hlk hl hw
  have K : CallFix p m c b_R_step 3 s _ (_ :: T0) "PortProcessorModel" := K
  have hl : lv_has ls 3 [(0, .ref a.1)] := hl
  refine lv_aload_n K.1 K.2.1 d_R_step_0 rfl (lv_at hl 0 rfl) ?_
  refine qg_lets (v := z_x_it σ) K hw rfl d_R_step_1 ?_
  have hb1 : z_x_it σ < 2 := z_k_it hO
  refine nv_if_eq K (by omega) d_R_step_4 rfl (fun h2 => ?_) (fun h2 => ?_)
  · refine nv_iconst (v := 0) K d_R_step_25 (by decide) ?_
    refine lv_istore_n (lv' := [(1, .int (nI 0)), (0, .ref a.1)]) K.1 K.2.1 d_R_step_26 rfl hl (by decide) rfl (fun ls hl => ?_)
    refine lv_aload_n K.1 K.2.1 d_R_step_27 rfl (lv_at hl 1 rfl) ?_
    refine nv_iconst (v := 0) K d_R_step_28 (by decide) ?_
    refine qp_late (v := 0) K hw (by omega) d_R_step_29 (fun H locs hw => ?_)
    have hO3 : z_Ok (z_s_la σ 0) := z_ok_la hO (by omega)
    refine lv_iload_n K.1 K.2.1 d_R_step_32 rfl (lv_at hl 0 rfl) ?_
    refine nv_if_eq K (by omega) d_R_step_33 rfl (fun _ => ?_) (fun h => (by omega : False).elim)
    refine lv_aload_n K.1 K.2.1 d_R_step_84 rfl (lv_at hl 1 rfl) ?_
    refine qg_halted (v := z_x_ha σ) K hw rfl d_R_step_85 ?_
    have hb4 : z_x_ha σ < 2 := z_k_ha hO
    refine nv_if_ne K (by omega) d_R_step_88 rfl (fun h5 => ?_) (fun h5 => ?_)
    · refine nv_iconst (v := 0) K d_R_step_95 (by decide) ?_
      refine lv_istore_n (lv' := [(2, .int (nI 0)), (1, .int (nI 0)), (0, .ref a.1)]) K.1 K.2.1 d_R_step_96 rfl hl (by decide) rfl (fun ls hl => ?_)
      refine lv_aload_n K.1 K.2.1 d_R_step_97 rfl (lv_at hl 2 rfl) ?_
      refine lv_aload_n K.1 K.2.1 d_R_step_98 rfl (lv_at hl 2 rfl) ?_
      refine qg_states (v := z_x_st σ) K hw rfl d_R_step_99 ?_
      refine lv_iload_n K.1 K.2.1 d_R_step_102 rfl (lv_at hl 0 rfl) ?_
      refine nv_if_eq K (by omega) d_R_step_103 rfl (fun _ => ?_) (fun h => (by omega : False).elim)
      refine nv_iconst (v := 4) K d_R_step_117 (by decide) ?_
      refine lv_i2l K.1 K.2.1 d_R_step_118 (nI_l (by omega)) ?_
      refine lv_ladd K.1 K.2.1 d_R_step_119 (lv_asl K (lN_add _ _) ?_)
      refine qp_states (v := (z_x_st σ) + 4) K hw d_R_step_120 (fun H locs hw => ?_)
      have hO6 : z_Ok (z_s_st (z_s_la σ 0) ((z_x_st σ) + 4)) := z_ok_st hO3
      refine lv_iload_n K.1 K.2.1 d_R_step_123 rfl (lv_at hl 0 rfl) ?_
      exact qrz K hr hlk hw (by rw [la0 (by omega)]; exact (sx_h (by omega) (by omega)).symm) (by omega) (congrArg nI (sv_h (by omega) (by omega)).symm) d_R_step_124
    · refine nv_iconst (v := 1) K d_R_step_91 (by decide) ?_
      refine lv_goto K.1 K.2.1 d_R_step_92 rfl ?_
      refine lv_istore_n (lv' := [(2, .int (nI 1)), (1, .int (nI 0)), (0, .ref a.1)]) K.1 K.2.1 d_R_step_96 rfl hl (by decide) rfl (fun ls hl => ?_)
      refine lv_aload_n K.1 K.2.1 d_R_step_97 rfl (lv_at hl 2 rfl) ?_
      refine lv_aload_n K.1 K.2.1 d_R_step_98 rfl (lv_at hl 2 rfl) ?_
      refine qg_states (v := z_x_st σ) K hw rfl d_R_step_99 ?_
      refine lv_iload_n K.1 K.2.1 d_R_step_102 rfl (lv_at hl 0 rfl) ?_
      refine nv_if_eq K (by omega) d_R_step_103 rfl (fun h => (by omega : False).elim) (fun _ => ?_)
      refine lv_aload_n K.1 K.2.1 d_R_step_106 rfl (lv_at hl 2 rfl) ?_
      refine lv_aload_n K.1 K.2.1 d_R_step_107 rfl (lv_at hl 2 rfl) ?_
      refine qki K (r_next (σ := z_s_la σ 0) l D cI a hO3) (cw_R_49 K (Nat.le_of_ble_eq_true rfl) (Nat.le_of_ble_eq_true rfl)) hw (va_recv (ci := 3) (q0 := 0) hw.2.2.2.1 hw.1 rfl rfl) rfl hl.1 rfl (Nat.le_of_ble_eq_true rfl) d_R_step_108 ⟨Nat.zero_le _, Nat.zero_le _⟩ (fun H locs hw => ?_)
      have hO7 : z_Ok (z_nx (z_s_la σ 0)) := z_ok_nx hO3
      refine nv_as K (y := nI (z_nb σ)) rfl ?_
      have hb8 : z_nb σ < 256 := z_nb_lt hO
      refine qki K (r_instruction (σ := z_nx (z_s_la σ 0)) (b := z_nb σ) l D cI a hO7 (by omega) (by rfl)) (cw_R_149 K (Nat.le_of_ble_eq_true rfl) (Nat.le_of_ble_eq_true rfl)) hw (va_recv (ci := 3) (q0 := 0) hw.2.2.2.1 hw.1 rfl rfl) rfl hl.1 rfl (Nat.le_of_ble_eq_true rfl) d_R_step_111 ⟨Nat.zero_le _, Nat.zero_le _⟩ (fun H locs hw => ?_)
      have hO9 : z_Ok (if (z_nb σ) = 251 then z_s_la (z_s_it (z_nx (z_s_la σ 0)) 1) 1 else z_ex (z_nx (z_s_la σ 0)) (z_nb σ)) := z_ok_exr hO7 _
      refine nv_as K (y := nI (z_tm σ (z_nb σ))) rfl ?_
      have hb10 : z_tm σ (z_nb σ) < 19 := z_tm_lt _ _
      refine lv_goto K.1 K.2.1 d_R_step_114 rfl ?_
      refine lv_i2l K.1 K.2.1 d_R_step_118 (nI_l (by omega)) ?_
      refine lv_ladd K.1 K.2.1 d_R_step_119 (lv_asl K (lN_add _ _) ?_)
      refine qp_states (v := (z_x_st σ) + (z_tm σ (z_nb σ))) K hw d_R_step_120 (fun H locs hw => ?_)
      have hO11 : z_Ok (z_s_st (if (z_nb σ) = 251 then z_s_la (z_s_it (z_nx (z_s_la σ 0)) 1) 1 else z_ex (z_nx (z_s_la σ 0)) (z_nb σ)) ((z_x_st σ) + (z_tm σ (z_nb σ)))) := z_ok_st hO9
      refine lv_iload_n K.1 K.2.1 d_R_step_123 rfl (lv_at hl 0 rfl) ?_
      exact qrz K hr hlk hw (by rw [ex_go]; exact (sx_q (by omega) (by omega) rfl (tm_go σ _)).symm) (by omega) (congrArg nI (sv_q (by omega) (by omega)).symm) d_R_step_124
  · refine lv_aload_n K.1 K.2.1 d_R_step_7 rfl (lv_at hl 0 rfl) ?_
    refine qg_late (v := z_x_la σ) K hw rfl d_R_step_8 ?_
    have hb12 : z_x_la σ < 2 := z_k_la hO
    refine nv_if_ne K (by omega) d_R_step_11 rfl (fun h13 => ?_) (fun h13 => ?_)
    · refine nv_iconst (v := 0) K d_R_step_25 (by decide) ?_
      refine lv_istore_n (lv' := [(1, .int (nI 0)), (0, .ref a.1)]) K.1 K.2.1 d_R_step_26 rfl hl (by decide) rfl (fun ls hl => ?_)
      refine lv_aload_n K.1 K.2.1 d_R_step_27 rfl (lv_at hl 1 rfl) ?_
      refine nv_iconst (v := 0) K d_R_step_28 (by decide) ?_
      refine qp_late (v := 0) K hw (by omega) d_R_step_29 (fun H locs hw => ?_)
      have hO14 : z_Ok (z_s_la σ 0) := z_ok_la hO (by omega)
      refine lv_iload_n K.1 K.2.1 d_R_step_32 rfl (lv_at hl 0 rfl) ?_
      refine nv_if_eq K (by omega) d_R_step_33 rfl (fun _ => ?_) (fun h => (by omega : False).elim)
      refine lv_aload_n K.1 K.2.1 d_R_step_84 rfl (lv_at hl 1 rfl) ?_
      refine qg_halted (v := z_x_ha σ) K hw rfl d_R_step_85 ?_
      have hb15 : z_x_ha σ < 2 := z_k_ha hO
      refine nv_if_ne K (by omega) d_R_step_88 rfl (fun h16 => ?_) (fun h16 => ?_)
      · refine nv_iconst (v := 0) K d_R_step_95 (by decide) ?_
        refine lv_istore_n (lv' := [(2, .int (nI 0)), (1, .int (nI 0)), (0, .ref a.1)]) K.1 K.2.1 d_R_step_96 rfl hl (by decide) rfl (fun ls hl => ?_)
        refine lv_aload_n K.1 K.2.1 d_R_step_97 rfl (lv_at hl 2 rfl) ?_
        refine lv_aload_n K.1 K.2.1 d_R_step_98 rfl (lv_at hl 2 rfl) ?_
        refine qg_states (v := z_x_st σ) K hw rfl d_R_step_99 ?_
        refine lv_iload_n K.1 K.2.1 d_R_step_102 rfl (lv_at hl 0 rfl) ?_
        refine nv_if_eq K (by omega) d_R_step_103 rfl (fun _ => ?_) (fun h => (by omega : False).elim)
        refine nv_iconst (v := 4) K d_R_step_117 (by decide) ?_
        refine lv_i2l K.1 K.2.1 d_R_step_118 (nI_l (by omega)) ?_
        refine lv_ladd K.1 K.2.1 d_R_step_119 (lv_asl K (lN_add _ _) ?_)
        refine qp_states (v := (z_x_st σ) + 4) K hw d_R_step_120 (fun H locs hw => ?_)
        have hO17 : z_Ok (z_s_st (z_s_la σ 0) ((z_x_st σ) + 4)) := z_ok_st hO14
        refine lv_iload_n K.1 K.2.1 d_R_step_123 rfl (lv_at hl 0 rfl) ?_
        exact qrz K hr hlk hw (by rw [la0 (by omega)]; exact (sx_h (by omega) (by omega)).symm) (by omega) (congrArg nI (sv_h (by omega) (by omega)).symm) d_R_step_124
      · refine nv_iconst (v := 1) K d_R_step_91 (by decide) ?_
        refine lv_goto K.1 K.2.1 d_R_step_92 rfl ?_
        refine lv_istore_n (lv' := [(2, .int (nI 1)), (1, .int (nI 0)), (0, .ref a.1)]) K.1 K.2.1 d_R_step_96 rfl hl (by decide) rfl (fun ls hl => ?_)
        refine lv_aload_n K.1 K.2.1 d_R_step_97 rfl (lv_at hl 2 rfl) ?_
        refine lv_aload_n K.1 K.2.1 d_R_step_98 rfl (lv_at hl 2 rfl) ?_
        refine qg_states (v := z_x_st σ) K hw rfl d_R_step_99 ?_
        refine lv_iload_n K.1 K.2.1 d_R_step_102 rfl (lv_at hl 0 rfl) ?_
        refine nv_if_eq K (by omega) d_R_step_103 rfl (fun h => (by omega : False).elim) (fun _ => ?_)
        refine lv_aload_n K.1 K.2.1 d_R_step_106 rfl (lv_at hl 2 rfl) ?_
        refine lv_aload_n K.1 K.2.1 d_R_step_107 rfl (lv_at hl 2 rfl) ?_
        refine qki K (r_next (σ := z_s_la σ 0) l D cI a hO14) (cw_R_49 K (Nat.le_of_ble_eq_true rfl) (Nat.le_of_ble_eq_true rfl)) hw (va_recv (ci := 3) (q0 := 0) hw.2.2.2.1 hw.1 rfl rfl) rfl hl.1 rfl (Nat.le_of_ble_eq_true rfl) d_R_step_108 ⟨Nat.zero_le _, Nat.zero_le _⟩ (fun H locs hw => ?_)
        have hO18 : z_Ok (z_nx (z_s_la σ 0)) := z_ok_nx hO14
        refine nv_as K (y := nI (z_nb σ)) rfl ?_
        have hb19 : z_nb σ < 256 := z_nb_lt hO
        refine qki K (r_instruction (σ := z_nx (z_s_la σ 0)) (b := z_nb σ) l D cI a hO18 (by omega) (by rfl)) (cw_R_149 K (Nat.le_of_ble_eq_true rfl) (Nat.le_of_ble_eq_true rfl)) hw (va_recv (ci := 3) (q0 := 0) hw.2.2.2.1 hw.1 rfl rfl) rfl hl.1 rfl (Nat.le_of_ble_eq_true rfl) d_R_step_111 ⟨Nat.zero_le _, Nat.zero_le _⟩ (fun H locs hw => ?_)
        have hO20 : z_Ok (if (z_nb σ) = 251 then z_s_la (z_s_it (z_nx (z_s_la σ 0)) 1) 1 else z_ex (z_nx (z_s_la σ 0)) (z_nb σ)) := z_ok_exr hO18 _
        refine nv_as K (y := nI (z_tm σ (z_nb σ))) rfl ?_
        have hb21 : z_tm σ (z_nb σ) < 19 := z_tm_lt _ _
        refine lv_goto K.1 K.2.1 d_R_step_114 rfl ?_
        refine lv_i2l K.1 K.2.1 d_R_step_118 (nI_l (by omega)) ?_
        refine lv_ladd K.1 K.2.1 d_R_step_119 (lv_asl K (lN_add _ _) ?_)
        refine qp_states (v := (z_x_st σ) + (z_tm σ (z_nb σ))) K hw d_R_step_120 (fun H locs hw => ?_)
        have hO22 : z_Ok (z_s_st (if (z_nb σ) = 251 then z_s_la (z_s_it (z_nx (z_s_la σ 0)) 1) 1 else z_ex (z_nx (z_s_la σ 0)) (z_nb σ)) ((z_x_st σ) + (z_tm σ (z_nb σ)))) := z_ok_st hO20
        refine lv_iload_n K.1 K.2.1 d_R_step_123 rfl (lv_at hl 0 rfl) ?_
        exact qrz K hr hlk hw (by rw [ex_go]; exact (sx_q (by omega) (by omega) rfl (tm_go σ _)).symm) (by omega) (congrArg nI (sv_q (by omega) (by omega)).symm) d_R_step_124
    · refine lv_aload_n K.1 K.2.1 d_R_step_14 rfl (lv_at hl 0 rfl) ?_
      refine qg_waiting (v := z_x_wa σ) K hw rfl d_R_step_15 ?_
      have hb23 : z_x_wa σ < 9 := z_k_wa hO
      refine nv_walt (w := z_x_wa σ) K (by omega) d_R_step_18 rfl (fun h24 => ?_) (fun h24 => ?_)
      · refine nv_iconst (v := 0) K d_R_step_25 (by decide) ?_
        refine lv_istore_n (lv' := [(1, .int (nI 0)), (0, .ref a.1)]) K.1 K.2.1 d_R_step_26 rfl hl (by decide) rfl (fun ls hl => ?_)
        refine lv_aload_n K.1 K.2.1 d_R_step_27 rfl (lv_at hl 1 rfl) ?_
        refine nv_iconst (v := 0) K d_R_step_28 (by decide) ?_
        refine qp_late (v := 0) K hw (by omega) d_R_step_29 (fun H locs hw => ?_)
        have hO25 : z_Ok (z_s_la σ 0) := z_ok_la hO (by omega)
        refine lv_iload_n K.1 K.2.1 d_R_step_32 rfl (lv_at hl 0 rfl) ?_
        refine nv_if_eq K (by omega) d_R_step_33 rfl (fun _ => ?_) (fun h => (by omega : False).elim)
        refine lv_aload_n K.1 K.2.1 d_R_step_84 rfl (lv_at hl 1 rfl) ?_
        refine qg_halted (v := z_x_ha σ) K hw rfl d_R_step_85 ?_
        have hb26 : z_x_ha σ < 2 := z_k_ha hO
        refine nv_if_ne K (by omega) d_R_step_88 rfl (fun h27 => ?_) (fun h27 => ?_)
        · refine nv_iconst (v := 0) K d_R_step_95 (by decide) ?_
          refine lv_istore_n (lv' := [(2, .int (nI 0)), (1, .int (nI 0)), (0, .ref a.1)]) K.1 K.2.1 d_R_step_96 rfl hl (by decide) rfl (fun ls hl => ?_)
          refine lv_aload_n K.1 K.2.1 d_R_step_97 rfl (lv_at hl 2 rfl) ?_
          refine lv_aload_n K.1 K.2.1 d_R_step_98 rfl (lv_at hl 2 rfl) ?_
          refine qg_states (v := z_x_st σ) K hw rfl d_R_step_99 ?_
          refine lv_iload_n K.1 K.2.1 d_R_step_102 rfl (lv_at hl 0 rfl) ?_
          refine nv_if_eq K (by omega) d_R_step_103 rfl (fun _ => ?_) (fun h => (by omega : False).elim)
          refine nv_iconst (v := 4) K d_R_step_117 (by decide) ?_
          refine lv_i2l K.1 K.2.1 d_R_step_118 (nI_l (by omega)) ?_
          refine lv_ladd K.1 K.2.1 d_R_step_119 (lv_asl K (lN_add _ _) ?_)
          refine qp_states (v := (z_x_st σ) + 4) K hw d_R_step_120 (fun H locs hw => ?_)
          have hO28 : z_Ok (z_s_st (z_s_la σ 0) ((z_x_st σ) + 4)) := z_ok_st hO25
          refine lv_iload_n K.1 K.2.1 d_R_step_123 rfl (lv_at hl 0 rfl) ?_
          exact qrz K hr hlk hw (by rw [la0 (by omega)]; exact (sx_h (by omega) (by omega)).symm) (by omega) (congrArg nI (sv_h (by omega) (by omega)).symm) d_R_step_124
        · refine nv_iconst (v := 1) K d_R_step_91 (by decide) ?_
          refine lv_goto K.1 K.2.1 d_R_step_92 rfl ?_
          refine lv_istore_n (lv' := [(2, .int (nI 1)), (1, .int (nI 0)), (0, .ref a.1)]) K.1 K.2.1 d_R_step_96 rfl hl (by decide) rfl (fun ls hl => ?_)
          refine lv_aload_n K.1 K.2.1 d_R_step_97 rfl (lv_at hl 2 rfl) ?_
          refine lv_aload_n K.1 K.2.1 d_R_step_98 rfl (lv_at hl 2 rfl) ?_
          refine qg_states (v := z_x_st σ) K hw rfl d_R_step_99 ?_
          refine lv_iload_n K.1 K.2.1 d_R_step_102 rfl (lv_at hl 0 rfl) ?_
          refine nv_if_eq K (by omega) d_R_step_103 rfl (fun h => (by omega : False).elim) (fun _ => ?_)
          refine lv_aload_n K.1 K.2.1 d_R_step_106 rfl (lv_at hl 2 rfl) ?_
          refine lv_aload_n K.1 K.2.1 d_R_step_107 rfl (lv_at hl 2 rfl) ?_
          refine qki K (r_next (σ := z_s_la σ 0) l D cI a hO25) (cw_R_49 K (Nat.le_of_ble_eq_true rfl) (Nat.le_of_ble_eq_true rfl)) hw (va_recv (ci := 3) (q0 := 0) hw.2.2.2.1 hw.1 rfl rfl) rfl hl.1 rfl (Nat.le_of_ble_eq_true rfl) d_R_step_108 ⟨Nat.zero_le _, Nat.zero_le _⟩ (fun H locs hw => ?_)
          have hO29 : z_Ok (z_nx (z_s_la σ 0)) := z_ok_nx hO25
          refine nv_as K (y := nI (z_nb σ)) rfl ?_
          have hb30 : z_nb σ < 256 := z_nb_lt hO
          refine qki K (r_instruction (σ := z_nx (z_s_la σ 0)) (b := z_nb σ) l D cI a hO29 (by omega) (by rfl)) (cw_R_149 K (Nat.le_of_ble_eq_true rfl) (Nat.le_of_ble_eq_true rfl)) hw (va_recv (ci := 3) (q0 := 0) hw.2.2.2.1 hw.1 rfl rfl) rfl hl.1 rfl (Nat.le_of_ble_eq_true rfl) d_R_step_111 ⟨Nat.zero_le _, Nat.zero_le _⟩ (fun H locs hw => ?_)
          have hO31 : z_Ok (if (z_nb σ) = 251 then z_s_la (z_s_it (z_nx (z_s_la σ 0)) 1) 1 else z_ex (z_nx (z_s_la σ 0)) (z_nb σ)) := z_ok_exr hO29 _
          refine nv_as K (y := nI (z_tm σ (z_nb σ))) rfl ?_
          have hb32 : z_tm σ (z_nb σ) < 19 := z_tm_lt _ _
          refine lv_goto K.1 K.2.1 d_R_step_114 rfl ?_
          refine lv_i2l K.1 K.2.1 d_R_step_118 (nI_l (by omega)) ?_
          refine lv_ladd K.1 K.2.1 d_R_step_119 (lv_asl K (lN_add _ _) ?_)
          refine qp_states (v := (z_x_st σ) + (z_tm σ (z_nb σ))) K hw d_R_step_120 (fun H locs hw => ?_)
          have hO33 : z_Ok (z_s_st (if (z_nb σ) = 251 then z_s_la (z_s_it (z_nx (z_s_la σ 0)) 1) 1 else z_ex (z_nx (z_s_la σ 0)) (z_nb σ)) ((z_x_st σ) + (z_tm σ (z_nb σ)))) := z_ok_st hO31
          refine lv_iload_n K.1 K.2.1 d_R_step_123 rfl (lv_at hl 0 rfl) ?_
          exact qrz K hr hlk hw (by rw [ex_go]; exact (sx_q (by omega) (by omega) rfl (tm_go σ _)).symm) (by omega) (congrArg nI (sv_q (by omega) (by omega)).symm) d_R_step_124
      · refine nv_iconst (v := 1) K d_R_step_21 (by decide) ?_
        refine lv_goto K.1 K.2.1 d_R_step_22 rfl ?_
        refine lv_istore_n (lv' := [(1, .int (nI 1)), (0, .ref a.1)]) K.1 K.2.1 d_R_step_26 rfl hl (by decide) rfl (fun ls hl => ?_)
        refine lv_aload_n K.1 K.2.1 d_R_step_27 rfl (lv_at hl 1 rfl) ?_
        refine nv_iconst (v := 0) K d_R_step_28 (by decide) ?_
        refine qp_late (v := 0) K hw (by omega) d_R_step_29 (fun H locs hw => ?_)
        have hO34 : z_Ok (z_s_la σ 0) := z_ok_la hO (by omega)
        refine lv_iload_n K.1 K.2.1 d_R_step_32 rfl (lv_at hl 0 rfl) ?_
        refine nv_if_eq K (by omega) d_R_step_33 rfl (fun h => (by omega : False).elim) (fun _ => ?_)
        refine lv_aload_n K.1 K.2.1 d_R_step_36 rfl (lv_at hl 1 rfl) ?_
        refine lv_aload_n K.1 K.2.1 d_R_step_37 rfl (lv_at hl 1 rfl) ?_
        refine qg_pc (v := z_x_pc σ) K hw rfl d_R_step_38 ?_
        have hb35 : z_x_pc σ < 65536 := z_k_pc hO
        refine qkv K (r_push (σ := z_s_la σ 0) (v := z_x_pc σ) l D cI a hO34 (by omega)) (cw_R_122 K (Nat.le_of_ble_eq_true rfl) (Nat.le_of_ble_eq_true rfl)) hw (va_recv (ci := 3) (q0 := 0) hw.2.2.2.1 hw.1 rfl rfl) rfl hl.1 rfl (Nat.le_of_ble_eq_true rfl) d_R_step_41 ⟨Nat.zero_le _, Nat.zero_le _⟩ (fun H locs hw => ?_)
        have hO36 : z_Ok (z_pu (z_s_la σ 0) (z_x_pc σ)) := z_ok_pu hO34 (by omega)
        refine lv_aload_n K.1 K.2.1 d_R_step_44 rfl (lv_at hl 1 rfl) ?_
        refine nv_bipush (v := 8) K d_R_step_45 (by decide) ?_
        refine lv_aload_n K.1 K.2.1 d_R_step_47 rfl (lv_at hl 1 rfl) ?_
        refine qg_waiting (v := z_x_wa σ) K hw (by rw [wa_pu, wa_la]) d_R_step_48 ?_
        refine nv_as K (nz_pred (by omega)) ?_
        refine nv_imul K d_R_step_51 ?_
        refine qp_pc (v := 8 * (z_x_wa σ - 1)) K hw d_R_step_52 (fun H locs hw => ?_)
        have hO37 : z_Ok (z_s_pc (z_pu (z_s_la σ 0) (z_x_pc σ)) (8 * (z_x_wa σ - 1))) := z_ok_pc hO36 (by omega)
        refine lv_aload_n K.1 K.2.1 d_R_step_55 rfl (lv_at hl 1 rfl) ?_
        refine lv_iconst (v := -1) K.1 K.2.1 d_R_step_56 (by decide) ?_
        refine qp_waiting0 K hw d_R_step_57 (fun H locs hw => ?_)
        have hO38 : z_Ok (z_s_wa (z_s_pc (z_pu (z_s_la σ 0) (z_x_pc σ)) (8 * (z_x_wa σ - 1))) 0) := z_ok_wa hO37 (by omega)
        refine lv_aload_n K.1 K.2.1 d_R_step_60 rfl (lv_at hl 1 rfl) ?_
        refine nv_iconst (v := 0) K d_R_step_61 (by decide) ?_
        refine qp_lets (v := 0) K hw (by omega) d_R_step_62 (fun H locs hw => ?_)
        have hO39 : z_Ok (z_s_it (z_s_wa (z_s_pc (z_pu (z_s_la σ 0) (z_x_pc σ)) (8 * (z_x_wa σ - 1))) 0) 0) := z_ok_it hO38 (by omega)
        refine lv_aload_n K.1 K.2.1 d_R_step_65 rfl (lv_at hl 1 rfl) ?_
        refine nv_iconst (v := 0) K d_R_step_66 (by decide) ?_
        refine qp_halted (v := 0) K hw (by omega) d_R_step_67 (fun H locs hw => ?_)
        have hO40 : z_Ok (z_s_ha (z_s_it (z_s_wa (z_s_pc (z_pu (z_s_la σ 0) (z_x_pc σ)) (8 * (z_x_wa σ - 1))) 0) 0) 0) := z_ok_ha hO39 (by omega)
        refine lv_aload_n K.1 K.2.1 d_R_step_70 rfl (lv_at hl 1 rfl) ?_
        refine lv_aload_n K.1 K.2.1 d_R_step_71 rfl (lv_at hl 1 rfl) ?_
        refine qg_states (v := z_x_st σ) K hw (by rw [st_ha, st_it, st_wa, st_pc, st_pu, st_la]) d_R_step_72 ?_
        refine lv_ldc2 (v := lN 11) K.1 K.2.1 K.2.2.2.1 (K.2.2.2.2 _ (List.mem_cons_of_mem _ m_constantLong_PortProcessorModel_147_11)) d_R_step_75 ?_
        refine lv_ladd K.1 K.2.1 d_R_step_78 (lv_asl K (lN_add _ _) ?_)
        refine qp_states (v := (z_x_st σ) + 11) K hw d_R_step_79 (fun H locs hw => ?_)
        have hO41 : z_Ok (z_s_st (z_s_ha (z_s_it (z_s_wa (z_s_pc (z_pu (z_s_la σ 0) (z_x_pc σ)) (8 * (z_x_wa σ - 1))) 0) 0) 0) ((z_x_st σ) + 11)) := z_ok_st hO40
        refine nv_iconst (v := 1) K d_R_step_82 (by decide) ?_
        exact qrz K hr hlk hw (by rw [la0 (by omega), li_r]; exact (sx_i (by omega) (by omega) (by omega)).symm) (by omega) (congrArg nI (sv_i (by omega) (by omega) (by omega)).symm) d_R_step_83

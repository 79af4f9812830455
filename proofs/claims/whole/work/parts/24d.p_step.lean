set_option maxHeartbeats 4000000 in
set_option maxRecDepth 100000 in
theorem c_step {σ : z_St} (l : Launch) (D : va_G) (cI : ClassId) (a : pAd) (hO : z_Ok σ) : pCi l y_P_step w_P_step 5 114 D cI a [.ref a.1] σ (z_sx σ) (nI (z_sv σ)) := by
  refine pci_of (cc := b_P_step) (maxL := 2) (ret := (some .boolean)) (by decide) rfl (Nat.le_of_ble_eq_true rfl) ?_
  intro p e s m below meth c ls K hr hlk hl hw
  have K : CallFix p m c b_P_step 2 s _ (_ :: T0) "PortProcessor" := K
  have hl : lv_has ls 2 [(0, .ref a.1)] := hl
  refine lv_aload_n K.1 K.2.1 d_P_step_0 rfl (lv_at hl 0 rfl) ?_
  refine pg_waitingInterrupt (v := z_x_wa σ) K hw rfl d_P_step_1 ?_
  have hb1 : z_x_wa σ < 9 := z_k_wa hO
  refine lv_iconst (v := -1) K.1 K.2.1 d_P_step_4 (by decide) ?_
  refine nv_wa (w := z_x_wa σ) K (by omega) d_P_step_5 rfl (fun h2 => ?_) (fun h2 => ?_)
  · refine lv_aload_n K.1 K.2.1 d_P_step_40 rfl (lv_at hl 0 rfl) ?_
    refine pg_halted (v := z_x_ha σ) K hw rfl d_P_step_41 ?_
    have hb3 : z_x_ha σ < 2 := z_k_ha hO
    refine nv_if_eq K (by omega) d_P_step_44 rfl (fun h4 => ?_) (fun h4 => ?_)
    · refine lv_aload_n K.1 K.2.1 d_P_step_61 rfl (lv_at hl 0 rfl) ?_
      refine pki K (c_nextByte (σ := σ) l D cI a hO) (cw_P_121 K (Nat.le_of_ble_eq_true rfl) (Nat.le_of_ble_eq_true rfl)) hw (va_recv (ci := 0) (q0 := 0) hw.2.2.2.1 hw.1 rfl rfl) rfl hl.1 rfl (Nat.le_of_ble_eq_true rfl) d_P_step_62 ⟨Nat.zero_le _, Nat.zero_le _⟩ (fun H locs hw => ?_)
      have hO5 : z_Ok (z_nx σ) := z_ok_nx hO
      have hb6 : z_nb σ < 256 := z_nb_lt hO
      refine lv_istore_n (lv' := [(1, .int (nI (z_nb σ))), (0, .ref a.1)]) K.1 K.2.1 d_P_step_65 rfl hl (by decide) rfl (fun ls hl => ?_)
      refine lv_aload_n K.1 K.2.1 d_P_step_66 rfl (lv_at hl 1 rfl) ?_
      refine lv_iload_n K.1 K.2.1 d_P_step_67 rfl (lv_at hl 0 rfl) ?_
      refine nv_sipush (v := 251) K d_P_step_68 (by decide) ?_
      refine nf_icmp_ne (u := 0) (v := 1) (Y := 79) K (by omega) (by omega) d_P_step_71 rfl (fun _ k => nv_iconst (v := 0) K d_P_step_78 (by decide) k) (fun _ k => nv_iconst (v := 1) K d_P_step_74 (by decide) (lv_goto K.1 K.2.1 d_P_step_75 rfl k)) ?_
      have hb7 : (if (z_nb σ) = 251 then 1 else 0) < 2 := z_ite_ltB _ (by omega) (by omega)
      refine pp_lastLetInterruptsIn (v := (if (z_nb σ) = 251 then 1 else 0)) K hw (by omega) d_P_step_79 (fun H locs hw => ?_)
      have hO8 : z_Ok (z_s_la (z_nx σ) (if (z_nb σ) = 251 then 1 else 0)) := z_ok_la hO5 (by omega)
      refine lv_iload_n K.1 K.2.1 d_P_step_82 rfl (lv_at hl 0 rfl) ?_
      refine nv_bipush (v := 6) K d_P_step_83 (by decide) ?_
      refine nv_ishr (M := 64) K (by omega) rfl (by omega) d_P_step_85 ?_
      rcases (by omega : ((z_nb σ) / 64) = 0 ∨ ((z_nb σ) / 64) = 1 ∨ ((z_nb σ) / 64) = 2 ∨ ((z_nb σ) / 64) = 3) with h9 | h9 | h9 | h9
      · refine nv_as K (congrArg nI h9) ?_
        refine nv_tabIn (a := 0) (tgt := 112) K d_P_step_86 (by decide) (by decide) (by decide) rfl rfl ?_
        refine lv_aload_n K.1 K.2.1 d_P_step_112 rfl (lv_at hl 1 rfl) ?_
        refine lv_dup K.1 K.2.1 d_P_step_113 rfl ?_
        refine pg_stateCount (v := z_x_st σ) K hw rfl d_P_step_114 ?_
        refine lv_aload_n K.1 K.2.1 d_P_step_117 rfl (lv_at hl 1 rfl) ?_
        refine lv_iload_n K.1 K.2.1 d_P_step_118 rfl (lv_at hl 0 rfl) ?_
        refine pki K (c_doFirstQuarter (σ := z_s_la (z_nx σ) (if (z_nb σ) = 251 then 1 else 0)) (b := z_nb σ) l D cI a hO8 (by omega)) (cw_P_124 K (Nat.le_of_ble_eq_true rfl) (Nat.le_of_ble_eq_true rfl)) hw (va_recv (ci := 0) (q0 := 0) hw.2.2.2.1 hw.1 rfl rfl) rfl hl.1 rfl (Nat.le_of_ble_eq_true rfl) d_P_step_119 ⟨Nat.zero_le _, Nat.zero_le _⟩ (fun H locs hw => ?_)
        have hO10 : z_Ok (z_ea (z_s_la (z_nx σ) (if (z_nb σ) = 251 then 1 else 0)) (z_nb σ)) := z_ok_ea hO8 _
        have hb11 : z_ta (z_nb σ) < 17 := z_ta_lt _
        refine lv_i2l K.1 K.2.1 d_P_step_122 (nI_l (by omega)) ?_
        refine lv_ladd K.1 K.2.1 d_P_step_123 (lv_asl K (lN_add _ _) ?_)
        refine pp_stateCount (v := (z_x_st σ) + (z_ta (z_nb σ))) K hw d_P_step_124 (fun H locs hw => ?_)
        have hO12 : z_Ok (z_s_st (z_ea (z_s_la (z_nx σ) (if (z_nb σ) = 251 then 1 else 0)) (z_nb σ)) ((z_x_st σ) + (z_ta (z_nb σ)))) := z_ok_st hO10
        refine lv_goto K.1 K.2.1 d_P_step_127 rfl ?_
        refine nv_iconst (v := 1) K d_P_step_181 (by decide) ?_
        exact prz K hr hlk hw ((sx_q (by omega) (by omega) (by unfold z_ex; exact if_pos (by omega)) (by unfold z_tm; exact if_pos (by omega))).symm) (by omega) (congrArg nI (sv_q (by omega) (by omega)).symm) d_P_step_182
      · refine nv_as K (congrArg nI h9) ?_
        refine nv_tabIn (a := 1) (tgt := 130) K d_P_step_86 (by decide) (by decide) (by decide) rfl rfl ?_
        refine lv_aload_n K.1 K.2.1 d_P_step_130 rfl (lv_at hl 1 rfl) ?_
        refine lv_dup K.1 K.2.1 d_P_step_131 rfl ?_
        refine pg_stateCount (v := z_x_st σ) K hw rfl d_P_step_132 ?_
        refine lv_aload_n K.1 K.2.1 d_P_step_135 rfl (lv_at hl 1 rfl) ?_
        refine lv_iload_n K.1 K.2.1 d_P_step_136 rfl (lv_at hl 0 rfl) ?_
        refine pki K (c_move (σ := z_s_la (z_nx σ) (if (z_nb σ) = 251 then 1 else 0)) (b := z_nb σ) l D cI a hO8 (by omega)) (cw_P_127 K (Nat.le_of_ble_eq_true rfl) (Nat.le_of_ble_eq_true rfl)) hw (va_recv (ci := 0) (q0 := 0) hw.2.2.2.1 hw.1 rfl rfl) rfl hl.1 rfl (Nat.le_of_ble_eq_true rfl) d_P_step_137 ⟨Nat.zero_le _, Nat.zero_le _⟩ (fun H locs hw => ?_)
        have hO13 : z_Ok (z_eb (z_s_la (z_nx σ) (if (z_nb σ) = 251 then 1 else 0)) (z_nb σ)) := z_ok_eb hO8 _
        have hb14 : z_tb (z_nb σ) < 8 := z_tb_lt _
        refine lv_i2l K.1 K.2.1 d_P_step_140 (nI_l (by omega)) ?_
        refine lv_ladd K.1 K.2.1 d_P_step_141 (lv_asl K (lN_add _ _) ?_)
        refine pp_stateCount (v := (z_x_st σ) + (z_tb (z_nb σ))) K hw d_P_step_142 (fun H locs hw => ?_)
        have hO15 : z_Ok (z_s_st (z_eb (z_s_la (z_nx σ) (if (z_nb σ) = 251 then 1 else 0)) (z_nb σ)) ((z_x_st σ) + (z_tb (z_nb σ)))) := z_ok_st hO13
        refine lv_goto K.1 K.2.1 d_P_step_145 rfl ?_
        refine nv_iconst (v := 1) K d_P_step_181 (by decide) ?_
        exact prz K hr hlk hw ((sx_q (by omega) (by omega) (by unfold z_ex; exact (if_neg (by omega)).trans (if_pos (by omega))) (by unfold z_tm; exact (if_neg (by omega)).trans (if_pos (by omega)))).symm) (by omega) (congrArg nI (sv_q (by omega) (by omega)).symm) d_P_step_182
      · refine nv_as K (congrArg nI h9) ?_
        refine nv_tabIn (a := 2) (tgt := 148) K d_P_step_86 (by decide) (by decide) (by decide) rfl rfl ?_
        refine lv_aload_n K.1 K.2.1 d_P_step_148 rfl (lv_at hl 1 rfl) ?_
        refine lv_dup K.1 K.2.1 d_P_step_149 rfl ?_
        refine pg_stateCount (v := z_x_st σ) K hw rfl d_P_step_150 ?_
        refine lv_aload_n K.1 K.2.1 d_P_step_153 rfl (lv_at hl 1 rfl) ?_
        refine lv_iload_n K.1 K.2.1 d_P_step_154 rfl (lv_at hl 0 rfl) ?_
        refine pki K (c_combineWithRegister (σ := z_s_la (z_nx σ) (if (z_nb σ) = 251 then 1 else 0)) (b := z_nb σ) l D cI a hO8 (by omega)) (cw_P_130 K (Nat.le_of_ble_eq_true rfl) (Nat.le_of_ble_eq_true rfl)) hw (va_recv (ci := 0) (q0 := 0) hw.2.2.2.1 hw.1 rfl rfl) rfl hl.1 rfl (Nat.le_of_ble_eq_true rfl) d_P_step_155 ⟨Nat.zero_le _, Nat.zero_le _⟩ (fun H locs hw => ?_)
        have hO16 : z_Ok (z_ec (z_s_la (z_nx σ) (if (z_nb σ) = 251 then 1 else 0)) (z_nb σ)) := z_ok_ec hO8 _
        have hb17 : z_tc (z_nb σ) < 8 := z_tc_lt _
        refine lv_i2l K.1 K.2.1 d_P_step_158 (nI_l (by omega)) ?_
        refine lv_ladd K.1 K.2.1 d_P_step_159 (lv_asl K (lN_add _ _) ?_)
        refine pp_stateCount (v := (z_x_st σ) + (z_tc (z_nb σ))) K hw d_P_step_160 (fun H locs hw => ?_)
        have hO18 : z_Ok (z_s_st (z_ec (z_s_la (z_nx σ) (if (z_nb σ) = 251 then 1 else 0)) (z_nb σ)) ((z_x_st σ) + (z_tc (z_nb σ)))) := z_ok_st hO16
        refine lv_goto K.1 K.2.1 d_P_step_163 rfl ?_
        refine nv_iconst (v := 1) K d_P_step_181 (by decide) ?_
        exact prz K hr hlk hw ((sx_q (by omega) (by omega) (by unfold z_ex; exact (if_neg (by omega)).trans ((if_neg (by omega)).trans (if_pos (by omega)))) (by unfold z_tm; exact (if_neg (by omega)).trans ((if_neg (by omega)).trans (if_pos (by omega))))).symm) (by omega) (congrArg nI (sv_q (by omega) (by omega)).symm) d_P_step_182
      · refine nv_as K (congrArg nI h9) ?_
        refine nv_tabOut (a := 3) (tgt := 166) K d_P_step_86 (by decide) (by decide) rfl ?_
        refine lv_aload_n K.1 K.2.1 d_P_step_166 rfl (lv_at hl 1 rfl) ?_
        refine lv_dup K.1 K.2.1 d_P_step_167 rfl ?_
        refine pg_stateCount (v := z_x_st σ) K hw rfl d_P_step_168 ?_
        refine lv_aload_n K.1 K.2.1 d_P_step_171 rfl (lv_at hl 1 rfl) ?_
        refine lv_iload_n K.1 K.2.1 d_P_step_172 rfl (lv_at hl 0 rfl) ?_
        refine pki K (c_doLastQuarter (σ := z_s_la (z_nx σ) (if (z_nb σ) = 251 then 1 else 0)) (b := z_nb σ) l D cI a hO8 (by omega)) (cw_P_133 K (Nat.le_of_ble_eq_true rfl) (Nat.le_of_ble_eq_true rfl)) hw (va_recv (ci := 0) (q0 := 0) hw.2.2.2.1 hw.1 rfl rfl) rfl hl.1 rfl (Nat.le_of_ble_eq_true rfl) d_P_step_173 ⟨Nat.zero_le _, Nat.zero_le _⟩ (fun H locs hw => ?_)
        have hO19 : z_Ok (z_ed (z_s_la (z_nx σ) (if (z_nb σ) = 251 then 1 else 0)) (z_nb σ)) := z_ok_ed hO8 _
        refine nv_as K (y := nI (z_td σ (z_nb σ))) rfl ?_
        have hb20 : z_td σ (z_nb σ) < 19 := z_td_lt _ _
        refine lv_i2l K.1 K.2.1 d_P_step_176 (nI_l (by omega)) ?_
        refine lv_ladd K.1 K.2.1 d_P_step_177 (lv_asl K (lN_add _ _) ?_)
        refine pp_stateCount (v := (z_x_st σ) + (z_td σ (z_nb σ))) K hw d_P_step_178 (fun H locs hw => ?_)
        have hO21 : z_Ok (z_s_st (z_ed (z_s_la (z_nx σ) (if (z_nb σ) = 251 then 1 else 0)) (z_nb σ)) ((z_x_st σ) + (z_td σ (z_nb σ)))) := z_ok_st hO19
        refine nv_iconst (v := 1) K d_P_step_181 (by decide) ?_
        exact prz K hr hlk hw ((sx_q (by omega) (by omega) (by unfold z_ex; exact (if_neg (by omega)).trans ((if_neg (by omega)).trans (if_neg (by omega)))) (by unfold z_tm; exact (if_neg (by omega)).trans ((if_neg (by omega)).trans (if_neg (by omega))))).symm) (by omega) (congrArg nI (sv_q (by omega) (by omega)).symm) d_P_step_182
    · refine lv_aload_n K.1 K.2.1 d_P_step_47 rfl (lv_at hl 0 rfl) ?_
      refine lv_dup K.1 K.2.1 d_P_step_48 rfl ?_
      refine pg_stateCount (v := z_x_st σ) K hw rfl d_P_step_49 ?_
      refine lv_ldc2 (v := lN 4) K.1 K.2.1 K.2.2.2.1 (K.2.2.2.2 _ (List.mem_cons_of_mem _ m_constantLong_PortProcessor_119_4)) d_P_step_52 ?_
      refine lv_ladd K.1 K.2.1 d_P_step_55 (lv_asl K (lN_add _ _) ?_)
      refine pp_stateCount (v := (z_x_st σ) + 4) K hw d_P_step_56 (fun H locs hw => ?_)
      have hO22 : z_Ok (z_s_st σ ((z_x_st σ) + 4)) := z_ok_st hO
      refine nv_iconst (v := 0) K d_P_step_59 (by decide) ?_
      exact prz K hr hlk hw ((sx_h (by omega) (by omega)).symm) (by omega) (congrArg nI (sv_h (by omega) (by omega)).symm) d_P_step_60
  · refine lv_aload_n K.1 K.2.1 d_P_step_8 rfl (lv_at hl 0 rfl) ?_
    refine pg_interruptsOn (v := z_x_it σ) K hw rfl d_P_step_9 ?_
    have hb23 : z_x_it σ < 2 := z_k_it hO
    refine nv_if_eq K (by omega) d_P_step_12 rfl (fun h24 => ?_) (fun h24 => ?_)
    · refine lv_aload_n K.1 K.2.1 d_P_step_40 rfl (lv_at hl 0 rfl) ?_
      refine pg_halted (v := z_x_ha σ) K hw rfl d_P_step_41 ?_
      have hb25 : z_x_ha σ < 2 := z_k_ha hO
      refine nv_if_eq K (by omega) d_P_step_44 rfl (fun h26 => ?_) (fun h26 => ?_)
      · refine lv_aload_n K.1 K.2.1 d_P_step_61 rfl (lv_at hl 0 rfl) ?_
        refine pki K (c_nextByte (σ := σ) l D cI a hO) (cw_P_121 K (Nat.le_of_ble_eq_true rfl) (Nat.le_of_ble_eq_true rfl)) hw (va_recv (ci := 0) (q0 := 0) hw.2.2.2.1 hw.1 rfl rfl) rfl hl.1 rfl (Nat.le_of_ble_eq_true rfl) d_P_step_62 ⟨Nat.zero_le _, Nat.zero_le _⟩ (fun H locs hw => ?_)
        have hO27 : z_Ok (z_nx σ) := z_ok_nx hO
        have hb28 : z_nb σ < 256 := z_nb_lt hO
        refine lv_istore_n (lv' := [(1, .int (nI (z_nb σ))), (0, .ref a.1)]) K.1 K.2.1 d_P_step_65 rfl hl (by decide) rfl (fun ls hl => ?_)
        refine lv_aload_n K.1 K.2.1 d_P_step_66 rfl (lv_at hl 1 rfl) ?_
        refine lv_iload_n K.1 K.2.1 d_P_step_67 rfl (lv_at hl 0 rfl) ?_
        refine nv_sipush (v := 251) K d_P_step_68 (by decide) ?_
        refine nf_icmp_ne (u := 0) (v := 1) (Y := 79) K (by omega) (by omega) d_P_step_71 rfl (fun _ k => nv_iconst (v := 0) K d_P_step_78 (by decide) k) (fun _ k => nv_iconst (v := 1) K d_P_step_74 (by decide) (lv_goto K.1 K.2.1 d_P_step_75 rfl k)) ?_
        have hb29 : (if (z_nb σ) = 251 then 1 else 0) < 2 := z_ite_ltB _ (by omega) (by omega)
        refine pp_lastLetInterruptsIn (v := (if (z_nb σ) = 251 then 1 else 0)) K hw (by omega) d_P_step_79 (fun H locs hw => ?_)
        have hO30 : z_Ok (z_s_la (z_nx σ) (if (z_nb σ) = 251 then 1 else 0)) := z_ok_la hO27 (by omega)
        refine lv_iload_n K.1 K.2.1 d_P_step_82 rfl (lv_at hl 0 rfl) ?_
        refine nv_bipush (v := 6) K d_P_step_83 (by decide) ?_
        refine nv_ishr (M := 64) K (by omega) rfl (by omega) d_P_step_85 ?_
        rcases (by omega : ((z_nb σ) / 64) = 0 ∨ ((z_nb σ) / 64) = 1 ∨ ((z_nb σ) / 64) = 2 ∨ ((z_nb σ) / 64) = 3) with h31 | h31 | h31 | h31
        · refine nv_as K (congrArg nI h31) ?_
          refine nv_tabIn (a := 0) (tgt := 112) K d_P_step_86 (by decide) (by decide) (by decide) rfl rfl ?_
          refine lv_aload_n K.1 K.2.1 d_P_step_112 rfl (lv_at hl 1 rfl) ?_
          refine lv_dup K.1 K.2.1 d_P_step_113 rfl ?_
          refine pg_stateCount (v := z_x_st σ) K hw rfl d_P_step_114 ?_
          refine lv_aload_n K.1 K.2.1 d_P_step_117 rfl (lv_at hl 1 rfl) ?_
          refine lv_iload_n K.1 K.2.1 d_P_step_118 rfl (lv_at hl 0 rfl) ?_
          refine pki K (c_doFirstQuarter (σ := z_s_la (z_nx σ) (if (z_nb σ) = 251 then 1 else 0)) (b := z_nb σ) l D cI a hO30 (by omega)) (cw_P_124 K (Nat.le_of_ble_eq_true rfl) (Nat.le_of_ble_eq_true rfl)) hw (va_recv (ci := 0) (q0 := 0) hw.2.2.2.1 hw.1 rfl rfl) rfl hl.1 rfl (Nat.le_of_ble_eq_true rfl) d_P_step_119 ⟨Nat.zero_le _, Nat.zero_le _⟩ (fun H locs hw => ?_)
          have hO32 : z_Ok (z_ea (z_s_la (z_nx σ) (if (z_nb σ) = 251 then 1 else 0)) (z_nb σ)) := z_ok_ea hO30 _
          have hb33 : z_ta (z_nb σ) < 17 := z_ta_lt _
          refine lv_i2l K.1 K.2.1 d_P_step_122 (nI_l (by omega)) ?_
          refine lv_ladd K.1 K.2.1 d_P_step_123 (lv_asl K (lN_add _ _) ?_)
          refine pp_stateCount (v := (z_x_st σ) + (z_ta (z_nb σ))) K hw d_P_step_124 (fun H locs hw => ?_)
          have hO34 : z_Ok (z_s_st (z_ea (z_s_la (z_nx σ) (if (z_nb σ) = 251 then 1 else 0)) (z_nb σ)) ((z_x_st σ) + (z_ta (z_nb σ)))) := z_ok_st hO32
          refine lv_goto K.1 K.2.1 d_P_step_127 rfl ?_
          refine nv_iconst (v := 1) K d_P_step_181 (by decide) ?_
          exact prz K hr hlk hw ((sx_q (by omega) (by omega) (by unfold z_ex; exact if_pos (by omega)) (by unfold z_tm; exact if_pos (by omega))).symm) (by omega) (congrArg nI (sv_q (by omega) (by omega)).symm) d_P_step_182
        · refine nv_as K (congrArg nI h31) ?_
          refine nv_tabIn (a := 1) (tgt := 130) K d_P_step_86 (by decide) (by decide) (by decide) rfl rfl ?_
          refine lv_aload_n K.1 K.2.1 d_P_step_130 rfl (lv_at hl 1 rfl) ?_
          refine lv_dup K.1 K.2.1 d_P_step_131 rfl ?_
          refine pg_stateCount (v := z_x_st σ) K hw rfl d_P_step_132 ?_
          refine lv_aload_n K.1 K.2.1 d_P_step_135 rfl (lv_at hl 1 rfl) ?_
          refine lv_iload_n K.1 K.2.1 d_P_step_136 rfl (lv_at hl 0 rfl) ?_
          refine pki K (c_move (σ := z_s_la (z_nx σ) (if (z_nb σ) = 251 then 1 else 0)) (b := z_nb σ) l D cI a hO30 (by omega)) (cw_P_127 K (Nat.le_of_ble_eq_true rfl) (Nat.le_of_ble_eq_true rfl)) hw (va_recv (ci := 0) (q0 := 0) hw.2.2.2.1 hw.1 rfl rfl) rfl hl.1 rfl (Nat.le_of_ble_eq_true rfl) d_P_step_137 ⟨Nat.zero_le _, Nat.zero_le _⟩ (fun H locs hw => ?_)
          have hO35 : z_Ok (z_eb (z_s_la (z_nx σ) (if (z_nb σ) = 251 then 1 else 0)) (z_nb σ)) := z_ok_eb hO30 _
          have hb36 : z_tb (z_nb σ) < 8 := z_tb_lt _
          refine lv_i2l K.1 K.2.1 d_P_step_140 (nI_l (by omega)) ?_
          refine lv_ladd K.1 K.2.1 d_P_step_141 (lv_asl K (lN_add _ _) ?_)
          refine pp_stateCount (v := (z_x_st σ) + (z_tb (z_nb σ))) K hw d_P_step_142 (fun H locs hw => ?_)
          have hO37 : z_Ok (z_s_st (z_eb (z_s_la (z_nx σ) (if (z_nb σ) = 251 then 1 else 0)) (z_nb σ)) ((z_x_st σ) + (z_tb (z_nb σ)))) := z_ok_st hO35
          refine lv_goto K.1 K.2.1 d_P_step_145 rfl ?_
          refine nv_iconst (v := 1) K d_P_step_181 (by decide) ?_
          exact prz K hr hlk hw ((sx_q (by omega) (by omega) (by unfold z_ex; exact (if_neg (by omega)).trans (if_pos (by omega))) (by unfold z_tm; exact (if_neg (by omega)).trans (if_pos (by omega)))).symm) (by omega) (congrArg nI (sv_q (by omega) (by omega)).symm) d_P_step_182
        · refine nv_as K (congrArg nI h31) ?_
          refine nv_tabIn (a := 2) (tgt := 148) K d_P_step_86 (by decide) (by decide) (by decide) rfl rfl ?_
          refine lv_aload_n K.1 K.2.1 d_P_step_148 rfl (lv_at hl 1 rfl) ?_
          refine lv_dup K.1 K.2.1 d_P_step_149 rfl ?_
          refine pg_stateCount (v := z_x_st σ) K hw rfl d_P_step_150 ?_
          refine lv_aload_n K.1 K.2.1 d_P_step_153 rfl (lv_at hl 1 rfl) ?_
          refine lv_iload_n K.1 K.2.1 d_P_step_154 rfl (lv_at hl 0 rfl) ?_
          refine pki K (c_combineWithRegister (σ := z_s_la (z_nx σ) (if (z_nb σ) = 251 then 1 else 0)) (b := z_nb σ) l D cI a hO30 (by omega)) (cw_P_130 K (Nat.le_of_ble_eq_true rfl) (Nat.le_of_ble_eq_true rfl)) hw (va_recv (ci := 0) (q0 := 0) hw.2.2.2.1 hw.1 rfl rfl) rfl hl.1 rfl (Nat.le_of_ble_eq_true rfl) d_P_step_155 ⟨Nat.zero_le _, Nat.zero_le _⟩ (fun H locs hw => ?_)
          have hO38 : z_Ok (z_ec (z_s_la (z_nx σ) (if (z_nb σ) = 251 then 1 else 0)) (z_nb σ)) := z_ok_ec hO30 _
          have hb39 : z_tc (z_nb σ) < 8 := z_tc_lt _
          refine lv_i2l K.1 K.2.1 d_P_step_158 (nI_l (by omega)) ?_
          refine lv_ladd K.1 K.2.1 d_P_step_159 (lv_asl K (lN_add _ _) ?_)
          refine pp_stateCount (v := (z_x_st σ) + (z_tc (z_nb σ))) K hw d_P_step_160 (fun H locs hw => ?_)
          have hO40 : z_Ok (z_s_st (z_ec (z_s_la (z_nx σ) (if (z_nb σ) = 251 then 1 else 0)) (z_nb σ)) ((z_x_st σ) + (z_tc (z_nb σ)))) := z_ok_st hO38
          refine lv_goto K.1 K.2.1 d_P_step_163 rfl ?_
          refine nv_iconst (v := 1) K d_P_step_181 (by decide) ?_
          exact prz K hr hlk hw ((sx_q (by omega) (by omega) (by unfold z_ex; exact (if_neg (by omega)).trans ((if_neg (by omega)).trans (if_pos (by omega)))) (by unfold z_tm; exact (if_neg (by omega)).trans ((if_neg (by omega)).trans (if_pos (by omega))))).symm) (by omega) (congrArg nI (sv_q (by omega) (by omega)).symm) d_P_step_182
        · refine nv_as K (congrArg nI h31) ?_
          refine nv_tabOut (a := 3) (tgt := 166) K d_P_step_86 (by decide) (by decide) rfl ?_
          refine lv_aload_n K.1 K.2.1 d_P_step_166 rfl (lv_at hl 1 rfl) ?_
          refine lv_dup K.1 K.2.1 d_P_step_167 rfl ?_
          refine pg_stateCount (v := z_x_st σ) K hw rfl d_P_step_168 ?_
          refine lv_aload_n K.1 K.2.1 d_P_step_171 rfl (lv_at hl 1 rfl) ?_
          refine lv_iload_n K.1 K.2.1 d_P_step_172 rfl (lv_at hl 0 rfl) ?_
          refine pki K (c_doLastQuarter (σ := z_s_la (z_nx σ) (if (z_nb σ) = 251 then 1 else 0)) (b := z_nb σ) l D cI a hO30 (by omega)) (cw_P_133 K (Nat.le_of_ble_eq_true rfl) (Nat.le_of_ble_eq_true rfl)) hw (va_recv (ci := 0) (q0 := 0) hw.2.2.2.1 hw.1 rfl rfl) rfl hl.1 rfl (Nat.le_of_ble_eq_true rfl) d_P_step_173 ⟨Nat.zero_le _, Nat.zero_le _⟩ (fun H locs hw => ?_)
          have hO41 : z_Ok (z_ed (z_s_la (z_nx σ) (if (z_nb σ) = 251 then 1 else 0)) (z_nb σ)) := z_ok_ed hO30 _
          refine nv_as K (y := nI (z_td σ (z_nb σ))) rfl ?_
          have hb42 : z_td σ (z_nb σ) < 19 := z_td_lt _ _
          refine lv_i2l K.1 K.2.1 d_P_step_176 (nI_l (by omega)) ?_
          refine lv_ladd K.1 K.2.1 d_P_step_177 (lv_asl K (lN_add _ _) ?_)
          refine pp_stateCount (v := (z_x_st σ) + (z_td σ (z_nb σ))) K hw d_P_step_178 (fun H locs hw => ?_)
          have hO43 : z_Ok (z_s_st (z_ed (z_s_la (z_nx σ) (if (z_nb σ) = 251 then 1 else 0)) (z_nb σ)) ((z_x_st σ) + (z_td σ (z_nb σ)))) := z_ok_st hO41
          refine nv_iconst (v := 1) K d_P_step_181 (by decide) ?_
          exact prz K hr hlk hw ((sx_q (by omega) (by omega) (by unfold z_ex; exact (if_neg (by omega)).trans ((if_neg (by omega)).trans (if_neg (by omega)))) (by unfold z_tm; exact (if_neg (by omega)).trans ((if_neg (by omega)).trans (if_neg (by omega))))).symm) (by omega) (congrArg nI (sv_q (by omega) (by omega)).symm) d_P_step_182
      · refine lv_aload_n K.1 K.2.1 d_P_step_47 rfl (lv_at hl 0 rfl) ?_
        refine lv_dup K.1 K.2.1 d_P_step_48 rfl ?_
        refine pg_stateCount (v := z_x_st σ) K hw rfl d_P_step_49 ?_
        refine lv_ldc2 (v := lN 4) K.1 K.2.1 K.2.2.2.1 (K.2.2.2.2 _ (List.mem_cons_of_mem _ m_constantLong_PortProcessor_119_4)) d_P_step_52 ?_
        refine lv_ladd K.1 K.2.1 d_P_step_55 (lv_asl K (lN_add _ _) ?_)
        refine pp_stateCount (v := (z_x_st σ) + 4) K hw d_P_step_56 (fun H locs hw => ?_)
        have hO44 : z_Ok (z_s_st σ ((z_x_st σ) + 4)) := z_ok_st hO
        refine nv_iconst (v := 0) K d_P_step_59 (by decide) ?_
        exact prz K hr hlk hw ((sx_h (by omega) (by omega)).symm) (by omega) (congrArg nI (sv_h (by omega) (by omega)).symm) d_P_step_60
    · refine lv_aload_n K.1 K.2.1 d_P_step_15 rfl (lv_at hl 0 rfl) ?_
      refine pg_lastLetInterruptsIn (v := z_x_la σ) K hw rfl d_P_step_16 ?_
      have hb45 : z_x_la σ < 2 := z_k_la hO
      refine nv_if_ne K (by omega) d_P_step_19 rfl (fun h46 => ?_) (fun h46 => ?_)
      · refine lv_aload_n K.1 K.2.1 d_P_step_40 rfl (lv_at hl 0 rfl) ?_
        refine pg_halted (v := z_x_ha σ) K hw rfl d_P_step_41 ?_
        have hb47 : z_x_ha σ < 2 := z_k_ha hO
        refine nv_if_eq K (by omega) d_P_step_44 rfl (fun h48 => ?_) (fun h48 => ?_)
        · refine lv_aload_n K.1 K.2.1 d_P_step_61 rfl (lv_at hl 0 rfl) ?_
          refine pki K (c_nextByte (σ := σ) l D cI a hO) (cw_P_121 K (Nat.le_of_ble_eq_true rfl) (Nat.le_of_ble_eq_true rfl)) hw (va_recv (ci := 0) (q0 := 0) hw.2.2.2.1 hw.1 rfl rfl) rfl hl.1 rfl (Nat.le_of_ble_eq_true rfl) d_P_step_62 ⟨Nat.zero_le _, Nat.zero_le _⟩ (fun H locs hw => ?_)
          have hO49 : z_Ok (z_nx σ) := z_ok_nx hO
          have hb50 : z_nb σ < 256 := z_nb_lt hO
          refine lv_istore_n (lv' := [(1, .int (nI (z_nb σ))), (0, .ref a.1)]) K.1 K.2.1 d_P_step_65 rfl hl (by decide) rfl (fun ls hl => ?_)
          refine lv_aload_n K.1 K.2.1 d_P_step_66 rfl (lv_at hl 1 rfl) ?_
          refine lv_iload_n K.1 K.2.1 d_P_step_67 rfl (lv_at hl 0 rfl) ?_
          refine nv_sipush (v := 251) K d_P_step_68 (by decide) ?_
          refine nf_icmp_ne (u := 0) (v := 1) (Y := 79) K (by omega) (by omega) d_P_step_71 rfl (fun _ k => nv_iconst (v := 0) K d_P_step_78 (by decide) k) (fun _ k => nv_iconst (v := 1) K d_P_step_74 (by decide) (lv_goto K.1 K.2.1 d_P_step_75 rfl k)) ?_
          have hb51 : (if (z_nb σ) = 251 then 1 else 0) < 2 := z_ite_ltB _ (by omega) (by omega)
          refine pp_lastLetInterruptsIn (v := (if (z_nb σ) = 251 then 1 else 0)) K hw (by omega) d_P_step_79 (fun H locs hw => ?_)
          have hO52 : z_Ok (z_s_la (z_nx σ) (if (z_nb σ) = 251 then 1 else 0)) := z_ok_la hO49 (by omega)
          refine lv_iload_n K.1 K.2.1 d_P_step_82 rfl (lv_at hl 0 rfl) ?_
          refine nv_bipush (v := 6) K d_P_step_83 (by decide) ?_
          refine nv_ishr (M := 64) K (by omega) rfl (by omega) d_P_step_85 ?_
          rcases (by omega : ((z_nb σ) / 64) = 0 ∨ ((z_nb σ) / 64) = 1 ∨ ((z_nb σ) / 64) = 2 ∨ ((z_nb σ) / 64) = 3) with h53 | h53 | h53 | h53
          · refine nv_as K (congrArg nI h53) ?_
            refine nv_tabIn (a := 0) (tgt := 112) K d_P_step_86 (by decide) (by decide) (by decide) rfl rfl ?_
            refine lv_aload_n K.1 K.2.1 d_P_step_112 rfl (lv_at hl 1 rfl) ?_
            refine lv_dup K.1 K.2.1 d_P_step_113 rfl ?_
            refine pg_stateCount (v := z_x_st σ) K hw rfl d_P_step_114 ?_
            refine lv_aload_n K.1 K.2.1 d_P_step_117 rfl (lv_at hl 1 rfl) ?_
            refine lv_iload_n K.1 K.2.1 d_P_step_118 rfl (lv_at hl 0 rfl) ?_
            refine pki K (c_doFirstQuarter (σ := z_s_la (z_nx σ) (if (z_nb σ) = 251 then 1 else 0)) (b := z_nb σ) l D cI a hO52 (by omega)) (cw_P_124 K (Nat.le_of_ble_eq_true rfl) (Nat.le_of_ble_eq_true rfl)) hw (va_recv (ci := 0) (q0 := 0) hw.2.2.2.1 hw.1 rfl rfl) rfl hl.1 rfl (Nat.le_of_ble_eq_true rfl) d_P_step_119 ⟨Nat.zero_le _, Nat.zero_le _⟩ (fun H locs hw => ?_)
            have hO54 : z_Ok (z_ea (z_s_la (z_nx σ) (if (z_nb σ) = 251 then 1 else 0)) (z_nb σ)) := z_ok_ea hO52 _
            have hb55 : z_ta (z_nb σ) < 17 := z_ta_lt _
            refine lv_i2l K.1 K.2.1 d_P_step_122 (nI_l (by omega)) ?_
            refine lv_ladd K.1 K.2.1 d_P_step_123 (lv_asl K (lN_add _ _) ?_)
            refine pp_stateCount (v := (z_x_st σ) + (z_ta (z_nb σ))) K hw d_P_step_124 (fun H locs hw => ?_)
            have hO56 : z_Ok (z_s_st (z_ea (z_s_la (z_nx σ) (if (z_nb σ) = 251 then 1 else 0)) (z_nb σ)) ((z_x_st σ) + (z_ta (z_nb σ)))) := z_ok_st hO54
            refine lv_goto K.1 K.2.1 d_P_step_127 rfl ?_
            refine nv_iconst (v := 1) K d_P_step_181 (by decide) ?_
            exact prz K hr hlk hw ((sx_q (by omega) (by omega) (by unfold z_ex; exact if_pos (by omega)) (by unfold z_tm; exact if_pos (by omega))).symm) (by omega) (congrArg nI (sv_q (by omega) (by omega)).symm) d_P_step_182
          · refine nv_as K (congrArg nI h53) ?_
            refine nv_tabIn (a := 1) (tgt := 130) K d_P_step_86 (by decide) (by decide) (by decide) rfl rfl ?_
            refine lv_aload_n K.1 K.2.1 d_P_step_130 rfl (lv_at hl 1 rfl) ?_
            refine lv_dup K.1 K.2.1 d_P_step_131 rfl ?_
            refine pg_stateCount (v := z_x_st σ) K hw rfl d_P_step_132 ?_
            refine lv_aload_n K.1 K.2.1 d_P_step_135 rfl (lv_at hl 1 rfl) ?_
            refine lv_iload_n K.1 K.2.1 d_P_step_136 rfl (lv_at hl 0 rfl) ?_
            refine pki K (c_move (σ := z_s_la (z_nx σ) (if (z_nb σ) = 251 then 1 else 0)) (b := z_nb σ) l D cI a hO52 (by omega)) (cw_P_127 K (Nat.le_of_ble_eq_true rfl) (Nat.le_of_ble_eq_true rfl)) hw (va_recv (ci := 0) (q0 := 0) hw.2.2.2.1 hw.1 rfl rfl) rfl hl.1 rfl (Nat.le_of_ble_eq_true rfl) d_P_step_137 ⟨Nat.zero_le _, Nat.zero_le _⟩ (fun H locs hw => ?_)
            have hO57 : z_Ok (z_eb (z_s_la (z_nx σ) (if (z_nb σ) = 251 then 1 else 0)) (z_nb σ)) := z_ok_eb hO52 _
            have hb58 : z_tb (z_nb σ) < 8 := z_tb_lt _
            refine lv_i2l K.1 K.2.1 d_P_step_140 (nI_l (by omega)) ?_
            refine lv_ladd K.1 K.2.1 d_P_step_141 (lv_asl K (lN_add _ _) ?_)
            refine pp_stateCount (v := (z_x_st σ) + (z_tb (z_nb σ))) K hw d_P_step_142 (fun H locs hw => ?_)
            have hO59 : z_Ok (z_s_st (z_eb (z_s_la (z_nx σ) (if (z_nb σ) = 251 then 1 else 0)) (z_nb σ)) ((z_x_st σ) + (z_tb (z_nb σ)))) := z_ok_st hO57
            refine lv_goto K.1 K.2.1 d_P_step_145 rfl ?_
            refine nv_iconst (v := 1) K d_P_step_181 (by decide) ?_
            exact prz K hr hlk hw ((sx_q (by omega) (by omega) (by unfold z_ex; exact (if_neg (by omega)).trans (if_pos (by omega))) (by unfold z_tm; exact (if_neg (by omega)).trans (if_pos (by omega)))).symm) (by omega) (congrArg nI (sv_q (by omega) (by omega)).symm) d_P_step_182
          · refine nv_as K (congrArg nI h53) ?_
            refine nv_tabIn (a := 2) (tgt := 148) K d_P_step_86 (by decide) (by decide) (by decide) rfl rfl ?_
            refine lv_aload_n K.1 K.2.1 d_P_step_148 rfl (lv_at hl 1 rfl) ?_
            refine lv_dup K.1 K.2.1 d_P_step_149 rfl ?_
            refine pg_stateCount (v := z_x_st σ) K hw rfl d_P_step_150 ?_
            refine lv_aload_n K.1 K.2.1 d_P_step_153 rfl (lv_at hl 1 rfl) ?_
            refine lv_iload_n K.1 K.2.1 d_P_step_154 rfl (lv_at hl 0 rfl) ?_
            refine pki K (c_combineWithRegister (σ := z_s_la (z_nx σ) (if (z_nb σ) = 251 then 1 else 0)) (b := z_nb σ) l D cI a hO52 (by omega)) (cw_P_130 K (Nat.le_of_ble_eq_true rfl) (Nat.le_of_ble_eq_true rfl)) hw (va_recv (ci := 0) (q0 := 0) hw.2.2.2.1 hw.1 rfl rfl) rfl hl.1 rfl (Nat.le_of_ble_eq_true rfl) d_P_step_155 ⟨Nat.zero_le _, Nat.zero_le _⟩ (fun H locs hw => ?_)
            have hO60 : z_Ok (z_ec (z_s_la (z_nx σ) (if (z_nb σ) = 251 then 1 else 0)) (z_nb σ)) := z_ok_ec hO52 _
            have hb61 : z_tc (z_nb σ) < 8 := z_tc_lt _
            refine lv_i2l K.1 K.2.1 d_P_step_158 (nI_l (by omega)) ?_
            refine lv_ladd K.1 K.2.1 d_P_step_159 (lv_asl K (lN_add _ _) ?_)
            refine pp_stateCount (v := (z_x_st σ) + (z_tc (z_nb σ))) K hw d_P_step_160 (fun H locs hw => ?_)
            have hO62 : z_Ok (z_s_st (z_ec (z_s_la (z_nx σ) (if (z_nb σ) = 251 then 1 else 0)) (z_nb σ)) ((z_x_st σ) + (z_tc (z_nb σ)))) := z_ok_st hO60
            refine lv_goto K.1 K.2.1 d_P_step_163 rfl ?_
            refine nv_iconst (v := 1) K d_P_step_181 (by decide) ?_
            exact prz K hr hlk hw ((sx_q (by omega) (by omega) (by unfold z_ex; exact (if_neg (by omega)).trans ((if_neg (by omega)).trans (if_pos (by omega)))) (by unfold z_tm; exact (if_neg (by omega)).trans ((if_neg (by omega)).trans (if_pos (by omega))))).symm) (by omega) (congrArg nI (sv_q (by omega) (by omega)).symm) d_P_step_182
          · refine nv_as K (congrArg nI h53) ?_
            refine nv_tabOut (a := 3) (tgt := 166) K d_P_step_86 (by decide) (by decide) rfl ?_
            refine lv_aload_n K.1 K.2.1 d_P_step_166 rfl (lv_at hl 1 rfl) ?_
            refine lv_dup K.1 K.2.1 d_P_step_167 rfl ?_
            refine pg_stateCount (v := z_x_st σ) K hw rfl d_P_step_168 ?_
            refine lv_aload_n K.1 K.2.1 d_P_step_171 rfl (lv_at hl 1 rfl) ?_
            refine lv_iload_n K.1 K.2.1 d_P_step_172 rfl (lv_at hl 0 rfl) ?_
            refine pki K (c_doLastQuarter (σ := z_s_la (z_nx σ) (if (z_nb σ) = 251 then 1 else 0)) (b := z_nb σ) l D cI a hO52 (by omega)) (cw_P_133 K (Nat.le_of_ble_eq_true rfl) (Nat.le_of_ble_eq_true rfl)) hw (va_recv (ci := 0) (q0 := 0) hw.2.2.2.1 hw.1 rfl rfl) rfl hl.1 rfl (Nat.le_of_ble_eq_true rfl) d_P_step_173 ⟨Nat.zero_le _, Nat.zero_le _⟩ (fun H locs hw => ?_)
            have hO63 : z_Ok (z_ed (z_s_la (z_nx σ) (if (z_nb σ) = 251 then 1 else 0)) (z_nb σ)) := z_ok_ed hO52 _
            refine nv_as K (y := nI (z_td σ (z_nb σ))) rfl ?_
            have hb64 : z_td σ (z_nb σ) < 19 := z_td_lt _ _
            refine lv_i2l K.1 K.2.1 d_P_step_176 (nI_l (by omega)) ?_
            refine lv_ladd K.1 K.2.1 d_P_step_177 (lv_asl K (lN_add _ _) ?_)
            refine pp_stateCount (v := (z_x_st σ) + (z_td σ (z_nb σ))) K hw d_P_step_178 (fun H locs hw => ?_)
            have hO65 : z_Ok (z_s_st (z_ed (z_s_la (z_nx σ) (if (z_nb σ) = 251 then 1 else 0)) (z_nb σ)) ((z_x_st σ) + (z_td σ (z_nb σ)))) := z_ok_st hO63
            refine nv_iconst (v := 1) K d_P_step_181 (by decide) ?_
            exact prz K hr hlk hw ((sx_q (by omega) (by omega) (by unfold z_ex; exact (if_neg (by omega)).trans ((if_neg (by omega)).trans (if_neg (by omega)))) (by unfold z_tm; exact (if_neg (by omega)).trans ((if_neg (by omega)).trans (if_neg (by omega))))).symm) (by omega) (congrArg nI (sv_q (by omega) (by omega)).symm) d_P_step_182
        · refine lv_aload_n K.1 K.2.1 d_P_step_47 rfl (lv_at hl 0 rfl) ?_
          refine lv_dup K.1 K.2.1 d_P_step_48 rfl ?_
          refine pg_stateCount (v := z_x_st σ) K hw rfl d_P_step_49 ?_
          refine lv_ldc2 (v := lN 4) K.1 K.2.1 K.2.2.2.1 (K.2.2.2.2 _ (List.mem_cons_of_mem _ m_constantLong_PortProcessor_119_4)) d_P_step_52 ?_
          refine lv_ladd K.1 K.2.1 d_P_step_55 (lv_asl K (lN_add _ _) ?_)
          refine pp_stateCount (v := (z_x_st σ) + 4) K hw d_P_step_56 (fun H locs hw => ?_)
          have hO66 : z_Ok (z_s_st σ ((z_x_st σ) + 4)) := z_ok_st hO
          refine nv_iconst (v := 0) K d_P_step_59 (by decide) ?_
          exact prz K hr hlk hw ((sx_h (by omega) (by omega)).symm) (by omega) (congrArg nI (sv_h (by omega) (by omega)).symm) d_P_step_60
      · refine lv_aload_n K.1 K.2.1 d_P_step_22 rfl (lv_at hl 0 rfl) ?_
        refine pkv K (c_letInterruptIn (σ := σ) l D cI a hO (by omega)) (cw_P_114 K (Nat.le_of_ble_eq_true rfl) (Nat.le_of_ble_eq_true rfl)) hw (va_recv (ci := 0) (q0 := 0) hw.2.2.2.1 hw.1 rfl rfl) rfl hl.1 rfl (Nat.le_of_ble_eq_true rfl) d_P_step_23 ⟨Nat.zero_le _, Nat.zero_le _⟩ (fun H locs hw => ?_)
        have hO67 : z_Ok (z_li σ) := z_ok_li hO
        refine lv_aload_n K.1 K.2.1 d_P_step_26 rfl (lv_at hl 0 rfl) ?_
        refine lv_dup K.1 K.2.1 d_P_step_27 rfl ?_
        refine pg_stateCount (v := z_x_st σ) K hw (st_li σ) d_P_step_28 ?_
        refine lv_ldc2 (v := lN 11) K.1 K.2.1 K.2.2.2.1 (K.2.2.2.2 _ (List.mem_cons_of_mem _ m_constantLong_PortProcessor_117_11)) d_P_step_31 ?_
        refine lv_ladd K.1 K.2.1 d_P_step_34 (lv_asl K (lN_add _ _) ?_)
        refine pp_stateCount (v := (z_x_st σ) + 11) K hw d_P_step_35 (fun H locs hw => ?_)
        have hO68 : z_Ok (z_s_st (z_li σ) ((z_x_st σ) + 11)) := z_ok_st hO67
        refine nv_iconst (v := 1) K d_P_step_38 (by decide) ?_
        exact prz K hr hlk hw ((sx_i (by omega) (by omega) (by omega)).symm) (by omega) (congrArg nI (sv_i (by omega) (by omega) (by omega)).symm) d_P_step_39

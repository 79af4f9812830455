set_option maxHeartbeats 4000000 in
set_option maxRecDepth 100000 in
theorem r_instruction {σ : z_St} {b : Nat} (l : Launch) (D : va_G) (cI : ClassId) (a : qAd) (hO : z_Ok σ) (hb : b < 256) (hla : z_x_la σ = 0) : qCi l y_R_instruction w_R_instruction 5 121 D cI a [.ref a.1, .int (nI b)] σ (if b = 251 then z_s_la (z_s_it σ 1) 1 else z_ex σ b) (nI (z_tm σ b)) := by
  refine qci_of (cc := b_R_instruction) (maxL := 4) (ret := (some .int)) (by decide) rfl (Nat.le_of_ble_eq_true rfl) ?_
  intro p e s m below meth c ls K hr hlk hl hw
  have K : CallFix p m c b_R_instruction 4 s _ (_ :: T0) "PortProcessorModel" := K
  have hl : lv_has ls 4 [(0, .ref a.1), (1, .int (nI b))] := hl
  refine lv_iload_n K.1 K.2.1 d_R_instruction_0 rfl (lv_at hl 1 rfl) ?_
  refine nv_bipush (v := 118) K d_R_instruction_1 (by decide) ?_
  refine nv_icmp_ne K (by omega) (by omega) d_R_instruction_3 rfl (fun h1 => ?_) (fun h1 => ?_)
  · refine lv_iload_n K.1 K.2.1 d_R_instruction_14 rfl (lv_at hl 1 rfl) ?_
    refine nv_bipush (v := 64) K d_R_instruction_15 (by decide) ?_
    refine nv_icmp_ge K (by omega) (by omega) d_R_instruction_17 rfl (fun h2 => ?_) (fun h2 => ?_)
    · refine lv_iload_n K.1 K.2.1 d_R_instruction_26 rfl (lv_at hl 1 rfl) ?_
      refine nv_bipush (v := 8) K d_R_instruction_27 (by decide) ?_
      refine nv_irem K (by omega) (by omega) (by omega) d_R_instruction_29 ?_
      refine lv_istore_n (lv' := [(2, .int (nI (b % 8))), (0, .ref a.1), (1, .int (nI b))]) K.1 K.2.1 d_R_instruction_30 rfl hl (by decide) rfl (fun ls hl => ?_)
      refine lv_iload_n K.1 K.2.1 d_R_instruction_31 rfl (lv_at hl 2 rfl) ?_
      refine nv_bipush (v := 8) K d_R_instruction_32 (by decide) ?_
      refine nv_idiv K (by omega) (by omega) (by omega) d_R_instruction_34 ?_
      refine nv_bipush (v := 8) K d_R_instruction_35 (by decide) ?_
      refine nv_irem K (by omega) (by omega) (by omega) d_R_instruction_37 ?_
      refine lv_istore_n (lv' := [(3, .int (nI ((b / 8) % 8))), (2, .int (nI (b % 8))), (0, .ref a.1), (1, .int (nI b))]) K.1 K.2.1 d_R_instruction_38 rfl hl (by decide) rfl (fun ls hl => ?_)
      refine lv_iload_n K.1 K.2.1 d_R_instruction_39 rfl (lv_at hl 3 rfl) ?_
      refine nv_sipush (v := 128) K d_R_instruction_40 (by decide) ?_
      refine nv_icmp_ge K (by omega) (by omega) d_R_instruction_43 rfl (fun h3 => ?_) (fun h3 => ?_)
      · refine lv_iload_n K.1 K.2.1 d_R_instruction_75 rfl (lv_at hl 3 rfl) ?_
        refine nv_sipush (v := 192) K d_R_instruction_76 (by decide) ?_
        refine nv_icmp_ge K (by omega) (by omega) d_R_instruction_79 rfl (fun h4 => ?_) (fun h4 => ?_)
        · refine lv_aload_n K.1 K.2.1 d_R_instruction_105 rfl (lv_at hl 2 rfl) ?_
          refine lv_iload_n K.1 K.2.1 d_R_instruction_106 rfl (lv_at hl 3 rfl) ?_
          refine qki K (r_last (σ := σ) (b := b) l D cI a hO (by omega) (by omega) (by omega)) (cw_R_94 K (Nat.le_of_ble_eq_true rfl) (Nat.le_of_ble_eq_true rfl)) hw (va_recv (ci := 3) (q0 := 0) hw.2.2.2.1 hw.1 rfl rfl) rfl hl.1 rfl (Nat.le_of_ble_eq_true rfl) d_R_instruction_107 ⟨Nat.zero_le _, Nat.zero_le _⟩ (fun H locs hw => ?_)
          have hO5 : z_Ok (if b = 251 then z_s_la (z_s_it σ 1) 1 else z_ed σ b) := z_ok_edr hO _
          have hb6 : z_td σ b < 19 := z_td_lt _ _
          exact qri K hr hlk hw (by unfold z_ex; rw [if_neg (by omega : ¬ b < 64), if_neg (by omega : ¬ b < 128), if_neg (by omega : ¬ b < 192)]) (congrArg nI (by unfold z_tm; exact ((if_neg (by omega)).trans ((if_neg (by omega)).trans (if_neg (by omega)))).symm)) d_R_instruction_110
        · refine lv_aload_n K.1 K.2.1 d_R_instruction_82 rfl (lv_at hl 2 rfl) ?_
          refine lv_iload_n K.1 K.2.1 d_R_instruction_83 rfl (lv_at hl 0 rfl) ?_
          refine lv_aload_n K.1 K.2.1 d_R_instruction_84 rfl (lv_at hl 2 rfl) ?_
          refine lv_iload_n K.1 K.2.1 d_R_instruction_85 rfl (lv_at hl 1 rfl) ?_
          refine qki K (r_get (σ := σ) (r := b % 8) l D cI a hO (by omega)) (cw_R_85 K (Nat.le_of_ble_eq_true rfl) (Nat.le_of_ble_eq_true rfl)) hw (va_recv (ci := 3) (q0 := 0) hw.2.2.2.1 hw.1 rfl rfl) rfl hl.1 rfl (Nat.le_of_ble_eq_true rfl) d_R_instruction_86 ⟨Nat.zero_le _, Nat.zero_le _⟩ (fun H locs hw => ?_)
          have hb7 : z_rg σ (b % 8) < 256 := z_rg_lt hO _
          refine qkv K (r_reckon (σ := σ) (k := (b / 8) % 8) (b := z_rg σ (b % 8)) l D cI a hO (by omega) (by omega)) (cw_R_91 K (Nat.le_of_ble_eq_true rfl) (Nat.le_of_ble_eq_true rfl)) hw (va_recv (ci := 3) (q0 := 0) hw.2.2.2.1 hw.1 rfl rfl) rfl hl.1 rfl (Nat.le_of_ble_eq_true rfl) d_R_instruction_89 ⟨Nat.zero_le _, Nat.zero_le _⟩ (fun H locs hw => ?_)
          have hO8 : z_Ok (z_rk σ ((b / 8) % 8) (z_rg σ (b % 8))) := z_ok_rk hO _ (by omega)
          refine lv_iload_n K.1 K.2.1 d_R_instruction_92 rfl (lv_at hl 1 rfl) ?_
          refine nv_bipush (v := 6) K d_R_instruction_93 (by decide) ?_
          refine nf_icmp_ne (u := 4) (v := 7) (Y := 104) K (by omega) (by omega) d_R_instruction_95 rfl (fun _ k => nv_iconst (v := 4) K d_R_instruction_103 (by decide) k) (fun _ k => nv_bipush (v := 7) K d_R_instruction_98 (by decide) (lv_goto K.1 K.2.1 d_R_instruction_100 rfl k)) ?_
          have hb9 : (if (b % 8) = 6 then 7 else 4) < 8 := z_ite_ltB _ (by omega) (by omega)
          exact qri K hr hlk hw (by rw [if_neg (by omega)]; unfold z_ex; exact ((if_neg (by omega)).trans ((if_neg (by omega)).trans (if_pos (by omega)))).symm) (congrArg nI (by unfold z_tm; exact ((if_neg (by omega)).trans ((if_neg (by omega)).trans (if_pos (by omega)))).symm)) d_R_instruction_104
      · refine lv_aload_n K.1 K.2.1 d_R_instruction_46 rfl (lv_at hl 2 rfl) ?_
        refine lv_iload_n K.1 K.2.1 d_R_instruction_47 rfl (lv_at hl 0 rfl) ?_
        refine lv_aload_n K.1 K.2.1 d_R_instruction_48 rfl (lv_at hl 2 rfl) ?_
        refine lv_iload_n K.1 K.2.1 d_R_instruction_49 rfl (lv_at hl 1 rfl) ?_
        refine qki K (r_get (σ := σ) (r := b % 8) l D cI a hO (by omega)) (cw_R_85 K (Nat.le_of_ble_eq_true rfl) (Nat.le_of_ble_eq_true rfl)) hw (va_recv (ci := 3) (q0 := 0) hw.2.2.2.1 hw.1 rfl rfl) rfl hl.1 rfl (Nat.le_of_ble_eq_true rfl) d_R_instruction_50 ⟨Nat.zero_le _, Nat.zero_le _⟩ (fun H locs hw => ?_)
        have hb10 : z_rg σ (b % 8) < 256 := z_rg_lt hO _
        refine qkv K (r_set8 (σ := σ) (r := (b / 8) % 8) (v := z_rg σ (b % 8)) l D cI a hO (by omega) (by omega)) (cw_R_88 K (Nat.le_of_ble_eq_true rfl) (Nat.le_of_ble_eq_true rfl)) hw (va_recv (ci := 3) (q0 := 0) hw.2.2.2.1 hw.1 rfl rfl) rfl hl.1 rfl (Nat.le_of_ble_eq_true rfl) d_R_instruction_53 ⟨Nat.zero_le _, Nat.zero_le _⟩ (fun H locs hw => ?_)
        have hO11 : z_Ok (z_rs σ ((b / 8) % 8) (z_rg σ (b % 8))) := z_ok_rs hO _ (by omega)
        refine lv_iload_n K.1 K.2.1 d_R_instruction_56 rfl (lv_at hl 1 rfl) ?_
        refine nv_bipush (v := 6) K d_R_instruction_57 (by decide) ?_
        refine nv_icmp_eq K (by omega) (by omega) d_R_instruction_59 rfl (fun h12 => ?_) (fun h12 => ?_)
        · refine nv_bipush (v := 7) K d_R_instruction_68 (by decide) ?_
          refine lv_goto K.1 K.2.1 d_R_instruction_70 rfl ?_
          exact qri K hr hlk hw (by rw [if_neg (by omega)]; unfold z_ex; refine Eq.trans ?_ ((if_neg (by omega)).trans (if_pos (by omega))).symm; unfold z_eb; exact (if_neg (by omega)).symm) (congrArg nI (by unfold z_tm; refine Eq.trans ?_ ((if_neg (by omega)).trans (if_pos (by omega))).symm; unfold z_tb; (repeat' split) <;> omega)) d_R_instruction_74
        · refine lv_iload_n K.1 K.2.1 d_R_instruction_62 rfl (lv_at hl 0 rfl) ?_
          refine nv_bipush (v := 6) K d_R_instruction_63 (by decide) ?_
          refine nf_icmp_ne (u := 5) (v := 7) (Y := 74) K (by omega) (by omega) d_R_instruction_65 rfl (fun _ k => nv_iconst (v := 5) K d_R_instruction_73 (by decide) k) (fun _ k => nv_bipush (v := 7) K d_R_instruction_68 (by decide) (lv_goto K.1 K.2.1 d_R_instruction_70 rfl k)) ?_
          have hb13 : (if ((b / 8) % 8) = 6 then 7 else 5) < 8 := z_ite_ltB _ (by omega) (by omega)
          exact qri K hr hlk hw (by rw [if_neg (by omega)]; unfold z_ex; refine Eq.trans ?_ ((if_neg (by omega)).trans (if_pos (by omega))).symm; unfold z_eb; exact (if_neg (by omega)).symm) (congrArg nI (by unfold z_tm; refine Eq.trans ?_ ((if_neg (by omega)).trans (if_pos (by omega))).symm; unfold z_tb; (repeat' split) <;> omega)) d_R_instruction_74
    · refine lv_aload_n K.1 K.2.1 d_R_instruction_20 rfl (lv_at hl 0 rfl) ?_
      refine lv_iload_n K.1 K.2.1 d_R_instruction_21 rfl (lv_at hl 1 rfl) ?_
      refine qki K (r_first (σ := σ) (b := b) l D cI a hO (by omega)) (cw_R_82 K (Nat.le_of_ble_eq_true rfl) (Nat.le_of_ble_eq_true rfl)) hw (va_recv (ci := 3) (q0 := 0) hw.2.2.2.1 hw.1 rfl rfl) rfl hl.1 rfl (Nat.le_of_ble_eq_true rfl) d_R_instruction_22 ⟨Nat.zero_le _, Nat.zero_le _⟩ (fun H locs hw => ?_)
      have hO14 : z_Ok (z_ea σ b) := z_ok_ea hO _
      have hb15 : z_ta b < 17 := z_ta_lt _
      exact qri K hr hlk hw (by rw [if_neg (by omega)]; unfold z_ex; exact (if_pos (by omega)).symm) (congrArg nI (by unfold z_tm; exact (if_pos (by omega)).symm)) d_R_instruction_25
  · refine lv_aload_n K.1 K.2.1 d_R_instruction_6 rfl (lv_at hl 0 rfl) ?_
    refine nv_iconst (v := 1) K d_R_instruction_7 (by decide) ?_
    refine qp_halted (v := 1) K hw (by omega) d_R_instruction_8 (fun H locs hw => ?_)
    have hO16 : z_Ok (z_s_ha σ 1) := z_ok_ha hO (by omega)
    refine nv_bipush (v := 7) K d_R_instruction_11 (by decide) ?_
    exact qri K hr hlk hw (by rw [if_neg (by omega), h1]; rfl) (by rw [h1]; rfl) d_R_instruction_13

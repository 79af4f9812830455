set_option maxHeartbeats 4000000 in
set_option maxRecDepth 100000 in
theorem r_decimal {σ : z_St} (l : Launch) (D : va_G) (cI : ClassId) (a : qAd) (hO : z_Ok σ) : qCv l y_R_decimal w_R_decimal 1 22 D cI a [.ref a.1] σ (z_A7 (z_dd σ (z_x_reg σ 7)) (z_dv σ (z_x_reg σ 7))) := by
  refine qcv_of (cc := b_R_decimal) (maxL := 6) (ret := none) (by decide) rfl (Nat.le_of_ble_eq_true rfl) ?_
  intro p e s m below meth c ls K hr hlk hl hw
  have K : CallFix p m c b_R_decimal 6 s _ (_ :: T0) "PortProcessorModel" := K
  have hl : lv_has ls 6 [(0, .ref a.1)] := hl
  refine lv_aload_n K.1 K.2.1 d_R_decimal_0 rfl (lv_at hl 0 rfl) ?_
  refine qg_reg K hw d_R_decimal_1 ?_
  refine nv_bipush (v := 7) K d_R_decimal_4 (by decide) ?_
  refine ql_reg (i := 7) (v := z_x_reg σ 7) K hw (by omega) rfl d_R_decimal_6 ?_
  have hb1 : z_x_reg σ 7 < 256 := z_k_reg hO _
  refine lv_istore_n (lv' := [(1, .int (nI (z_x_reg σ 7))), (0, .ref a.1)]) K.1 K.2.1 d_R_decimal_7 rfl hl (by decide) rfl (fun ls hl => ?_)
  refine lv_iload_n K.1 K.2.1 d_R_decimal_8 rfl (lv_at hl 0 rfl) ?_
  refine nv_bipush (v := 16) K d_R_decimal_9 (by decide) ?_
  refine nv_irem K (by omega) (by omega) (by omega) d_R_decimal_11 ?_
  refine nv_bipush (v := 9) K d_R_decimal_12 (by decide) ?_
  refine nv_icmp_gt K (by omega) (by omega) d_R_decimal_14 rfl (fun h2 => ?_) (fun h2 => ?_)
  · refine nv_iconst (v := 1) K d_R_decimal_25 (by decide) ?_
    refine lv_goto K.1 K.2.1 d_R_decimal_26 rfl ?_
    refine lv_istore_n (lv' := [(2, .int (nI 1)), (1, .int (nI (z_x_reg σ 7))), (0, .ref a.1)]) K.1 K.2.1 d_R_decimal_30 rfl hl (by decide) rfl (fun ls hl => ?_)
    refine lv_iload_n K.1 K.2.1 d_R_decimal_31 rfl (lv_at hl 1 rfl) ?_
    refine nv_bipush (v := 16) K d_R_decimal_32 (by decide) ?_
    refine nv_irem K (by omega) (by omega) (by omega) d_R_decimal_34 ?_
    refine nv_bipush (v := 9) K d_R_decimal_35 (by decide) ?_
    refine nf_icmp_le (u := 0) (v := 1) (Y := 45) K (by omega) (by omega) d_R_decimal_37 rfl (fun _ k => nv_iconst (v := 0) K d_R_decimal_44 (by decide) k) (fun _ k => nv_iconst (v := 1) K d_R_decimal_40 (by decide) (lv_goto K.1 K.2.1 d_R_decimal_41 rfl k)) ?_
    have hb3 : (if ((z_x_reg σ 7) % 16) ≤ 9 then 0 else 1) < 2 := z_ite_ltB _ (by omega) (by omega)
    refine lv_istore_n (lv' := [(3, .int (nI (if ((z_x_reg σ 7) % 16) ≤ 9 then 0 else 1))), (2, .int (nI 1)), (1, .int (nI (z_x_reg σ 7))), (0, .ref a.1)]) K.1 K.2.1 d_R_decimal_45 rfl hl (by decide) rfl (fun ls hl => ?_)
    refine lv_iload_n K.1 K.2.1 d_R_decimal_46 rfl (lv_at hl 1 rfl) ?_
    refine nv_if_eq K (by omega) d_R_decimal_47 rfl (fun h => (by omega : False).elim) (fun _ => ?_)
    refine lv_iload_n K.1 K.2.1 d_R_decimal_50 rfl (lv_at hl 2 rfl) ?_
    refine nv_bipush (v := 6) K d_R_decimal_51 (by decide) ?_
    refine nv_iadd K d_R_decimal_53 ?_
    refine lv_goto K.1 K.2.1 d_R_decimal_54 rfl ?_
    refine lv_istore (lv' := [(4, .int (nI ((z_x_reg σ 7) + 6))), (3, .int (nI (if ((z_x_reg σ 7) % 16) ≤ 9 then 0 else 1))), (2, .int (nI 1)), (1, .int (nI (z_x_reg σ 7))), (0, .ref a.1)]) K.1 K.2.1 d_R_decimal_58 hl (by decide) rfl (fun ls hl => ?_)
    refine lv_iload K.1 K.2.1 d_R_decimal_60 (lv_at hl 0 rfl) ?_
    refine nv_sipush (v := 159) K d_R_decimal_62 (by decide) ?_
    refine nv_icmp_gt K (by omega) (by omega) d_R_decimal_65 rfl (fun h4 => ?_) (fun h4 => ?_)
    · refine nv_iconst (v := 1) K d_R_decimal_76 (by decide) ?_
      refine lv_goto K.1 K.2.1 d_R_decimal_77 rfl ?_
      refine lv_istore (lv' := [(5, .int (nI 1)), (4, .int (nI ((z_x_reg σ 7) + 6))), (3, .int (nI (if ((z_x_reg σ 7) % 16) ≤ 9 then 0 else 1))), (2, .int (nI 1)), (1, .int (nI (z_x_reg σ 7))), (0, .ref a.1)]) K.1 K.2.1 d_R_decimal_81 hl (by decide) rfl (fun ls hl => ?_)
      refine lv_iload K.1 K.2.1 d_R_decimal_83 (lv_at hl 0 rfl) ?_
      refine nv_if_eq K (by omega) d_R_decimal_85 rfl (fun h => (by omega : False).elim) (fun _ => ?_)
      refine lv_iload K.1 K.2.1 d_R_decimal_88 (lv_at hl 1 rfl) ?_
      refine nv_bipush (v := 96) K d_R_decimal_90 (by decide) ?_
      refine nv_iadd K d_R_decimal_92 ?_
      refine lv_goto K.1 K.2.1 d_R_decimal_93 rfl ?_
      refine lv_istore (lv' := [(4, .int (nI (((z_x_reg σ 7) + 6) + 96))), (5, .int (nI 1)), (3, .int (nI (if ((z_x_reg σ 7) % 16) ≤ 9 then 0 else 1))), (2, .int (nI 1)), (1, .int (nI (z_x_reg σ 7))), (0, .ref a.1)]) K.1 K.2.1 d_R_decimal_98 hl (by decide) rfl (fun ls hl => ?_)
      refine lv_aload_n K.1 K.2.1 d_R_decimal_100 rfl (lv_at hl 5 rfl) ?_
      refine qg_reg K hw d_R_decimal_101 ?_
      refine nv_bipush (v := 7) K d_R_decimal_104 (by decide) ?_
      refine lv_iload K.1 K.2.1 d_R_decimal_106 (lv_at hl 0 rfl) ?_
      refine nv_sipush (v := 256) K d_R_decimal_108 (by decide) ?_
      refine nv_irem K (by omega) (by omega) (by omega) d_R_decimal_111 ?_
      refine qs_reg (i := 7) (v := (((z_x_reg σ 7) + 6) + 96) % 256) K hw (by omega) d_R_decimal_112 (fun H locs hw => ?_)
      have hO5 : z_Ok (z_s_reg σ (z_fs (z_x_reg σ) 7 ((((z_x_reg σ 7) + 6) + 96) % 256))) := z_ok_reg hO (z_fs_lt (z_k_reg hO) (by omega))
      refine lv_aload_n K.1 K.2.1 d_R_decimal_113 rfl (lv_at hl 5 rfl) ?_
      refine lv_aload_n K.1 K.2.1 d_R_decimal_114 rfl (lv_at hl 5 rfl) ?_
      refine qg_reg K hw d_R_decimal_115 ?_
      refine nv_bipush (v := 7) K d_R_decimal_118 (by decide) ?_
      refine ql_reg (i := 7) (v := (((z_x_reg σ 7) + 6) + 96) % 256) K hw (by omega) rfl d_R_decimal_120 ?_
      have hb6 : (((z_x_reg σ 7) + 6) + 96) % 256 < 256 := by omega
      refine qkv K (r_show (σ := z_s_reg σ (z_fs (z_x_reg σ) 7 ((((z_x_reg σ 7) + 6) + 96) % 256))) (v := (((z_x_reg σ 7) + 6) + 96) % 256) l D cI a hO5 (by omega)) (cw_R_67 K (Nat.le_of_ble_eq_true rfl) (Nat.le_of_ble_eq_true rfl)) hw (va_recv (ci := 3) (q0 := 0) hw.2.2.2.1 hw.1 rfl rfl) rfl hl.1 rfl (Nat.le_of_ble_eq_true rfl) d_R_decimal_121 ⟨Nat.zero_le _, Nat.zero_le _⟩ (fun H locs hw => ?_)
      have hO7 : z_Ok (z_jd (z_s_reg σ (z_fs (z_x_reg σ) 7 ((((z_x_reg σ 7) + 6) + 96) % 256))) ((((z_x_reg σ 7) + 6) + 96) % 256)) := z_ok_jd hO5 (by omega)
      refine lv_aload_n K.1 K.2.1 d_R_decimal_124 rfl (lv_at hl 5 rfl) ?_
      refine lv_iload_n K.1 K.2.1 d_R_decimal_125 rfl (lv_at hl 3 rfl) ?_
      refine nv_if_eq K (by omega) d_R_decimal_126 rfl (fun h => (by omega : False).elim) (fun _ => ?_)
      refine lv_iload_n K.1 K.2.1 d_R_decimal_129 rfl (lv_at hl 2 rfl) ?_
      refine lv_goto K.1 K.2.1 d_R_decimal_130 rfl ?_
      refine qp_half (v := (if ((z_x_reg σ 7) % 16) ≤ 9 then 0 else 1)) K hw d_R_decimal_134 (fun H locs hw => ?_)
      have hO8 : z_Ok (z_s_au (z_jd (z_s_reg σ (z_fs (z_x_reg σ) 7 ((((z_x_reg σ 7) + 6) + 96) % 256))) ((((z_x_reg σ 7) + 6) + 96) % 256)) (if ((z_x_reg σ 7) % 16) ≤ 9 then 0 else 1)) := z_ok_au hO7 (by omega)
      refine lv_aload_n K.1 K.2.1 d_R_decimal_137 rfl (lv_at hl 5 rfl) ?_
      refine lv_iload K.1 K.2.1 d_R_decimal_138 (lv_at hl 1 rfl) ?_
      refine nv_if_eq K (by omega) d_R_decimal_140 rfl (fun h => (by omega : False).elim) (fun _ => ?_)
      refine nv_iconst (v := 1) K d_R_decimal_143 (by decide) ?_
      refine lv_goto K.1 K.2.1 d_R_decimal_144 rfl ?_
      refine qp_c (v := 1) K hw d_R_decimal_148 (fun H locs hw => ?_)
      have hO9 : z_Ok (z_s_ca (z_s_au (z_jd (z_s_reg σ (z_fs (z_x_reg σ) 7 ((((z_x_reg σ 7) + 6) + 96) % 256))) ((((z_x_reg σ 7) + 6) + 96) % 256)) (if ((z_x_reg σ 7) % 16) ≤ 9 then 0 else 1)) 1) := z_ok_ca hO8 (by omega)
      exact qrv K hr hlk hw (by exact dec_of (by first | (rw [if_pos (by omega)]; done) | (rw [if_neg (by omega)]; done) | (split <;> split <;> omega) | (split <;> omega)) (dh_of (by unfold z_d6; first | (rw [if_pos (by omega)]; done) | (rw [if_neg (by omega)]; done)) (by omega)) (dv_of (by unfold z_d6; first | (rw [if_pos (by omega)]; done) | (rw [if_neg (by omega)]; done)) (by omega))) d_R_decimal_151
    · refine lv_aload_n K.1 K.2.1 d_R_decimal_68 rfl (lv_at hl 4 rfl) ?_
      refine qg_c (v := z_x_ca σ) K hw rfl d_R_decimal_69 ?_
      have hb10 : z_x_ca σ < 2 := z_k_ca hO
      refine nv_iconst (v := 1) K d_R_decimal_72 (by decide) ?_
      refine nv_icmp_ne K (by omega) (by omega) d_R_decimal_73 rfl (fun h11 => ?_) (fun h11 => ?_)
      · refine nv_iconst (v := 0) K d_R_decimal_80 (by decide) ?_
        refine lv_istore (lv' := [(5, .int (nI 0)), (4, .int (nI ((z_x_reg σ 7) + 6))), (3, .int (nI (if ((z_x_reg σ 7) % 16) ≤ 9 then 0 else 1))), (2, .int (nI 1)), (1, .int (nI (z_x_reg σ 7))), (0, .ref a.1)]) K.1 K.2.1 d_R_decimal_81 hl (by decide) rfl (fun ls hl => ?_)
        refine lv_iload K.1 K.2.1 d_R_decimal_83 (lv_at hl 0 rfl) ?_
        refine nv_if_eq K (by omega) d_R_decimal_85 rfl (fun _ => ?_) (fun h => (by omega : False).elim)
        refine lv_iload K.1 K.2.1 d_R_decimal_96 (lv_at hl 1 rfl) ?_
        refine lv_istore (lv' := [(4, .int (nI ((z_x_reg σ 7) + 6))), (5, .int (nI 0)), (3, .int (nI (if ((z_x_reg σ 7) % 16) ≤ 9 then 0 else 1))), (2, .int (nI 1)), (1, .int (nI (z_x_reg σ 7))), (0, .ref a.1)]) K.1 K.2.1 d_R_decimal_98 hl (by decide) rfl (fun ls hl => ?_)
        refine lv_aload_n K.1 K.2.1 d_R_decimal_100 rfl (lv_at hl 5 rfl) ?_
        refine qg_reg K hw d_R_decimal_101 ?_
        refine nv_bipush (v := 7) K d_R_decimal_104 (by decide) ?_
        refine lv_iload K.1 K.2.1 d_R_decimal_106 (lv_at hl 0 rfl) ?_
        refine nv_sipush (v := 256) K d_R_decimal_108 (by decide) ?_
        refine nv_irem K (by omega) (by omega) (by omega) d_R_decimal_111 ?_
        refine qs_reg (i := 7) (v := ((z_x_reg σ 7) + 6) % 256) K hw (by omega) d_R_decimal_112 (fun H locs hw => ?_)
        have hO12 : z_Ok (z_s_reg σ (z_fs (z_x_reg σ) 7 (((z_x_reg σ 7) + 6) % 256))) := z_ok_reg hO (z_fs_lt (z_k_reg hO) (by omega))
        refine lv_aload_n K.1 K.2.1 d_R_decimal_113 rfl (lv_at hl 5 rfl) ?_
        refine lv_aload_n K.1 K.2.1 d_R_decimal_114 rfl (lv_at hl 5 rfl) ?_
        refine qg_reg K hw d_R_decimal_115 ?_
        refine nv_bipush (v := 7) K d_R_decimal_118 (by decide) ?_
        refine ql_reg (i := 7) (v := ((z_x_reg σ 7) + 6) % 256) K hw (by omega) rfl d_R_decimal_120 ?_
        have hb13 : ((z_x_reg σ 7) + 6) % 256 < 256 := by omega
        refine qkv K (r_show (σ := z_s_reg σ (z_fs (z_x_reg σ) 7 (((z_x_reg σ 7) + 6) % 256))) (v := ((z_x_reg σ 7) + 6) % 256) l D cI a hO12 (by omega)) (cw_R_67 K (Nat.le_of_ble_eq_true rfl) (Nat.le_of_ble_eq_true rfl)) hw (va_recv (ci := 3) (q0 := 0) hw.2.2.2.1 hw.1 rfl rfl) rfl hl.1 rfl (Nat.le_of_ble_eq_true rfl) d_R_decimal_121 ⟨Nat.zero_le _, Nat.zero_le _⟩ (fun H locs hw => ?_)
        have hO14 : z_Ok (z_jd (z_s_reg σ (z_fs (z_x_reg σ) 7 (((z_x_reg σ 7) + 6) % 256))) (((z_x_reg σ 7) + 6) % 256)) := z_ok_jd hO12 (by omega)
        refine lv_aload_n K.1 K.2.1 d_R_decimal_124 rfl (lv_at hl 5 rfl) ?_
        refine lv_iload_n K.1 K.2.1 d_R_decimal_125 rfl (lv_at hl 3 rfl) ?_
        refine nv_if_eq K (by omega) d_R_decimal_126 rfl (fun h => (by omega : False).elim) (fun _ => ?_)
        refine lv_iload_n K.1 K.2.1 d_R_decimal_129 rfl (lv_at hl 2 rfl) ?_
        refine lv_goto K.1 K.2.1 d_R_decimal_130 rfl ?_
        refine qp_half (v := (if ((z_x_reg σ 7) % 16) ≤ 9 then 0 else 1)) K hw d_R_decimal_134 (fun H locs hw => ?_)
        have hO15 : z_Ok (z_s_au (z_jd (z_s_reg σ (z_fs (z_x_reg σ) 7 (((z_x_reg σ 7) + 6) % 256))) (((z_x_reg σ 7) + 6) % 256)) (if ((z_x_reg σ 7) % 16) ≤ 9 then 0 else 1)) := z_ok_au hO14 (by omega)
        refine lv_aload_n K.1 K.2.1 d_R_decimal_137 rfl (lv_at hl 5 rfl) ?_
        refine lv_iload K.1 K.2.1 d_R_decimal_138 (lv_at hl 1 rfl) ?_
        refine nv_if_eq K (by omega) d_R_decimal_140 rfl (fun _ => ?_) (fun h => (by omega : False).elim)
        refine nv_iconst (v := 0) K d_R_decimal_147 (by decide) ?_
        refine qp_c (v := 0) K hw d_R_decimal_148 (fun H locs hw => ?_)
        have hO16 : z_Ok (z_s_ca (z_s_au (z_jd (z_s_reg σ (z_fs (z_x_reg σ) 7 (((z_x_reg σ 7) + 6) % 256))) (((z_x_reg σ 7) + 6) % 256)) (if ((z_x_reg σ 7) % 16) ≤ 9 then 0 else 1)) 0) := z_ok_ca hO15 (by omega)
        exact qrv K hr hlk hw (by exact dec_of (by first | (rw [if_pos (by omega)]; done) | (rw [if_neg (by omega)]; done) | (split <;> split <;> omega) | (split <;> omega)) (dh_of0 (by unfold z_d6; first | (rw [if_pos (by omega)]; done) | (rw [if_neg (by omega)]; done)) (by omega)) (dv_of0 (by unfold z_d6; first | (rw [if_pos (by omega)]; done) | (rw [if_neg (by omega)]; done)) (by omega))) d_R_decimal_151
      · refine nv_iconst (v := 1) K d_R_decimal_76 (by decide) ?_
        refine lv_goto K.1 K.2.1 d_R_decimal_77 rfl ?_
        refine lv_istore (lv' := [(5, .int (nI 1)), (4, .int (nI ((z_x_reg σ 7) + 6))), (3, .int (nI (if ((z_x_reg σ 7) % 16) ≤ 9 then 0 else 1))), (2, .int (nI 1)), (1, .int (nI (z_x_reg σ 7))), (0, .ref a.1)]) K.1 K.2.1 d_R_decimal_81 hl (by decide) rfl (fun ls hl => ?_)
        refine lv_iload K.1 K.2.1 d_R_decimal_83 (lv_at hl 0 rfl) ?_
        refine nv_if_eq K (by omega) d_R_decimal_85 rfl (fun h => (by omega : False).elim) (fun _ => ?_)
        refine lv_iload K.1 K.2.1 d_R_decimal_88 (lv_at hl 1 rfl) ?_
        refine nv_bipush (v := 96) K d_R_decimal_90 (by decide) ?_
        refine nv_iadd K d_R_decimal_92 ?_
        refine lv_goto K.1 K.2.1 d_R_decimal_93 rfl ?_
        refine lv_istore (lv' := [(4, .int (nI (((z_x_reg σ 7) + 6) + 96))), (5, .int (nI 1)), (3, .int (nI (if ((z_x_reg σ 7) % 16) ≤ 9 then 0 else 1))), (2, .int (nI 1)), (1, .int (nI (z_x_reg σ 7))), (0, .ref a.1)]) K.1 K.2.1 d_R_decimal_98 hl (by decide) rfl (fun ls hl => ?_)
        refine lv_aload_n K.1 K.2.1 d_R_decimal_100 rfl (lv_at hl 5 rfl) ?_
        refine qg_reg K hw d_R_decimal_101 ?_
        refine nv_bipush (v := 7) K d_R_decimal_104 (by decide) ?_
        refine lv_iload K.1 K.2.1 d_R_decimal_106 (lv_at hl 0 rfl) ?_
        refine nv_sipush (v := 256) K d_R_decimal_108 (by decide) ?_
        refine nv_irem K (by omega) (by omega) (by omega) d_R_decimal_111 ?_
        refine qs_reg (i := 7) (v := (((z_x_reg σ 7) + 6) + 96) % 256) K hw (by omega) d_R_decimal_112 (fun H locs hw => ?_)
        have hO17 : z_Ok (z_s_reg σ (z_fs (z_x_reg σ) 7 ((((z_x_reg σ 7) + 6) + 96) % 256))) := z_ok_reg hO (z_fs_lt (z_k_reg hO) (by omega))
        refine lv_aload_n K.1 K.2.1 d_R_decimal_113 rfl (lv_at hl 5 rfl) ?_
        refine lv_aload_n K.1 K.2.1 d_R_decimal_114 rfl (lv_at hl 5 rfl) ?_
        refine qg_reg K hw d_R_decimal_115 ?_
        refine nv_bipush (v := 7) K d_R_decimal_118 (by decide) ?_
        refine ql_reg (i := 7) (v := (((z_x_reg σ 7) + 6) + 96) % 256) K hw (by omega) rfl d_R_decimal_120 ?_
        have hb18 : (((z_x_reg σ 7) + 6) + 96) % 256 < 256 := by omega
        refine qkv K (r_show (σ := z_s_reg σ (z_fs (z_x_reg σ) 7 ((((z_x_reg σ 7) + 6) + 96) % 256))) (v := (((z_x_reg σ 7) + 6) + 96) % 256) l D cI a hO17 (by omega)) (cw_R_67 K (Nat.le_of_ble_eq_true rfl) (Nat.le_of_ble_eq_true rfl)) hw (va_recv (ci := 3) (q0 := 0) hw.2.2.2.1 hw.1 rfl rfl) rfl hl.1 rfl (Nat.le_of_ble_eq_true rfl) d_R_decimal_121 ⟨Nat.zero_le _, Nat.zero_le _⟩ (fun H locs hw => ?_)
        have hO19 : z_Ok (z_jd (z_s_reg σ (z_fs (z_x_reg σ) 7 ((((z_x_reg σ 7) + 6) + 96) % 256))) ((((z_x_reg σ 7) + 6) + 96) % 256)) := z_ok_jd hO17 (by omega)
        refine lv_aload_n K.1 K.2.1 d_R_decimal_124 rfl (lv_at hl 5 rfl) ?_
        refine lv_iload_n K.1 K.2.1 d_R_decimal_125 rfl (lv_at hl 3 rfl) ?_
        refine nv_if_eq K (by omega) d_R_decimal_126 rfl (fun h => (by omega : False).elim) (fun _ => ?_)
        refine lv_iload_n K.1 K.2.1 d_R_decimal_129 rfl (lv_at hl 2 rfl) ?_
        refine lv_goto K.1 K.2.1 d_R_decimal_130 rfl ?_
        refine qp_half (v := (if ((z_x_reg σ 7) % 16) ≤ 9 then 0 else 1)) K hw d_R_decimal_134 (fun H locs hw => ?_)
        have hO20 : z_Ok (z_s_au (z_jd (z_s_reg σ (z_fs (z_x_reg σ) 7 ((((z_x_reg σ 7) + 6) + 96) % 256))) ((((z_x_reg σ 7) + 6) + 96) % 256)) (if ((z_x_reg σ 7) % 16) ≤ 9 then 0 else 1)) := z_ok_au hO19 (by omega)
        refine lv_aload_n K.1 K.2.1 d_R_decimal_137 rfl (lv_at hl 5 rfl) ?_
        refine lv_iload K.1 K.2.1 d_R_decimal_138 (lv_at hl 1 rfl) ?_
        refine nv_if_eq K (by omega) d_R_decimal_140 rfl (fun h => (by omega : False).elim) (fun _ => ?_)
        refine nv_iconst (v := 1) K d_R_decimal_143 (by decide) ?_
        refine lv_goto K.1 K.2.1 d_R_decimal_144 rfl ?_
        refine qp_c (v := 1) K hw d_R_decimal_148 (fun H locs hw => ?_)
        have hO21 : z_Ok (z_s_ca (z_s_au (z_jd (z_s_reg σ (z_fs (z_x_reg σ) 7 ((((z_x_reg σ 7) + 6) + 96) % 256))) ((((z_x_reg σ 7) + 6) + 96) % 256)) (if ((z_x_reg σ 7) % 16) ≤ 9 then 0 else 1)) 1) := z_ok_ca hO20 (by omega)
        exact qrv K hr hlk hw (by exact dec_of (by first | (rw [if_pos (by omega)]; done) | (rw [if_neg (by omega)]; done) | (split <;> split <;> omega) | (split <;> omega)) (dh_of (by unfold z_d6; first | (rw [if_pos (by omega)]; done) | (rw [if_neg (by omega)]; done)) (by omega)) (dv_of (by unfold z_d6; first | (rw [if_pos (by omega)]; done) | (rw [if_neg (by omega)]; done)) (by omega))) d_R_decimal_151
  · refine lv_aload_n K.1 K.2.1 d_R_decimal_17 rfl (lv_at hl 1 rfl) ?_
    refine qg_half (v := z_x_au σ) K hw rfl d_R_decimal_18 ?_
    have hb22 : z_x_au σ < 2 := z_k_au hO
    refine nv_iconst (v := 1) K d_R_decimal_21 (by decide) ?_
    refine nv_icmp_ne K (by omega) (by omega) d_R_decimal_22 rfl (fun h23 => ?_) (fun h23 => ?_)
    · refine nv_iconst (v := 0) K d_R_decimal_29 (by decide) ?_
      refine lv_istore_n (lv' := [(2, .int (nI 0)), (1, .int (nI (z_x_reg σ 7))), (0, .ref a.1)]) K.1 K.2.1 d_R_decimal_30 rfl hl (by decide) rfl (fun ls hl => ?_)
      refine lv_iload_n K.1 K.2.1 d_R_decimal_31 rfl (lv_at hl 1 rfl) ?_
      refine nv_bipush (v := 16) K d_R_decimal_32 (by decide) ?_
      refine nv_irem K (by omega) (by omega) (by omega) d_R_decimal_34 ?_
      refine nv_bipush (v := 9) K d_R_decimal_35 (by decide) ?_
      refine nf_icmp_le (u := 0) (v := 1) (Y := 45) K (by omega) (by omega) d_R_decimal_37 rfl (fun _ k => nv_iconst (v := 0) K d_R_decimal_44 (by decide) k) (fun _ k => nv_iconst (v := 1) K d_R_decimal_40 (by decide) (lv_goto K.1 K.2.1 d_R_decimal_41 rfl k)) ?_
      have hb24 : (if ((z_x_reg σ 7) % 16) ≤ 9 then 0 else 1) < 2 := z_ite_ltB _ (by omega) (by omega)
      refine lv_istore_n (lv' := [(3, .int (nI (if ((z_x_reg σ 7) % 16) ≤ 9 then 0 else 1))), (2, .int (nI 0)), (1, .int (nI (z_x_reg σ 7))), (0, .ref a.1)]) K.1 K.2.1 d_R_decimal_45 rfl hl (by decide) rfl (fun ls hl => ?_)
      refine lv_iload_n K.1 K.2.1 d_R_decimal_46 rfl (lv_at hl 1 rfl) ?_
      refine nv_if_eq K (by omega) d_R_decimal_47 rfl (fun _ => ?_) (fun h => (by omega : False).elim)
      refine lv_iload_n K.1 K.2.1 d_R_decimal_57 rfl (lv_at hl 2 rfl) ?_
      refine lv_istore (lv' := [(4, .int (nI (z_x_reg σ 7))), (3, .int (nI (if ((z_x_reg σ 7) % 16) ≤ 9 then 0 else 1))), (2, .int (nI 0)), (1, .int (nI (z_x_reg σ 7))), (0, .ref a.1)]) K.1 K.2.1 d_R_decimal_58 hl (by decide) rfl (fun ls hl => ?_)
      refine lv_iload K.1 K.2.1 d_R_decimal_60 (lv_at hl 0 rfl) ?_
      refine nv_sipush (v := 159) K d_R_decimal_62 (by decide) ?_
      refine nv_icmp_gt K (by omega) (by omega) d_R_decimal_65 rfl (fun h25 => ?_) (fun h25 => ?_)
      · refine nv_iconst (v := 1) K d_R_decimal_76 (by decide) ?_
        refine lv_goto K.1 K.2.1 d_R_decimal_77 rfl ?_
        refine lv_istore (lv' := [(5, .int (nI 1)), (4, .int (nI (z_x_reg σ 7))), (3, .int (nI (if ((z_x_reg σ 7) % 16) ≤ 9 then 0 else 1))), (2, .int (nI 0)), (1, .int (nI (z_x_reg σ 7))), (0, .ref a.1)]) K.1 K.2.1 d_R_decimal_81 hl (by decide) rfl (fun ls hl => ?_)
        refine lv_iload K.1 K.2.1 d_R_decimal_83 (lv_at hl 0 rfl) ?_
        refine nv_if_eq K (by omega) d_R_decimal_85 rfl (fun h => (by omega : False).elim) (fun _ => ?_)
        refine lv_iload K.1 K.2.1 d_R_decimal_88 (lv_at hl 1 rfl) ?_
        refine nv_bipush (v := 96) K d_R_decimal_90 (by decide) ?_
        refine nv_iadd K d_R_decimal_92 ?_
        refine lv_goto K.1 K.2.1 d_R_decimal_93 rfl ?_
        refine lv_istore (lv' := [(4, .int (nI ((z_x_reg σ 7) + 96))), (5, .int (nI 1)), (3, .int (nI (if ((z_x_reg σ 7) % 16) ≤ 9 then 0 else 1))), (2, .int (nI 0)), (1, .int (nI (z_x_reg σ 7))), (0, .ref a.1)]) K.1 K.2.1 d_R_decimal_98 hl (by decide) rfl (fun ls hl => ?_)
        refine lv_aload_n K.1 K.2.1 d_R_decimal_100 rfl (lv_at hl 5 rfl) ?_
        refine qg_reg K hw d_R_decimal_101 ?_
        refine nv_bipush (v := 7) K d_R_decimal_104 (by decide) ?_
        refine lv_iload K.1 K.2.1 d_R_decimal_106 (lv_at hl 0 rfl) ?_
        refine nv_sipush (v := 256) K d_R_decimal_108 (by decide) ?_
        refine nv_irem K (by omega) (by omega) (by omega) d_R_decimal_111 ?_
        refine qs_reg (i := 7) (v := ((z_x_reg σ 7) + 96) % 256) K hw (by omega) d_R_decimal_112 (fun H locs hw => ?_)
        have hO26 : z_Ok (z_s_reg σ (z_fs (z_x_reg σ) 7 (((z_x_reg σ 7) + 96) % 256))) := z_ok_reg hO (z_fs_lt (z_k_reg hO) (by omega))
        refine lv_aload_n K.1 K.2.1 d_R_decimal_113 rfl (lv_at hl 5 rfl) ?_
        refine lv_aload_n K.1 K.2.1 d_R_decimal_114 rfl (lv_at hl 5 rfl) ?_
        refine qg_reg K hw d_R_decimal_115 ?_
        refine nv_bipush (v := 7) K d_R_decimal_118 (by decide) ?_
        refine ql_reg (i := 7) (v := ((z_x_reg σ 7) + 96) % 256) K hw (by omega) rfl d_R_decimal_120 ?_
        have hb27 : ((z_x_reg σ 7) + 96) % 256 < 256 := by omega
        refine qkv K (r_show (σ := z_s_reg σ (z_fs (z_x_reg σ) 7 (((z_x_reg σ 7) + 96) % 256))) (v := ((z_x_reg σ 7) + 96) % 256) l D cI a hO26 (by omega)) (cw_R_67 K (Nat.le_of_ble_eq_true rfl) (Nat.le_of_ble_eq_true rfl)) hw (va_recv (ci := 3) (q0 := 0) hw.2.2.2.1 hw.1 rfl rfl) rfl hl.1 rfl (Nat.le_of_ble_eq_true rfl) d_R_decimal_121 ⟨Nat.zero_le _, Nat.zero_le _⟩ (fun H locs hw => ?_)
        have hO28 : z_Ok (z_jd (z_s_reg σ (z_fs (z_x_reg σ) 7 (((z_x_reg σ 7) + 96) % 256))) (((z_x_reg σ 7) + 96) % 256)) := z_ok_jd hO26 (by omega)
        refine lv_aload_n K.1 K.2.1 d_R_decimal_124 rfl (lv_at hl 5 rfl) ?_
        refine lv_iload_n K.1 K.2.1 d_R_decimal_125 rfl (lv_at hl 3 rfl) ?_
        refine nv_if_eq K (by omega) d_R_decimal_126 rfl (fun _ => ?_) (fun h => (by omega : False).elim)
        refine nv_iconst (v := 0) K d_R_decimal_133 (by decide) ?_
        refine qp_half (v := 0) K hw d_R_decimal_134 (fun H locs hw => ?_)
        have hO29 : z_Ok (z_s_au (z_jd (z_s_reg σ (z_fs (z_x_reg σ) 7 (((z_x_reg σ 7) + 96) % 256))) (((z_x_reg σ 7) + 96) % 256)) 0) := z_ok_au hO28 (by omega)
        refine lv_aload_n K.1 K.2.1 d_R_decimal_137 rfl (lv_at hl 5 rfl) ?_
        refine lv_iload K.1 K.2.1 d_R_decimal_138 (lv_at hl 1 rfl) ?_
        refine nv_if_eq K (by omega) d_R_decimal_140 rfl (fun h => (by omega : False).elim) (fun _ => ?_)
        refine nv_iconst (v := 1) K d_R_decimal_143 (by decide) ?_
        refine lv_goto K.1 K.2.1 d_R_decimal_144 rfl ?_
        refine qp_c (v := 1) K hw d_R_decimal_148 (fun H locs hw => ?_)
        have hO30 : z_Ok (z_s_ca (z_s_au (z_jd (z_s_reg σ (z_fs (z_x_reg σ) 7 (((z_x_reg σ 7) + 96) % 256))) (((z_x_reg σ 7) + 96) % 256)) 0) 1) := z_ok_ca hO29 (by omega)
        exact qrv K hr hlk hw (by exact dec_of (by first | (rw [if_pos (by omega)]; done) | (rw [if_neg (by omega)]; done) | (split <;> split <;> omega) | (split <;> omega)) (dh_of (by unfold z_d6; first | (rw [if_pos (by omega)]; done) | (rw [if_neg (by omega)]; done)) (by omega)) (dv_of (by unfold z_d6; first | (rw [if_pos (by omega)]; done) | (rw [if_neg (by omega)]; done)) (by omega))) d_R_decimal_151
      · refine lv_aload_n K.1 K.2.1 d_R_decimal_68 rfl (lv_at hl 4 rfl) ?_
        refine qg_c (v := z_x_ca σ) K hw rfl d_R_decimal_69 ?_
        have hb31 : z_x_ca σ < 2 := z_k_ca hO
        refine nv_iconst (v := 1) K d_R_decimal_72 (by decide) ?_
        refine nv_icmp_ne K (by omega) (by omega) d_R_decimal_73 rfl (fun h32 => ?_) (fun h32 => ?_)
        · refine nv_iconst (v := 0) K d_R_decimal_80 (by decide) ?_
          refine lv_istore (lv' := [(5, .int (nI 0)), (4, .int (nI (z_x_reg σ 7))), (3, .int (nI (if ((z_x_reg σ 7) % 16) ≤ 9 then 0 else 1))), (2, .int (nI 0)), (1, .int (nI (z_x_reg σ 7))), (0, .ref a.1)]) K.1 K.2.1 d_R_decimal_81 hl (by decide) rfl (fun ls hl => ?_)
          refine lv_iload K.1 K.2.1 d_R_decimal_83 (lv_at hl 0 rfl) ?_
          refine nv_if_eq K (by omega) d_R_decimal_85 rfl (fun _ => ?_) (fun h => (by omega : False).elim)
          refine lv_iload K.1 K.2.1 d_R_decimal_96 (lv_at hl 1 rfl) ?_
          refine lv_istore (lv' := [(4, .int (nI (z_x_reg σ 7))), (5, .int (nI 0)), (3, .int (nI (if ((z_x_reg σ 7) % 16) ≤ 9 then 0 else 1))), (2, .int (nI 0)), (1, .int (nI (z_x_reg σ 7))), (0, .ref a.1)]) K.1 K.2.1 d_R_decimal_98 hl (by decide) rfl (fun ls hl => ?_)
          refine lv_aload_n K.1 K.2.1 d_R_decimal_100 rfl (lv_at hl 5 rfl) ?_
          refine qg_reg K hw d_R_decimal_101 ?_
          refine nv_bipush (v := 7) K d_R_decimal_104 (by decide) ?_
          refine lv_iload K.1 K.2.1 d_R_decimal_106 (lv_at hl 0 rfl) ?_
          refine nv_sipush (v := 256) K d_R_decimal_108 (by decide) ?_
          refine nv_irem K (by omega) (by omega) (by omega) d_R_decimal_111 ?_
          refine qs_reg (i := 7) (v := (z_x_reg σ 7) % 256) K hw (by omega) d_R_decimal_112 (fun H locs hw => ?_)
          have hO33 : z_Ok (z_s_reg σ (z_fs (z_x_reg σ) 7 ((z_x_reg σ 7) % 256))) := z_ok_reg hO (z_fs_lt (z_k_reg hO) (by omega))
          refine lv_aload_n K.1 K.2.1 d_R_decimal_113 rfl (lv_at hl 5 rfl) ?_
          refine lv_aload_n K.1 K.2.1 d_R_decimal_114 rfl (lv_at hl 5 rfl) ?_
          refine qg_reg K hw d_R_decimal_115 ?_
          refine nv_bipush (v := 7) K d_R_decimal_118 (by decide) ?_
          refine ql_reg (i := 7) (v := (z_x_reg σ 7) % 256) K hw (by omega) rfl d_R_decimal_120 ?_
          have hb34 : (z_x_reg σ 7) % 256 < 256 := by omega
          refine qkv K (r_show (σ := z_s_reg σ (z_fs (z_x_reg σ) 7 ((z_x_reg σ 7) % 256))) (v := (z_x_reg σ 7) % 256) l D cI a hO33 (by omega)) (cw_R_67 K (Nat.le_of_ble_eq_true rfl) (Nat.le_of_ble_eq_true rfl)) hw (va_recv (ci := 3) (q0 := 0) hw.2.2.2.1 hw.1 rfl rfl) rfl hl.1 rfl (Nat.le_of_ble_eq_true rfl) d_R_decimal_121 ⟨Nat.zero_le _, Nat.zero_le _⟩ (fun H locs hw => ?_)
          have hO35 : z_Ok (z_jd (z_s_reg σ (z_fs (z_x_reg σ) 7 ((z_x_reg σ 7) % 256))) ((z_x_reg σ 7) % 256)) := z_ok_jd hO33 (by omega)
          refine lv_aload_n K.1 K.2.1 d_R_decimal_124 rfl (lv_at hl 5 rfl) ?_
          refine lv_iload_n K.1 K.2.1 d_R_decimal_125 rfl (lv_at hl 3 rfl) ?_
          refine nv_if_eq K (by omega) d_R_decimal_126 rfl (fun _ => ?_) (fun h => (by omega : False).elim)
          refine nv_iconst (v := 0) K d_R_decimal_133 (by decide) ?_
          refine qp_half (v := 0) K hw d_R_decimal_134 (fun H locs hw => ?_)
          have hO36 : z_Ok (z_s_au (z_jd (z_s_reg σ (z_fs (z_x_reg σ) 7 ((z_x_reg σ 7) % 256))) ((z_x_reg σ 7) % 256)) 0) := z_ok_au hO35 (by omega)
          refine lv_aload_n K.1 K.2.1 d_R_decimal_137 rfl (lv_at hl 5 rfl) ?_
          refine lv_iload K.1 K.2.1 d_R_decimal_138 (lv_at hl 1 rfl) ?_
          refine nv_if_eq K (by omega) d_R_decimal_140 rfl (fun _ => ?_) (fun h => (by omega : False).elim)
          refine nv_iconst (v := 0) K d_R_decimal_147 (by decide) ?_
          refine qp_c (v := 0) K hw d_R_decimal_148 (fun H locs hw => ?_)
          have hO37 : z_Ok (z_s_ca (z_s_au (z_jd (z_s_reg σ (z_fs (z_x_reg σ) 7 ((z_x_reg σ 7) % 256))) ((z_x_reg σ 7) % 256)) 0) 0) := z_ok_ca hO36 (by omega)
          exact qrv K hr hlk hw (by exact dec_of (by first | (rw [if_pos (by omega)]; done) | (rw [if_neg (by omega)]; done) | (split <;> split <;> omega) | (split <;> omega)) (dh_of0 (by unfold z_d6; first | (rw [if_pos (by omega)]; done) | (rw [if_neg (by omega)]; done)) (by omega)) (dv_of0 (by unfold z_d6; first | (rw [if_pos (by omega)]; done) | (rw [if_neg (by omega)]; done)) (by omega))) d_R_decimal_151
        · refine nv_iconst (v := 1) K d_R_decimal_76 (by decide) ?_
          refine lv_goto K.1 K.2.1 d_R_decimal_77 rfl ?_
          refine lv_istore (lv' := [(5, .int (nI 1)), (4, .int (nI (z_x_reg σ 7))), (3, .int (nI (if ((z_x_reg σ 7) % 16) ≤ 9 then 0 else 1))), (2, .int (nI 0)), (1, .int (nI (z_x_reg σ 7))), (0, .ref a.1)]) K.1 K.2.1 d_R_decimal_81 hl (by decide) rfl (fun ls hl => ?_)
          refine lv_iload K.1 K.2.1 d_R_decimal_83 (lv_at hl 0 rfl) ?_
          refine nv_if_eq K (by omega) d_R_decimal_85 rfl (fun h => (by omega : False).elim) (fun _ => ?_)
          refine lv_iload K.1 K.2.1 d_R_decimal_88 (lv_at hl 1 rfl) ?_
          refine nv_bipush (v := 96) K d_R_decimal_90 (by decide) ?_
          refine nv_iadd K d_R_decimal_92 ?_
          refine lv_goto K.1 K.2.1 d_R_decimal_93 rfl ?_
          refine lv_istore (lv' := [(4, .int (nI ((z_x_reg σ 7) + 96))), (5, .int (nI 1)), (3, .int (nI (if ((z_x_reg σ 7) % 16) ≤ 9 then 0 else 1))), (2, .int (nI 0)), (1, .int (nI (z_x_reg σ 7))), (0, .ref a.1)]) K.1 K.2.1 d_R_decimal_98 hl (by decide) rfl (fun ls hl => ?_)
          refine lv_aload_n K.1 K.2.1 d_R_decimal_100 rfl (lv_at hl 5 rfl) ?_
          refine qg_reg K hw d_R_decimal_101 ?_
          refine nv_bipush (v := 7) K d_R_decimal_104 (by decide) ?_
          refine lv_iload K.1 K.2.1 d_R_decimal_106 (lv_at hl 0 rfl) ?_
          refine nv_sipush (v := 256) K d_R_decimal_108 (by decide) ?_
          refine nv_irem K (by omega) (by omega) (by omega) d_R_decimal_111 ?_
          refine qs_reg (i := 7) (v := ((z_x_reg σ 7) + 96) % 256) K hw (by omega) d_R_decimal_112 (fun H locs hw => ?_)
          have hO38 : z_Ok (z_s_reg σ (z_fs (z_x_reg σ) 7 (((z_x_reg σ 7) + 96) % 256))) := z_ok_reg hO (z_fs_lt (z_k_reg hO) (by omega))
          refine lv_aload_n K.1 K.2.1 d_R_decimal_113 rfl (lv_at hl 5 rfl) ?_
          refine lv_aload_n K.1 K.2.1 d_R_decimal_114 rfl (lv_at hl 5 rfl) ?_
          refine qg_reg K hw d_R_decimal_115 ?_
          refine nv_bipush (v := 7) K d_R_decimal_118 (by decide) ?_
          refine ql_reg (i := 7) (v := ((z_x_reg σ 7) + 96) % 256) K hw (by omega) rfl d_R_decimal_120 ?_
          have hb39 : ((z_x_reg σ 7) + 96) % 256 < 256 := by omega
          refine qkv K (r_show (σ := z_s_reg σ (z_fs (z_x_reg σ) 7 (((z_x_reg σ 7) + 96) % 256))) (v := ((z_x_reg σ 7) + 96) % 256) l D cI a hO38 (by omega)) (cw_R_67 K (Nat.le_of_ble_eq_true rfl) (Nat.le_of_ble_eq_true rfl)) hw (va_recv (ci := 3) (q0 := 0) hw.2.2.2.1 hw.1 rfl rfl) rfl hl.1 rfl (Nat.le_of_ble_eq_true rfl) d_R_decimal_121 ⟨Nat.zero_le _, Nat.zero_le _⟩ (fun H locs hw => ?_)
          have hO40 : z_Ok (z_jd (z_s_reg σ (z_fs (z_x_reg σ) 7 (((z_x_reg σ 7) + 96) % 256))) (((z_x_reg σ 7) + 96) % 256)) := z_ok_jd hO38 (by omega)
          refine lv_aload_n K.1 K.2.1 d_R_decimal_124 rfl (lv_at hl 5 rfl) ?_
          refine lv_iload_n K.1 K.2.1 d_R_decimal_125 rfl (lv_at hl 3 rfl) ?_
          refine nv_if_eq K (by omega) d_R_decimal_126 rfl (fun _ => ?_) (fun h => (by omega : False).elim)
          refine nv_iconst (v := 0) K d_R_decimal_133 (by decide) ?_
          refine qp_half (v := 0) K hw d_R_decimal_134 (fun H locs hw => ?_)
          have hO41 : z_Ok (z_s_au (z_jd (z_s_reg σ (z_fs (z_x_reg σ) 7 (((z_x_reg σ 7) + 96) % 256))) (((z_x_reg σ 7) + 96) % 256)) 0) := z_ok_au hO40 (by omega)
          refine lv_aload_n K.1 K.2.1 d_R_decimal_137 rfl (lv_at hl 5 rfl) ?_
          refine lv_iload K.1 K.2.1 d_R_decimal_138 (lv_at hl 1 rfl) ?_
          refine nv_if_eq K (by omega) d_R_decimal_140 rfl (fun h => (by omega : False).elim) (fun _ => ?_)
          refine nv_iconst (v := 1) K d_R_decimal_143 (by decide) ?_
          refine lv_goto K.1 K.2.1 d_R_decimal_144 rfl ?_
          refine qp_c (v := 1) K hw d_R_decimal_148 (fun H locs hw => ?_)
          have hO42 : z_Ok (z_s_ca (z_s_au (z_jd (z_s_reg σ (z_fs (z_x_reg σ) 7 (((z_x_reg σ 7) + 96) % 256))) (((z_x_reg σ 7) + 96) % 256)) 0) 1) := z_ok_ca hO41 (by omega)
          exact qrv K hr hlk hw (by exact dec_of (by first | (rw [if_pos (by omega)]; done) | (rw [if_neg (by omega)]; done) | (split <;> split <;> omega) | (split <;> omega)) (dh_of (by unfold z_d6; first | (rw [if_pos (by omega)]; done) | (rw [if_neg (by omega)]; done)) (by omega)) (dv_of (by unfold z_d6; first | (rw [if_pos (by omega)]; done) | (rw [if_neg (by omega)]; done)) (by omega))) d_R_decimal_151
    · refine nv_iconst (v := 1) K d_R_decimal_25 (by decide) ?_
      refine lv_goto K.1 K.2.1 d_R_decimal_26 rfl ?_
      refine lv_istore_n (lv' := [(2, .int (nI 1)), (1, .int (nI (z_x_reg σ 7))), (0, .ref a.1)]) K.1 K.2.1 d_R_decimal_30 rfl hl (by decide) rfl (fun ls hl => ?_)
      refine lv_iload_n K.1 K.2.1 d_R_decimal_31 rfl (lv_at hl 1 rfl) ?_
      refine nv_bipush (v := 16) K d_R_decimal_32 (by decide) ?_
      refine nv_irem K (by omega) (by omega) (by omega) d_R_decimal_34 ?_
      refine nv_bipush (v := 9) K d_R_decimal_35 (by decide) ?_
      refine nf_icmp_le (u := 0) (v := 1) (Y := 45) K (by omega) (by omega) d_R_decimal_37 rfl (fun _ k => nv_iconst (v := 0) K d_R_decimal_44 (by decide) k) (fun _ k => nv_iconst (v := 1) K d_R_decimal_40 (by decide) (lv_goto K.1 K.2.1 d_R_decimal_41 rfl k)) ?_
      have hb43 : (if ((z_x_reg σ 7) % 16) ≤ 9 then 0 else 1) < 2 := z_ite_ltB _ (by omega) (by omega)
      refine lv_istore_n (lv' := [(3, .int (nI (if ((z_x_reg σ 7) % 16) ≤ 9 then 0 else 1))), (2, .int (nI 1)), (1, .int (nI (z_x_reg σ 7))), (0, .ref a.1)]) K.1 K.2.1 d_R_decimal_45 rfl hl (by decide) rfl (fun ls hl => ?_)
      refine lv_iload_n K.1 K.2.1 d_R_decimal_46 rfl (lv_at hl 1 rfl) ?_
      refine nv_if_eq K (by omega) d_R_decimal_47 rfl (fun h => (by omega : False).elim) (fun _ => ?_)
      refine lv_iload_n K.1 K.2.1 d_R_decimal_50 rfl (lv_at hl 2 rfl) ?_
      refine nv_bipush (v := 6) K d_R_decimal_51 (by decide) ?_
      refine nv_iadd K d_R_decimal_53 ?_
      refine lv_goto K.1 K.2.1 d_R_decimal_54 rfl ?_
      refine lv_istore (lv' := [(4, .int (nI ((z_x_reg σ 7) + 6))), (3, .int (nI (if ((z_x_reg σ 7) % 16) ≤ 9 then 0 else 1))), (2, .int (nI 1)), (1, .int (nI (z_x_reg σ 7))), (0, .ref a.1)]) K.1 K.2.1 d_R_decimal_58 hl (by decide) rfl (fun ls hl => ?_)
      refine lv_iload K.1 K.2.1 d_R_decimal_60 (lv_at hl 0 rfl) ?_
      refine nv_sipush (v := 159) K d_R_decimal_62 (by decide) ?_
      refine nv_icmp_gt K (by omega) (by omega) d_R_decimal_65 rfl (fun h44 => ?_) (fun h44 => ?_)
      · refine nv_iconst (v := 1) K d_R_decimal_76 (by decide) ?_
        refine lv_goto K.1 K.2.1 d_R_decimal_77 rfl ?_
        refine lv_istore (lv' := [(5, .int (nI 1)), (4, .int (nI ((z_x_reg σ 7) + 6))), (3, .int (nI (if ((z_x_reg σ 7) % 16) ≤ 9 then 0 else 1))), (2, .int (nI 1)), (1, .int (nI (z_x_reg σ 7))), (0, .ref a.1)]) K.1 K.2.1 d_R_decimal_81 hl (by decide) rfl (fun ls hl => ?_)
        refine lv_iload K.1 K.2.1 d_R_decimal_83 (lv_at hl 0 rfl) ?_
        refine nv_if_eq K (by omega) d_R_decimal_85 rfl (fun h => (by omega : False).elim) (fun _ => ?_)
        refine lv_iload K.1 K.2.1 d_R_decimal_88 (lv_at hl 1 rfl) ?_
        refine nv_bipush (v := 96) K d_R_decimal_90 (by decide) ?_
        refine nv_iadd K d_R_decimal_92 ?_
        refine lv_goto K.1 K.2.1 d_R_decimal_93 rfl ?_
        refine lv_istore (lv' := [(4, .int (nI (((z_x_reg σ 7) + 6) + 96))), (5, .int (nI 1)), (3, .int (nI (if ((z_x_reg σ 7) % 16) ≤ 9 then 0 else 1))), (2, .int (nI 1)), (1, .int (nI (z_x_reg σ 7))), (0, .ref a.1)]) K.1 K.2.1 d_R_decimal_98 hl (by decide) rfl (fun ls hl => ?_)
        refine lv_aload_n K.1 K.2.1 d_R_decimal_100 rfl (lv_at hl 5 rfl) ?_
        refine qg_reg K hw d_R_decimal_101 ?_
        refine nv_bipush (v := 7) K d_R_decimal_104 (by decide) ?_
        refine lv_iload K.1 K.2.1 d_R_decimal_106 (lv_at hl 0 rfl) ?_
        refine nv_sipush (v := 256) K d_R_decimal_108 (by decide) ?_
        refine nv_irem K (by omega) (by omega) (by omega) d_R_decimal_111 ?_
        refine qs_reg (i := 7) (v := (((z_x_reg σ 7) + 6) + 96) % 256) K hw (by omega) d_R_decimal_112 (fun H locs hw => ?_)
        have hO45 : z_Ok (z_s_reg σ (z_fs (z_x_reg σ) 7 ((((z_x_reg σ 7) + 6) + 96) % 256))) := z_ok_reg hO (z_fs_lt (z_k_reg hO) (by omega))
        refine lv_aload_n K.1 K.2.1 d_R_decimal_113 rfl (lv_at hl 5 rfl) ?_
        refine lv_aload_n K.1 K.2.1 d_R_decimal_114 rfl (lv_at hl 5 rfl) ?_
        refine qg_reg K hw d_R_decimal_115 ?_
        refine nv_bipush (v := 7) K d_R_decimal_118 (by decide) ?_
        refine ql_reg (i := 7) (v := (((z_x_reg σ 7) + 6) + 96) % 256) K hw (by omega) rfl d_R_decimal_120 ?_
        have hb46 : (((z_x_reg σ 7) + 6) + 96) % 256 < 256 := by omega
        refine qkv K (r_show (σ := z_s_reg σ (z_fs (z_x_reg σ) 7 ((((z_x_reg σ 7) + 6) + 96) % 256))) (v := (((z_x_reg σ 7) + 6) + 96) % 256) l D cI a hO45 (by omega)) (cw_R_67 K (Nat.le_of_ble_eq_true rfl) (Nat.le_of_ble_eq_true rfl)) hw (va_recv (ci := 3) (q0 := 0) hw.2.2.2.1 hw.1 rfl rfl) rfl hl.1 rfl (Nat.le_of_ble_eq_true rfl) d_R_decimal_121 ⟨Nat.zero_le _, Nat.zero_le _⟩ (fun H locs hw => ?_)
        have hO47 : z_Ok (z_jd (z_s_reg σ (z_fs (z_x_reg σ) 7 ((((z_x_reg σ 7) + 6) + 96) % 256))) ((((z_x_reg σ 7) + 6) + 96) % 256)) := z_ok_jd hO45 (by omega)
        refine lv_aload_n K.1 K.2.1 d_R_decimal_124 rfl (lv_at hl 5 rfl) ?_
        refine lv_iload_n K.1 K.2.1 d_R_decimal_125 rfl (lv_at hl 3 rfl) ?_
        refine nv_if_eq K (by omega) d_R_decimal_126 rfl (fun h => (by omega : False).elim) (fun _ => ?_)
        refine lv_iload_n K.1 K.2.1 d_R_decimal_129 rfl (lv_at hl 2 rfl) ?_
        refine lv_goto K.1 K.2.1 d_R_decimal_130 rfl ?_
        refine qp_half (v := (if ((z_x_reg σ 7) % 16) ≤ 9 then 0 else 1)) K hw d_R_decimal_134 (fun H locs hw => ?_)
        have hO48 : z_Ok (z_s_au (z_jd (z_s_reg σ (z_fs (z_x_reg σ) 7 ((((z_x_reg σ 7) + 6) + 96) % 256))) ((((z_x_reg σ 7) + 6) + 96) % 256)) (if ((z_x_reg σ 7) % 16) ≤ 9 then 0 else 1)) := z_ok_au hO47 (by omega)
        refine lv_aload_n K.1 K.2.1 d_R_decimal_137 rfl (lv_at hl 5 rfl) ?_
        refine lv_iload K.1 K.2.1 d_R_decimal_138 (lv_at hl 1 rfl) ?_
        refine nv_if_eq K (by omega) d_R_decimal_140 rfl (fun h => (by omega : False).elim) (fun _ => ?_)
        refine nv_iconst (v := 1) K d_R_decimal_143 (by decide) ?_
        refine lv_goto K.1 K.2.1 d_R_decimal_144 rfl ?_
        refine qp_c (v := 1) K hw d_R_decimal_148 (fun H locs hw => ?_)
        have hO49 : z_Ok (z_s_ca (z_s_au (z_jd (z_s_reg σ (z_fs (z_x_reg σ) 7 ((((z_x_reg σ 7) + 6) + 96) % 256))) ((((z_x_reg σ 7) + 6) + 96) % 256)) (if ((z_x_reg σ 7) % 16) ≤ 9 then 0 else 1)) 1) := z_ok_ca hO48 (by omega)
        exact qrv K hr hlk hw (by exact dec_of (by first | (rw [if_pos (by omega)]; done) | (rw [if_neg (by omega)]; done) | (split <;> split <;> omega) | (split <;> omega)) (dh_of (by unfold z_d6; first | (rw [if_pos (by omega)]; done) | (rw [if_neg (by omega)]; done)) (by omega)) (dv_of (by unfold z_d6; first | (rw [if_pos (by omega)]; done) | (rw [if_neg (by omega)]; done)) (by omega))) d_R_decimal_151
      · refine lv_aload_n K.1 K.2.1 d_R_decimal_68 rfl (lv_at hl 4 rfl) ?_
        refine qg_c (v := z_x_ca σ) K hw rfl d_R_decimal_69 ?_
        have hb50 : z_x_ca σ < 2 := z_k_ca hO
        refine nv_iconst (v := 1) K d_R_decimal_72 (by decide) ?_
        refine nv_icmp_ne K (by omega) (by omega) d_R_decimal_73 rfl (fun h51 => ?_) (fun h51 => ?_)
        · refine nv_iconst (v := 0) K d_R_decimal_80 (by decide) ?_
          refine lv_istore (lv' := [(5, .int (nI 0)), (4, .int (nI ((z_x_reg σ 7) + 6))), (3, .int (nI (if ((z_x_reg σ 7) % 16) ≤ 9 then 0 else 1))), (2, .int (nI 1)), (1, .int (nI (z_x_reg σ 7))), (0, .ref a.1)]) K.1 K.2.1 d_R_decimal_81 hl (by decide) rfl (fun ls hl => ?_)
          refine lv_iload K.1 K.2.1 d_R_decimal_83 (lv_at hl 0 rfl) ?_
          refine nv_if_eq K (by omega) d_R_decimal_85 rfl (fun _ => ?_) (fun h => (by omega : False).elim)
          refine lv_iload K.1 K.2.1 d_R_decimal_96 (lv_at hl 1 rfl) ?_
          refine lv_istore (lv' := [(4, .int (nI ((z_x_reg σ 7) + 6))), (5, .int (nI 0)), (3, .int (nI (if ((z_x_reg σ 7) % 16) ≤ 9 then 0 else 1))), (2, .int (nI 1)), (1, .int (nI (z_x_reg σ 7))), (0, .ref a.1)]) K.1 K.2.1 d_R_decimal_98 hl (by decide) rfl (fun ls hl => ?_)
          refine lv_aload_n K.1 K.2.1 d_R_decimal_100 rfl (lv_at hl 5 rfl) ?_
          refine qg_reg K hw d_R_decimal_101 ?_
          refine nv_bipush (v := 7) K d_R_decimal_104 (by decide) ?_
          refine lv_iload K.1 K.2.1 d_R_decimal_106 (lv_at hl 0 rfl) ?_
          refine nv_sipush (v := 256) K d_R_decimal_108 (by decide) ?_
          refine nv_irem K (by omega) (by omega) (by omega) d_R_decimal_111 ?_
          refine qs_reg (i := 7) (v := ((z_x_reg σ 7) + 6) % 256) K hw (by omega) d_R_decimal_112 (fun H locs hw => ?_)
          have hO52 : z_Ok (z_s_reg σ (z_fs (z_x_reg σ) 7 (((z_x_reg σ 7) + 6) % 256))) := z_ok_reg hO (z_fs_lt (z_k_reg hO) (by omega))
          refine lv_aload_n K.1 K.2.1 d_R_decimal_113 rfl (lv_at hl 5 rfl) ?_
          refine lv_aload_n K.1 K.2.1 d_R_decimal_114 rfl (lv_at hl 5 rfl) ?_
          refine qg_reg K hw d_R_decimal_115 ?_
          refine nv_bipush (v := 7) K d_R_decimal_118 (by decide) ?_
          refine ql_reg (i := 7) (v := ((z_x_reg σ 7) + 6) % 256) K hw (by omega) rfl d_R_decimal_120 ?_
          have hb53 : ((z_x_reg σ 7) + 6) % 256 < 256 := by omega
          refine qkv K (r_show (σ := z_s_reg σ (z_fs (z_x_reg σ) 7 (((z_x_reg σ 7) + 6) % 256))) (v := ((z_x_reg σ 7) + 6) % 256) l D cI a hO52 (by omega)) (cw_R_67 K (Nat.le_of_ble_eq_true rfl) (Nat.le_of_ble_eq_true rfl)) hw (va_recv (ci := 3) (q0 := 0) hw.2.2.2.1 hw.1 rfl rfl) rfl hl.1 rfl (Nat.le_of_ble_eq_true rfl) d_R_decimal_121 ⟨Nat.zero_le _, Nat.zero_le _⟩ (fun H locs hw => ?_)
          have hO54 : z_Ok (z_jd (z_s_reg σ (z_fs (z_x_reg σ) 7 (((z_x_reg σ 7) + 6) % 256))) (((z_x_reg σ 7) + 6) % 256)) := z_ok_jd hO52 (by omega)
          refine lv_aload_n K.1 K.2.1 d_R_decimal_124 rfl (lv_at hl 5 rfl) ?_
          refine lv_iload_n K.1 K.2.1 d_R_decimal_125 rfl (lv_at hl 3 rfl) ?_
          refine nv_if_eq K (by omega) d_R_decimal_126 rfl (fun h => (by omega : False).elim) (fun _ => ?_)
          refine lv_iload_n K.1 K.2.1 d_R_decimal_129 rfl (lv_at hl 2 rfl) ?_
          refine lv_goto K.1 K.2.1 d_R_decimal_130 rfl ?_
          refine qp_half (v := (if ((z_x_reg σ 7) % 16) ≤ 9 then 0 else 1)) K hw d_R_decimal_134 (fun H locs hw => ?_)
          have hO55 : z_Ok (z_s_au (z_jd (z_s_reg σ (z_fs (z_x_reg σ) 7 (((z_x_reg σ 7) + 6) % 256))) (((z_x_reg σ 7) + 6) % 256)) (if ((z_x_reg σ 7) % 16) ≤ 9 then 0 else 1)) := z_ok_au hO54 (by omega)
          refine lv_aload_n K.1 K.2.1 d_R_decimal_137 rfl (lv_at hl 5 rfl) ?_
          refine lv_iload K.1 K.2.1 d_R_decimal_138 (lv_at hl 1 rfl) ?_
          refine nv_if_eq K (by omega) d_R_decimal_140 rfl (fun _ => ?_) (fun h => (by omega : False).elim)
          refine nv_iconst (v := 0) K d_R_decimal_147 (by decide) ?_
          refine qp_c (v := 0) K hw d_R_decimal_148 (fun H locs hw => ?_)
          have hO56 : z_Ok (z_s_ca (z_s_au (z_jd (z_s_reg σ (z_fs (z_x_reg σ) 7 (((z_x_reg σ 7) + 6) % 256))) (((z_x_reg σ 7) + 6) % 256)) (if ((z_x_reg σ 7) % 16) ≤ 9 then 0 else 1)) 0) := z_ok_ca hO55 (by omega)
          exact qrv K hr hlk hw (by exact dec_of (by first | (rw [if_pos (by omega)]; done) | (rw [if_neg (by omega)]; done) | (split <;> split <;> omega) | (split <;> omega)) (dh_of0 (by unfold z_d6; first | (rw [if_pos (by omega)]; done) | (rw [if_neg (by omega)]; done)) (by omega)) (dv_of0 (by unfold z_d6; first | (rw [if_pos (by omega)]; done) | (rw [if_neg (by omega)]; done)) (by omega))) d_R_decimal_151
        · refine nv_iconst (v := 1) K d_R_decimal_76 (by decide) ?_
          refine lv_goto K.1 K.2.1 d_R_decimal_77 rfl ?_
          refine lv_istore (lv' := [(5, .int (nI 1)), (4, .int (nI ((z_x_reg σ 7) + 6))), (3, .int (nI (if ((z_x_reg σ 7) % 16) ≤ 9 then 0 else 1))), (2, .int (nI 1)), (1, .int (nI (z_x_reg σ 7))), (0, .ref a.1)]) K.1 K.2.1 d_R_decimal_81 hl (by decide) rfl (fun ls hl => ?_)
          refine lv_iload K.1 K.2.1 d_R_decimal_83 (lv_at hl 0 rfl) ?_
          refine nv_if_eq K (by omega) d_R_decimal_85 rfl (fun h => (by omega : False).elim) (fun _ => ?_)
          refine lv_iload K.1 K.2.1 d_R_decimal_88 (lv_at hl 1 rfl) ?_
          refine nv_bipush (v := 96) K d_R_decimal_90 (by decide) ?_
          refine nv_iadd K d_R_decimal_92 ?_
          refine lv_goto K.1 K.2.1 d_R_decimal_93 rfl ?_
          refine lv_istore (lv' := [(4, .int (nI (((z_x_reg σ 7) + 6) + 96))), (5, .int (nI 1)), (3, .int (nI (if ((z_x_reg σ 7) % 16) ≤ 9 then 0 else 1))), (2, .int (nI 1)), (1, .int (nI (z_x_reg σ 7))), (0, .ref a.1)]) K.1 K.2.1 d_R_decimal_98 hl (by decide) rfl (fun ls hl => ?_)
          refine lv_aload_n K.1 K.2.1 d_R_decimal_100 rfl (lv_at hl 5 rfl) ?_
          refine qg_reg K hw d_R_decimal_101 ?_
          refine nv_bipush (v := 7) K d_R_decimal_104 (by decide) ?_
          refine lv_iload K.1 K.2.1 d_R_decimal_106 (lv_at hl 0 rfl) ?_
          refine nv_sipush (v := 256) K d_R_decimal_108 (by decide) ?_
          refine nv_irem K (by omega) (by omega) (by omega) d_R_decimal_111 ?_
          refine qs_reg (i := 7) (v := (((z_x_reg σ 7) + 6) + 96) % 256) K hw (by omega) d_R_decimal_112 (fun H locs hw => ?_)
          have hO57 : z_Ok (z_s_reg σ (z_fs (z_x_reg σ) 7 ((((z_x_reg σ 7) + 6) + 96) % 256))) := z_ok_reg hO (z_fs_lt (z_k_reg hO) (by omega))
          refine lv_aload_n K.1 K.2.1 d_R_decimal_113 rfl (lv_at hl 5 rfl) ?_
          refine lv_aload_n K.1 K.2.1 d_R_decimal_114 rfl (lv_at hl 5 rfl) ?_
          refine qg_reg K hw d_R_decimal_115 ?_
          refine nv_bipush (v := 7) K d_R_decimal_118 (by decide) ?_
          refine ql_reg (i := 7) (v := (((z_x_reg σ 7) + 6) + 96) % 256) K hw (by omega) rfl d_R_decimal_120 ?_
          have hb58 : (((z_x_reg σ 7) + 6) + 96) % 256 < 256 := by omega
          refine qkv K (r_show (σ := z_s_reg σ (z_fs (z_x_reg σ) 7 ((((z_x_reg σ 7) + 6) + 96) % 256))) (v := (((z_x_reg σ 7) + 6) + 96) % 256) l D cI a hO57 (by omega)) (cw_R_67 K (Nat.le_of_ble_eq_true rfl) (Nat.le_of_ble_eq_true rfl)) hw (va_recv (ci := 3) (q0 := 0) hw.2.2.2.1 hw.1 rfl rfl) rfl hl.1 rfl (Nat.le_of_ble_eq_true rfl) d_R_decimal_121 ⟨Nat.zero_le _, Nat.zero_le _⟩ (fun H locs hw => ?_)
          have hO59 : z_Ok (z_jd (z_s_reg σ (z_fs (z_x_reg σ) 7 ((((z_x_reg σ 7) + 6) + 96) % 256))) ((((z_x_reg σ 7) + 6) + 96) % 256)) := z_ok_jd hO57 (by omega)
          refine lv_aload_n K.1 K.2.1 d_R_decimal_124 rfl (lv_at hl 5 rfl) ?_
          refine lv_iload_n K.1 K.2.1 d_R_decimal_125 rfl (lv_at hl 3 rfl) ?_
          refine nv_if_eq K (by omega) d_R_decimal_126 rfl (fun h => (by omega : False).elim) (fun _ => ?_)
          refine lv_iload_n K.1 K.2.1 d_R_decimal_129 rfl (lv_at hl 2 rfl) ?_
          refine lv_goto K.1 K.2.1 d_R_decimal_130 rfl ?_
          refine qp_half (v := (if ((z_x_reg σ 7) % 16) ≤ 9 then 0 else 1)) K hw d_R_decimal_134 (fun H locs hw => ?_)
          have hO60 : z_Ok (z_s_au (z_jd (z_s_reg σ (z_fs (z_x_reg σ) 7 ((((z_x_reg σ 7) + 6) + 96) % 256))) ((((z_x_reg σ 7) + 6) + 96) % 256)) (if ((z_x_reg σ 7) % 16) ≤ 9 then 0 else 1)) := z_ok_au hO59 (by omega)
          refine lv_aload_n K.1 K.2.1 d_R_decimal_137 rfl (lv_at hl 5 rfl) ?_
          refine lv_iload K.1 K.2.1 d_R_decimal_138 (lv_at hl 1 rfl) ?_
          refine nv_if_eq K (by omega) d_R_decimal_140 rfl (fun h => (by omega : False).elim) (fun _ => ?_)
          refine nv_iconst (v := 1) K d_R_decimal_143 (by decide) ?_
          refine lv_goto K.1 K.2.1 d_R_decimal_144 rfl ?_
          refine qp_c (v := 1) K hw d_R_decimal_148 (fun H locs hw => ?_)
          have hO61 : z_Ok (z_s_ca (z_s_au (z_jd (z_s_reg σ (z_fs (z_x_reg σ) 7 ((((z_x_reg σ 7) + 6) + 96) % 256))) ((((z_x_reg σ 7) + 6) + 96) % 256)) (if ((z_x_reg σ 7) % 16) ≤ 9 then 0 else 1)) 1) := z_ok_ca hO60 (by omega)
          exact qrv K hr hlk hw (by exact dec_of (by first | (rw [if_pos (by omega)]; done) | (rw [if_neg (by omega)]; done) | (split <;> split <;> omega) | (split <;> omega)) (dh_of (by unfold z_d6; first | (rw [if_pos (by omega)]; done) | (rw [if_neg (by omega)]; done)) (by omega)) (dv_of (by unfold z_d6; first | (rw [if_pos (by omega)]; done) | (rw [if_neg (by omega)]; done)) (by omega))) d_R_decimal_151

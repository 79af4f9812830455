set_option maxHeartbeats 4000000 in
set_option maxRecDepth 100000 in
theorem r_reckon {σ : z_St} {k b : Nat} (l : Launch) (D : va_G) (cI : ClassId) (a : qAd) (hO : z_Ok σ) (hk : k < 8) (hb : b < 256) : qCv l y_R_reckon w_R_reckon 3 73 D cI a [.ref a.1, .int (nI k), .int (nI b)] σ (z_rk σ k b) := by
  refine qcv_of (cc := b_R_reckon) (maxL := 5) (ret := none) (by decide) rfl (Nat.le_of_ble_eq_true rfl) ?_
  intro p e s m below meth c ls K hr hlk hl hw
  have K : CallFix p m c b_R_reckon 5 s _ (_ :: T0) "PortProcessorModel" := K
  have hl : lv_has ls 5 [(0, .ref a.1), (1, .int (nI k)), (2, .int (nI b))] := hl
  refine lv_aload_n K.1 K.2.1 d_R_reckon_0 rfl (lv_at hl 0 rfl) ?_
  refine qg_reg K hw d_R_reckon_1 ?_
  refine nv_bipush (v := 7) K d_R_reckon_4 (by decide) ?_
  refine ql_reg (i := 7) (v := z_x_reg σ 7) K hw (by omega) rfl d_R_reckon_6 ?_
  have hb1 : z_x_reg σ 7 < 256 := z_k_reg hO _
  refine lv_istore_n (lv' := [(3, .int (nI (z_x_reg σ 7))), (0, .ref a.1), (1, .int (nI k)), (2, .int (nI b))]) K.1 K.2.1 d_R_reckon_7 rfl hl (by decide) rfl (fun ls hl => ?_)
  rcases (by omega : k = 0 ∨ k = 1 ∨ k = 2 ∨ k = 3 ∨ k = 4 ∨ k = 5 ∨ k = 6 ∨ k = 7) with h2 | h2 | h2 | h2 | h2 | h2 | h2 | h2
  · subst h2
    refine lv_iload_n K.1 K.2.1 d_R_reckon_8 rfl (lv_at hl 2 rfl) ?_
    refine nv_iconst (v := 2) K d_R_reckon_9 (by decide) ?_
    refine nv_icmp_ge K (by omega) (by omega) d_R_reckon_10 rfl (fun h => (by omega : False).elim) (fun _ => ?_)
    refine lv_aload_n K.1 K.2.1 d_R_reckon_13 rfl (lv_at hl 1 rfl) ?_
    refine qg_reg K hw d_R_reckon_14 ?_
    refine nv_bipush (v := 7) K d_R_reckon_17 (by decide) ?_
    refine lv_aload_n K.1 K.2.1 d_R_reckon_19 rfl (lv_at hl 1 rfl) ?_
    refine lv_iload_n K.1 K.2.1 d_R_reckon_20 rfl (lv_at hl 0 rfl) ?_
    refine lv_iload_n K.1 K.2.1 d_R_reckon_21 rfl (lv_at hl 3 rfl) ?_
    refine lv_iload_n K.1 K.2.1 d_R_reckon_22 rfl (lv_at hl 2 rfl) ?_
    refine nv_iconst (v := 1) K d_R_reckon_23 (by decide) ?_
    refine nv_icmp_ne K (by omega) (by omega) d_R_reckon_24 rfl (fun _ => ?_) (fun h => (by omega : False).elim)
    refine nv_iconst (v := 0) K d_R_reckon_34 (by decide) ?_
    refine qki K (r_sum (σ := σ) (x := z_x_reg σ 7) (y := b) (z := 0) l D cI a hO (by omega) (by omega) (by omega)) (cw_R_71 K (Nat.le_of_ble_eq_true rfl) (Nat.le_of_ble_eq_true rfl)) hw (va_recv (ci := 3) (q0 := 0) hw.2.2.2.1 hw.1 rfl rfl) rfl hl.1 rfl (Nat.le_of_ble_eq_true rfl) d_R_reckon_35 ⟨Nat.zero_le _, Nat.zero_le _⟩ (fun H locs hw => ?_)
    have hO3 : z_Ok (z_jd (z_s_ca (z_s_au σ (z_g1 (z_x_reg σ 7) b 0)) (z_g2 (z_x_reg σ 7) b 0)) (((z_x_reg σ 7) + b + 0) % 256)) := z_ok_jd (z_ok_ca (z_ok_au hO (z_g1_lt _ _ _)) (z_g2_lt _ _ _)) (by omega)
    refine qs_reg (i := 7) (v := ((z_x_reg σ 7) + b + 0) % 256) K hw (by omega) d_R_reckon_38 (fun H locs hw => ?_)
    have hO4 : z_Ok (z_s_reg (z_jd (z_s_ca (z_s_au σ (z_g1 (z_x_reg σ 7) b 0)) (z_g2 (z_x_reg σ 7) b 0)) (((z_x_reg σ 7) + b + 0) % 256)) (z_fs (z_x_reg σ) 7 (((z_x_reg σ 7) + b + 0) % 256))) := z_ok_reg hO3 (z_fs_lt (z_k_reg hO) (by omega))
    refine lv_goto K.1 K.2.1 d_R_reckon_39 rfl ?_
    exact qrv K hr hlk hw (by rw [reg_jd, reg_ca, reg_au]; exact rk_c (kt_0 σ _ _) rfl) d_R_reckon_176
  · subst h2
    refine lv_iload_n K.1 K.2.1 d_R_reckon_8 rfl (lv_at hl 2 rfl) ?_
    refine nv_iconst (v := 2) K d_R_reckon_9 (by decide) ?_
    refine nv_icmp_ge K (by omega) (by omega) d_R_reckon_10 rfl (fun h => (by omega : False).elim) (fun _ => ?_)
    refine lv_aload_n K.1 K.2.1 d_R_reckon_13 rfl (lv_at hl 1 rfl) ?_
    refine qg_reg K hw d_R_reckon_14 ?_
    refine nv_bipush (v := 7) K d_R_reckon_17 (by decide) ?_
    refine lv_aload_n K.1 K.2.1 d_R_reckon_19 rfl (lv_at hl 1 rfl) ?_
    refine lv_iload_n K.1 K.2.1 d_R_reckon_20 rfl (lv_at hl 0 rfl) ?_
    refine lv_iload_n K.1 K.2.1 d_R_reckon_21 rfl (lv_at hl 3 rfl) ?_
    refine lv_iload_n K.1 K.2.1 d_R_reckon_22 rfl (lv_at hl 2 rfl) ?_
    refine nv_iconst (v := 1) K d_R_reckon_23 (by decide) ?_
    refine nv_icmp_ne K (by omega) (by omega) d_R_reckon_24 rfl (fun h => (by omega : False).elim) (fun _ => ?_)
    refine lv_aload_n K.1 K.2.1 d_R_reckon_27 rfl (lv_at hl 1 rfl) ?_
    refine qg_c (v := z_x_ca σ) K hw rfl d_R_reckon_28 ?_
    have hb5 : z_x_ca σ < 2 := z_k_ca hO
    refine lv_goto K.1 K.2.1 d_R_reckon_31 rfl ?_
    refine qki K (r_sum (σ := σ) (x := z_x_reg σ 7) (y := b) (z := z_x_ca σ) l D cI a hO (by omega) (by omega) (by omega)) (cw_R_71 K (Nat.le_of_ble_eq_true rfl) (Nat.le_of_ble_eq_true rfl)) hw (va_recv (ci := 3) (q0 := 0) hw.2.2.2.1 hw.1 rfl rfl) rfl hl.1 rfl (Nat.le_of_ble_eq_true rfl) d_R_reckon_35 ⟨Nat.zero_le _, Nat.zero_le _⟩ (fun H locs hw => ?_)
    have hO6 : z_Ok (z_jd (z_s_ca (z_s_au σ (z_g1 (z_x_reg σ 7) b (z_x_ca σ))) (z_g2 (z_x_reg σ 7) b (z_x_ca σ))) (((z_x_reg σ 7) + b + (z_x_ca σ)) % 256)) := z_ok_jd (z_ok_ca (z_ok_au hO (z_g1_lt _ _ _)) (z_g2_lt _ _ _)) (by omega)
    refine qs_reg (i := 7) (v := ((z_x_reg σ 7) + b + (z_x_ca σ)) % 256) K hw (by omega) d_R_reckon_38 (fun H locs hw => ?_)
    have hO7 : z_Ok (z_s_reg (z_jd (z_s_ca (z_s_au σ (z_g1 (z_x_reg σ 7) b (z_x_ca σ))) (z_g2 (z_x_reg σ 7) b (z_x_ca σ))) (((z_x_reg σ 7) + b + (z_x_ca σ)) % 256)) (z_fs (z_x_reg σ) 7 (((z_x_reg σ 7) + b + (z_x_ca σ)) % 256))) := z_ok_reg hO6 (z_fs_lt (z_k_reg hO) (by omega))
    refine lv_goto K.1 K.2.1 d_R_reckon_39 rfl ?_
    exact qrv K hr hlk hw (by rw [reg_jd, reg_ca, reg_au]; exact rk_c (kt_1 σ _ _) rfl) d_R_reckon_176
  · subst h2
    refine lv_iload_n K.1 K.2.1 d_R_reckon_8 rfl (lv_at hl 2 rfl) ?_
    refine nv_iconst (v := 2) K d_R_reckon_9 (by decide) ?_
    refine nv_icmp_ge K (by omega) (by omega) d_R_reckon_10 rfl (fun _ => ?_) (fun h => (by omega : False).elim)
    refine lv_iload_n K.1 K.2.1 d_R_reckon_42 rfl (lv_at hl 2 rfl) ?_
    refine nv_iconst (v := 4) K d_R_reckon_43 (by decide) ?_
    refine nv_icmp_ge K (by omega) (by omega) d_R_reckon_44 rfl (fun h => (by omega : False).elim) (fun _ => ?_)
    refine lv_aload_n K.1 K.2.1 d_R_reckon_47 rfl (lv_at hl 1 rfl) ?_
    refine qg_reg K hw d_R_reckon_48 ?_
    refine nv_bipush (v := 7) K d_R_reckon_51 (by decide) ?_
    refine lv_aload_n K.1 K.2.1 d_R_reckon_53 rfl (lv_at hl 1 rfl) ?_
    refine lv_iload_n K.1 K.2.1 d_R_reckon_54 rfl (lv_at hl 0 rfl) ?_
    refine lv_iload_n K.1 K.2.1 d_R_reckon_55 rfl (lv_at hl 3 rfl) ?_
    refine lv_iload_n K.1 K.2.1 d_R_reckon_56 rfl (lv_at hl 2 rfl) ?_
    refine nv_iconst (v := 3) K d_R_reckon_57 (by decide) ?_
    refine nv_icmp_ne K (by omega) (by omega) d_R_reckon_58 rfl (fun _ => ?_) (fun h => (by omega : False).elim)
    refine nv_iconst (v := 0) K d_R_reckon_68 (by decide) ?_
    refine qki K (r_difference (σ := σ) (x := z_x_reg σ 7) (y := b) (z := 0) l D cI a hO (by omega) (by omega) (by omega)) (cw_R_75 K (Nat.le_of_ble_eq_true rfl) (Nat.le_of_ble_eq_true rfl)) hw (va_recv (ci := 3) (q0 := 0) hw.2.2.2.1 hw.1 rfl rfl) rfl hl.1 rfl (Nat.le_of_ble_eq_true rfl) d_R_reckon_69 ⟨Nat.zero_le _, Nat.zero_le _⟩ (fun H locs hw => ?_)
    have hO8 : z_Ok (z_jd (z_s_ca (z_s_au σ (z_g1 (z_x_reg σ 7) (255 - b) (1 - 0))) (1 - z_g2 (z_x_reg σ 7) (255 - b) (1 - 0))) (((z_x_reg σ 7) + (255 - b) + (1 - 0)) % 256)) := z_ok_jd (z_ok_ca (z_ok_au hO (z_g1_lt _ _ _)) (by omega)) (by omega)
    refine qs_reg (i := 7) (v := ((z_x_reg σ 7) + (255 - b) + (1 - 0)) % 256) K hw (by omega) d_R_reckon_72 (fun H locs hw => ?_)
    have hO9 : z_Ok (z_s_reg (z_jd (z_s_ca (z_s_au σ (z_g1 (z_x_reg σ 7) (255 - b) (1 - 0))) (1 - z_g2 (z_x_reg σ 7) (255 - b) (1 - 0))) (((z_x_reg σ 7) + (255 - b) + (1 - 0)) % 256)) (z_fs (z_x_reg σ) 7 (((z_x_reg σ 7) + (255 - b) + (1 - 0)) % 256))) := z_ok_reg hO8 (z_fs_lt (z_k_reg hO) (by omega))
    refine lv_goto K.1 K.2.1 d_R_reckon_73 rfl ?_
    exact qrv K hr hlk hw (by rw [reg_jd, reg_ca, reg_au]; exact rk_c (kt_2 σ _ _) rfl) d_R_reckon_176
  · subst h2
    refine lv_iload_n K.1 K.2.1 d_R_reckon_8 rfl (lv_at hl 2 rfl) ?_
    refine nv_iconst (v := 2) K d_R_reckon_9 (by decide) ?_
    refine nv_icmp_ge K (by omega) (by omega) d_R_reckon_10 rfl (fun _ => ?_) (fun h => (by omega : False).elim)
    refine lv_iload_n K.1 K.2.1 d_R_reckon_42 rfl (lv_at hl 2 rfl) ?_
    refine nv_iconst (v := 4) K d_R_reckon_43 (by decide) ?_
    refine nv_icmp_ge K (by omega) (by omega) d_R_reckon_44 rfl (fun h => (by omega : False).elim) (fun _ => ?_)
    refine lv_aload_n K.1 K.2.1 d_R_reckon_47 rfl (lv_at hl 1 rfl) ?_
    refine qg_reg K hw d_R_reckon_48 ?_
    refine nv_bipush (v := 7) K d_R_reckon_51 (by decide) ?_
    refine lv_aload_n K.1 K.2.1 d_R_reckon_53 rfl (lv_at hl 1 rfl) ?_
    refine lv_iload_n K.1 K.2.1 d_R_reckon_54 rfl (lv_at hl 0 rfl) ?_
    refine lv_iload_n K.1 K.2.1 d_R_reckon_55 rfl (lv_at hl 3 rfl) ?_
    refine lv_iload_n K.1 K.2.1 d_R_reckon_56 rfl (lv_at hl 2 rfl) ?_
    refine nv_iconst (v := 3) K d_R_reckon_57 (by decide) ?_
    refine nv_icmp_ne K (by omega) (by omega) d_R_reckon_58 rfl (fun h => (by omega : False).elim) (fun _ => ?_)
    refine lv_aload_n K.1 K.2.1 d_R_reckon_61 rfl (lv_at hl 1 rfl) ?_
    refine qg_c (v := z_x_ca σ) K hw rfl d_R_reckon_62 ?_
    have hb10 : z_x_ca σ < 2 := z_k_ca hO
    refine lv_goto K.1 K.2.1 d_R_reckon_65 rfl ?_
    refine qki K (r_difference (σ := σ) (x := z_x_reg σ 7) (y := b) (z := z_x_ca σ) l D cI a hO (by omega) (by omega) (by omega)) (cw_R_75 K (Nat.le_of_ble_eq_true rfl) (Nat.le_of_ble_eq_true rfl)) hw (va_recv (ci := 3) (q0 := 0) hw.2.2.2.1 hw.1 rfl rfl) rfl hl.1 rfl (Nat.le_of_ble_eq_true rfl) d_R_reckon_69 ⟨Nat.zero_le _, Nat.zero_le _⟩ (fun H locs hw => ?_)
    have hO11 : z_Ok (z_jd (z_s_ca (z_s_au σ (z_g1 (z_x_reg σ 7) (255 - b) (1 - (z_x_ca σ)))) (1 - z_g2 (z_x_reg σ 7) (255 - b) (1 - (z_x_ca σ)))) (((z_x_reg σ 7) + (255 - b) + (1 - (z_x_ca σ))) % 256)) := z_ok_jd (z_ok_ca (z_ok_au hO (z_g1_lt _ _ _)) (by omega)) (by omega)
    refine qs_reg (i := 7) (v := ((z_x_reg σ 7) + (255 - b) + (1 - (z_x_ca σ))) % 256) K hw (by omega) d_R_reckon_72 (fun H locs hw => ?_)
    have hO12 : z_Ok (z_s_reg (z_jd (z_s_ca (z_s_au σ (z_g1 (z_x_reg σ 7) (255 - b) (1 - (z_x_ca σ)))) (1 - z_g2 (z_x_reg σ 7) (255 - b) (1 - (z_x_ca σ)))) (((z_x_reg σ 7) + (255 - b) + (1 - (z_x_ca σ))) % 256)) (z_fs (z_x_reg σ) 7 (((z_x_reg σ 7) + (255 - b) + (1 - (z_x_ca σ))) % 256))) := z_ok_reg hO11 (z_fs_lt (z_k_reg hO) (by omega))
    refine lv_goto K.1 K.2.1 d_R_reckon_73 rfl ?_
    exact qrv K hr hlk hw (by rw [reg_jd, reg_ca, reg_au]; exact rk_c (kt_3 σ _ _) rfl) d_R_reckon_176
  · subst h2
    refine lv_iload_n K.1 K.2.1 d_R_reckon_8 rfl (lv_at hl 2 rfl) ?_
    refine nv_iconst (v := 2) K d_R_reckon_9 (by decide) ?_
    refine nv_icmp_ge K (by omega) (by omega) d_R_reckon_10 rfl (fun _ => ?_) (fun h => (by omega : False).elim)
    refine lv_iload_n K.1 K.2.1 d_R_reckon_42 rfl (lv_at hl 2 rfl) ?_
    refine nv_iconst (v := 4) K d_R_reckon_43 (by decide) ?_
    refine nv_icmp_ge K (by omega) (by omega) d_R_reckon_44 rfl (fun _ => ?_) (fun h => (by omega : False).elim)
    refine lv_iload_n K.1 K.2.1 d_R_reckon_76 rfl (lv_at hl 2 rfl) ?_
    refine nv_bipush (v := 7) K d_R_reckon_77 (by decide) ?_
    refine nv_icmp_ne K (by omega) (by omega) d_R_reckon_79 rfl (fun _ => ?_) (fun h => (by omega : False).elim)
    refine lv_aload_n K.1 K.2.1 d_R_reckon_94 rfl (lv_at hl 1 rfl) ?_
    refine qg_reg K hw d_R_reckon_95 ?_
    refine nv_bipush (v := 7) K d_R_reckon_98 (by decide) ?_
    refine lv_iload_n K.1 K.2.1 d_R_reckon_100 rfl (lv_at hl 2 rfl) ?_
    refine nv_iconst (v := 4) K d_R_reckon_101 (by decide) ?_
    refine nv_icmp_ne K (by omega) (by omega) d_R_reckon_102 rfl (fun h => (by omega : False).elim) (fun _ => ?_)
    refine lv_iload_n K.1 K.2.1 d_R_reckon_105 rfl (lv_at hl 0 rfl) ?_
    refine lv_iload_n K.1 K.2.1 d_R_reckon_106 rfl (lv_at hl 3 rfl) ?_
    refine nv_iand K d_R_reckon_107 ?_
    have hb13 : (z_x_reg σ 7) &&& b ≤ b := Nat.and_le_right
    refine lv_goto K.1 K.2.1 d_R_reckon_108 rfl ?_
    refine qs_reg (i := 7) (v := (z_x_reg σ 7) &&& b) K hw (by omega) d_R_reckon_125 (fun H locs hw => ?_)
    have hO14 : z_Ok (z_s_reg σ (z_fs (z_x_reg σ) 7 ((z_x_reg σ 7) &&& b))) := z_ok_reg hO (z_fs_lt (z_k_reg hO) (by omega))
    refine lv_aload_n K.1 K.2.1 d_R_reckon_126 rfl (lv_at hl 1 rfl) ?_
    refine lv_iload_n K.1 K.2.1 d_R_reckon_127 rfl (lv_at hl 2 rfl) ?_
    refine nv_iconst (v := 4) K d_R_reckon_128 (by decide) ?_
    refine nv_icmp_ne K (by omega) (by omega) d_R_reckon_129 rfl (fun h => (by omega : False).elim) (fun _ => ?_)
    refine lv_iload_n K.1 K.2.1 d_R_reckon_132 rfl (lv_at hl 0 rfl) ?_
    refine nv_bipush (v := 8) K d_R_reckon_133 (by decide) ?_
    refine nv_idiv K (by omega) (by omega) (by omega) d_R_reckon_135 ?_
    refine nv_iconst (v := 2) K d_R_reckon_136 (by decide) ?_
    refine nv_irem K (by omega) (by omega) (by omega) d_R_reckon_137 ?_
    refine nv_iconst (v := 1) K d_R_reckon_138 (by decide) ?_
    refine nv_icmp_eq K (by omega) (by omega) d_R_reckon_139 rfl (fun h15 => ?_) (fun h15 => ?_)
    · refine nv_iconst (v := 1) K d_R_reckon_152 (by decide) ?_
      refine lv_goto K.1 K.2.1 d_R_reckon_153 rfl ?_
      refine qp_half (v := 1) K hw d_R_reckon_157 (fun H locs hw => ?_)
      have hO16 : z_Ok (z_s_au (z_s_reg σ (z_fs (z_x_reg σ) 7 ((z_x_reg σ 7) &&& b))) 1) := z_ok_au hO14 (by omega)
      refine lv_aload_n K.1 K.2.1 d_R_reckon_160 rfl (lv_at hl 1 rfl) ?_
      refine nv_iconst (v := 0) K d_R_reckon_161 (by decide) ?_
      refine qp_c (v := 0) K hw d_R_reckon_162 (fun H locs hw => ?_)
      have hO17 : z_Ok (z_s_ca (z_s_au (z_s_reg σ (z_fs (z_x_reg σ) 7 ((z_x_reg σ 7) &&& b))) 1) 0) := z_ok_ca hO16 (by omega)
      refine lv_aload_n K.1 K.2.1 d_R_reckon_165 rfl (lv_at hl 1 rfl) ?_
      refine lv_aload_n K.1 K.2.1 d_R_reckon_166 rfl (lv_at hl 1 rfl) ?_
      refine qg_reg K hw d_R_reckon_167 ?_
      refine nv_bipush (v := 7) K d_R_reckon_170 (by decide) ?_
      refine ql_reg (i := 7) (v := (z_x_reg σ 7) &&& b) K hw (by omega) rfl d_R_reckon_172 ?_
      have hb18 : (z_x_reg σ 7) &&& b < 256 := by omega
      refine qkv K (r_show (σ := z_s_ca (z_s_au (z_s_reg σ (z_fs (z_x_reg σ) 7 ((z_x_reg σ 7) &&& b))) 1) 0) (v := (z_x_reg σ 7) &&& b) l D cI a hO17 (by omega)) (cw_R_67 K (Nat.le_of_ble_eq_true rfl) (Nat.le_of_ble_eq_true rfl)) hw (va_recv (ci := 3) (q0 := 0) hw.2.2.2.1 hw.1 rfl rfl) rfl hl.1 rfl (Nat.le_of_ble_eq_true rfl) d_R_reckon_173 ⟨Nat.zero_le _, Nat.zero_le _⟩ (fun H locs hw => ?_)
      have hO19 : z_Ok (z_jd (z_s_ca (z_s_au (z_s_reg σ (z_fs (z_x_reg σ) 7 ((z_x_reg σ 7) &&& b))) 1) 0) ((z_x_reg σ 7) &&& b)) := z_ok_jd hO17 (by omega)
      exact qrv K hr hlk hw (by rw [rg_jd]; exact rk_4 (by first | (rw [if_pos (by omega)]; done) | (rw [if_neg (by omega)]; done))) d_R_reckon_176
    · refine lv_iload_n K.1 K.2.1 d_R_reckon_142 rfl (lv_at hl 3 rfl) ?_
      refine nv_bipush (v := 8) K d_R_reckon_143 (by decide) ?_
      refine nv_idiv K (by omega) (by omega) (by omega) d_R_reckon_145 ?_
      refine nv_iconst (v := 2) K d_R_reckon_146 (by decide) ?_
      refine nv_irem K (by omega) (by omega) (by omega) d_R_reckon_147 ?_
      refine nv_iconst (v := 1) K d_R_reckon_148 (by decide) ?_
      refine nv_icmp_ne K (by omega) (by omega) d_R_reckon_149 rfl (fun h20 => ?_) (fun h20 => ?_)
      · refine nv_iconst (v := 0) K d_R_reckon_156 (by decide) ?_
        refine qp_half (v := 0) K hw d_R_reckon_157 (fun H locs hw => ?_)
        have hO21 : z_Ok (z_s_au (z_s_reg σ (z_fs (z_x_reg σ) 7 ((z_x_reg σ 7) &&& b))) 0) := z_ok_au hO14 (by omega)
        refine lv_aload_n K.1 K.2.1 d_R_reckon_160 rfl (lv_at hl 1 rfl) ?_
        refine nv_iconst (v := 0) K d_R_reckon_161 (by decide) ?_
        refine qp_c (v := 0) K hw d_R_reckon_162 (fun H locs hw => ?_)
        have hO22 : z_Ok (z_s_ca (z_s_au (z_s_reg σ (z_fs (z_x_reg σ) 7 ((z_x_reg σ 7) &&& b))) 0) 0) := z_ok_ca hO21 (by omega)
        refine lv_aload_n K.1 K.2.1 d_R_reckon_165 rfl (lv_at hl 1 rfl) ?_
        refine lv_aload_n K.1 K.2.1 d_R_reckon_166 rfl (lv_at hl 1 rfl) ?_
        refine qg_reg K hw d_R_reckon_167 ?_
        refine nv_bipush (v := 7) K d_R_reckon_170 (by decide) ?_
        refine ql_reg (i := 7) (v := (z_x_reg σ 7) &&& b) K hw (by omega) rfl d_R_reckon_172 ?_
        have hb23 : (z_x_reg σ 7) &&& b < 256 := by omega
        refine qkv K (r_show (σ := z_s_ca (z_s_au (z_s_reg σ (z_fs (z_x_reg σ) 7 ((z_x_reg σ 7) &&& b))) 0) 0) (v := (z_x_reg σ 7) &&& b) l D cI a hO22 (by omega)) (cw_R_67 K (Nat.le_of_ble_eq_true rfl) (Nat.le_of_ble_eq_true rfl)) hw (va_recv (ci := 3) (q0 := 0) hw.2.2.2.1 hw.1 rfl rfl) rfl hl.1 rfl (Nat.le_of_ble_eq_true rfl) d_R_reckon_173 ⟨Nat.zero_le _, Nat.zero_le _⟩ (fun H locs hw => ?_)
        have hO24 : z_Ok (z_jd (z_s_ca (z_s_au (z_s_reg σ (z_fs (z_x_reg σ) 7 ((z_x_reg σ 7) &&& b))) 0) 0) ((z_x_reg σ 7) &&& b)) := z_ok_jd hO22 (by omega)
        exact qrv K hr hlk hw (by rw [rg_jd]; exact rk_4 (by first | (rw [if_pos (by omega)]; done) | (rw [if_neg (by omega)]; done))) d_R_reckon_176
      · refine nv_iconst (v := 1) K d_R_reckon_152 (by decide) ?_
        refine lv_goto K.1 K.2.1 d_R_reckon_153 rfl ?_
        refine qp_half (v := 1) K hw d_R_reckon_157 (fun H locs hw => ?_)
        have hO25 : z_Ok (z_s_au (z_s_reg σ (z_fs (z_x_reg σ) 7 ((z_x_reg σ 7) &&& b))) 1) := z_ok_au hO14 (by omega)
        refine lv_aload_n K.1 K.2.1 d_R_reckon_160 rfl (lv_at hl 1 rfl) ?_
        refine nv_iconst (v := 0) K d_R_reckon_161 (by decide) ?_
        refine qp_c (v := 0) K hw d_R_reckon_162 (fun H locs hw => ?_)
        have hO26 : z_Ok (z_s_ca (z_s_au (z_s_reg σ (z_fs (z_x_reg σ) 7 ((z_x_reg σ 7) &&& b))) 1) 0) := z_ok_ca hO25 (by omega)
        refine lv_aload_n K.1 K.2.1 d_R_reckon_165 rfl (lv_at hl 1 rfl) ?_
        refine lv_aload_n K.1 K.2.1 d_R_reckon_166 rfl (lv_at hl 1 rfl) ?_
        refine qg_reg K hw d_R_reckon_167 ?_
        refine nv_bipush (v := 7) K d_R_reckon_170 (by decide) ?_
        refine ql_reg (i := 7) (v := (z_x_reg σ 7) &&& b) K hw (by omega) rfl d_R_reckon_172 ?_
        have hb27 : (z_x_reg σ 7) &&& b < 256 := by omega
        refine qkv K (r_show (σ := z_s_ca (z_s_au (z_s_reg σ (z_fs (z_x_reg σ) 7 ((z_x_reg σ 7) &&& b))) 1) 0) (v := (z_x_reg σ 7) &&& b) l D cI a hO26 (by omega)) (cw_R_67 K (Nat.le_of_ble_eq_true rfl) (Nat.le_of_ble_eq_true rfl)) hw (va_recv (ci := 3) (q0 := 0) hw.2.2.2.1 hw.1 rfl rfl) rfl hl.1 rfl (Nat.le_of_ble_eq_true rfl) d_R_reckon_173 ⟨Nat.zero_le _, Nat.zero_le _⟩ (fun H locs hw => ?_)
        have hO28 : z_Ok (z_jd (z_s_ca (z_s_au (z_s_reg σ (z_fs (z_x_reg σ) 7 ((z_x_reg σ 7) &&& b))) 1) 0) ((z_x_reg σ 7) &&& b)) := z_ok_jd hO26 (by omega)
        exact qrv K hr hlk hw (by rw [rg_jd]; exact rk_4 (by first | (rw [if_pos (by omega)]; done) | (rw [if_neg (by omega)]; done))) d_R_reckon_176
  · subst h2
    refine lv_iload_n K.1 K.2.1 d_R_reckon_8 rfl (lv_at hl 2 rfl) ?_
    refine nv_iconst (v := 2) K d_R_reckon_9 (by decide) ?_
    refine nv_icmp_ge K (by omega) (by omega) d_R_reckon_10 rfl (fun _ => ?_) (fun h => (by omega : False).elim)
    refine lv_iload_n K.1 K.2.1 d_R_reckon_42 rfl (lv_at hl 2 rfl) ?_
    refine nv_iconst (v := 4) K d_R_reckon_43 (by decide) ?_
    refine nv_icmp_ge K (by omega) (by omega) d_R_reckon_44 rfl (fun _ => ?_) (fun h => (by omega : False).elim)
    refine lv_iload_n K.1 K.2.1 d_R_reckon_76 rfl (lv_at hl 2 rfl) ?_
    refine nv_bipush (v := 7) K d_R_reckon_77 (by decide) ?_
    refine nv_icmp_ne K (by omega) (by omega) d_R_reckon_79 rfl (fun _ => ?_) (fun h => (by omega : False).elim)
    refine lv_aload_n K.1 K.2.1 d_R_reckon_94 rfl (lv_at hl 1 rfl) ?_
    refine qg_reg K hw d_R_reckon_95 ?_
    refine nv_bipush (v := 7) K d_R_reckon_98 (by decide) ?_
    refine lv_iload_n K.1 K.2.1 d_R_reckon_100 rfl (lv_at hl 2 rfl) ?_
    refine nv_iconst (v := 4) K d_R_reckon_101 (by decide) ?_
    refine nv_icmp_ne K (by omega) (by omega) d_R_reckon_102 rfl (fun _ => ?_) (fun h => (by omega : False).elim)
    refine lv_iload_n K.1 K.2.1 d_R_reckon_111 rfl (lv_at hl 2 rfl) ?_
    refine nv_iconst (v := 5) K d_R_reckon_112 (by decide) ?_
    refine nv_icmp_ne K (by omega) (by omega) d_R_reckon_113 rfl (fun h => (by omega : False).elim) (fun _ => ?_)
    refine lv_iload_n K.1 K.2.1 d_R_reckon_116 rfl (lv_at hl 0 rfl) ?_
    refine lv_iload_n K.1 K.2.1 d_R_reckon_117 rfl (lv_at hl 3 rfl) ?_
    refine nv_ixor K d_R_reckon_118 ?_
    have hb29 : (z_x_reg σ 7) ^^^ b < 256 := (z_bit_lt (by omega) (by omega)).2.1
    refine lv_goto K.1 K.2.1 d_R_reckon_119 rfl ?_
    refine qs_reg (i := 7) (v := (z_x_reg σ 7) ^^^ b) K hw (by omega) d_R_reckon_125 (fun H locs hw => ?_)
    have hO30 : z_Ok (z_s_reg σ (z_fs (z_x_reg σ) 7 ((z_x_reg σ 7) ^^^ b))) := z_ok_reg hO (z_fs_lt (z_k_reg hO) (by omega))
    refine lv_aload_n K.1 K.2.1 d_R_reckon_126 rfl (lv_at hl 1 rfl) ?_
    refine lv_iload_n K.1 K.2.1 d_R_reckon_127 rfl (lv_at hl 2 rfl) ?_
    refine nv_iconst (v := 4) K d_R_reckon_128 (by decide) ?_
    refine nv_icmp_ne K (by omega) (by omega) d_R_reckon_129 rfl (fun _ => ?_) (fun h => (by omega : False).elim)
    refine nv_iconst (v := 0) K d_R_reckon_156 (by decide) ?_
    refine qp_half (v := 0) K hw d_R_reckon_157 (fun H locs hw => ?_)
    have hO31 : z_Ok (z_s_au (z_s_reg σ (z_fs (z_x_reg σ) 7 ((z_x_reg σ 7) ^^^ b))) 0) := z_ok_au hO30 (by omega)
    refine lv_aload_n K.1 K.2.1 d_R_reckon_160 rfl (lv_at hl 1 rfl) ?_
    refine nv_iconst (v := 0) K d_R_reckon_161 (by decide) ?_
    refine qp_c (v := 0) K hw d_R_reckon_162 (fun H locs hw => ?_)
    have hO32 : z_Ok (z_s_ca (z_s_au (z_s_reg σ (z_fs (z_x_reg σ) 7 ((z_x_reg σ 7) ^^^ b))) 0) 0) := z_ok_ca hO31 (by omega)
    refine lv_aload_n K.1 K.2.1 d_R_reckon_165 rfl (lv_at hl 1 rfl) ?_
    refine lv_aload_n K.1 K.2.1 d_R_reckon_166 rfl (lv_at hl 1 rfl) ?_
    refine qg_reg K hw d_R_reckon_167 ?_
    refine nv_bipush (v := 7) K d_R_reckon_170 (by decide) ?_
    refine ql_reg (i := 7) (v := (z_x_reg σ 7) ^^^ b) K hw (by omega) rfl d_R_reckon_172 ?_
    refine qkv K (r_show (σ := z_s_ca (z_s_au (z_s_reg σ (z_fs (z_x_reg σ) 7 ((z_x_reg σ 7) ^^^ b))) 0) 0) (v := (z_x_reg σ 7) ^^^ b) l D cI a hO32 (by omega)) (cw_R_67 K (Nat.le_of_ble_eq_true rfl) (Nat.le_of_ble_eq_true rfl)) hw (va_recv (ci := 3) (q0 := 0) hw.2.2.2.1 hw.1 rfl rfl) rfl hl.1 rfl (Nat.le_of_ble_eq_true rfl) d_R_reckon_173 ⟨Nat.zero_le _, Nat.zero_le _⟩ (fun H locs hw => ?_)
    have hO33 : z_Ok (z_jd (z_s_ca (z_s_au (z_s_reg σ (z_fs (z_x_reg σ) 7 ((z_x_reg σ 7) ^^^ b))) 0) 0) ((z_x_reg σ 7) ^^^ b)) := z_ok_jd hO32 (by omega)
    exact qrv K hr hlk hw (by rw [rg_jd]; exact rk_c (kt_5 σ _ _) rfl) d_R_reckon_176
  · subst h2
    refine lv_iload_n K.1 K.2.1 d_R_reckon_8 rfl (lv_at hl 2 rfl) ?_
    refine nv_iconst (v := 2) K d_R_reckon_9 (by decide) ?_
    refine nv_icmp_ge K (by omega) (by omega) d_R_reckon_10 rfl (fun _ => ?_) (fun h => (by omega : False).elim)
    refine lv_iload_n K.1 K.2.1 d_R_reckon_42 rfl (lv_at hl 2 rfl) ?_
    refine nv_iconst (v := 4) K d_R_reckon_43 (by decide) ?_
    refine nv_icmp_ge K (by omega) (by omega) d_R_reckon_44 rfl (fun _ => ?_) (fun h => (by omega : False).elim)
    refine lv_iload_n K.1 K.2.1 d_R_reckon_76 rfl (lv_at hl 2 rfl) ?_
    refine nv_bipush (v := 7) K d_R_reckon_77 (by decide) ?_
    refine nv_icmp_ne K (by omega) (by omega) d_R_reckon_79 rfl (fun _ => ?_) (fun h => (by omega : False).elim)
    refine lv_aload_n K.1 K.2.1 d_R_reckon_94 rfl (lv_at hl 1 rfl) ?_
    refine qg_reg K hw d_R_reckon_95 ?_
    refine nv_bipush (v := 7) K d_R_reckon_98 (by decide) ?_
    refine lv_iload_n K.1 K.2.1 d_R_reckon_100 rfl (lv_at hl 2 rfl) ?_
    refine nv_iconst (v := 4) K d_R_reckon_101 (by decide) ?_
    refine nv_icmp_ne K (by omega) (by omega) d_R_reckon_102 rfl (fun _ => ?_) (fun h => (by omega : False).elim)
    refine lv_iload_n K.1 K.2.1 d_R_reckon_111 rfl (lv_at hl 2 rfl) ?_
    refine nv_iconst (v := 5) K d_R_reckon_112 (by decide) ?_
    refine nv_icmp_ne K (by omega) (by omega) d_R_reckon_113 rfl (fun _ => ?_) (fun h => (by omega : False).elim)
    refine lv_iload_n K.1 K.2.1 d_R_reckon_122 rfl (lv_at hl 0 rfl) ?_
    refine lv_iload_n K.1 K.2.1 d_R_reckon_123 rfl (lv_at hl 3 rfl) ?_
    refine nv_ior K d_R_reckon_124 ?_
    have hb34 : (z_x_reg σ 7) ||| b < 256 := (z_bit_lt (by omega) (by omega)).2.2
    refine qs_reg (i := 7) (v := (z_x_reg σ 7) ||| b) K hw (by omega) d_R_reckon_125 (fun H locs hw => ?_)
    have hO35 : z_Ok (z_s_reg σ (z_fs (z_x_reg σ) 7 ((z_x_reg σ 7) ||| b))) := z_ok_reg hO (z_fs_lt (z_k_reg hO) (by omega))
    refine lv_aload_n K.1 K.2.1 d_R_reckon_126 rfl (lv_at hl 1 rfl) ?_
    refine lv_iload_n K.1 K.2.1 d_R_reckon_127 rfl (lv_at hl 2 rfl) ?_
    refine nv_iconst (v := 4) K d_R_reckon_128 (by decide) ?_
    refine nv_icmp_ne K (by omega) (by omega) d_R_reckon_129 rfl (fun _ => ?_) (fun h => (by omega : False).elim)
    refine nv_iconst (v := 0) K d_R_reckon_156 (by decide) ?_
    refine qp_half (v := 0) K hw d_R_reckon_157 (fun H locs hw => ?_)
    have hO36 : z_Ok (z_s_au (z_s_reg σ (z_fs (z_x_reg σ) 7 ((z_x_reg σ 7) ||| b))) 0) := z_ok_au hO35 (by omega)
    refine lv_aload_n K.1 K.2.1 d_R_reckon_160 rfl (lv_at hl 1 rfl) ?_
    refine nv_iconst (v := 0) K d_R_reckon_161 (by decide) ?_
    refine qp_c (v := 0) K hw d_R_reckon_162 (fun H locs hw => ?_)
    have hO37 : z_Ok (z_s_ca (z_s_au (z_s_reg σ (z_fs (z_x_reg σ) 7 ((z_x_reg σ 7) ||| b))) 0) 0) := z_ok_ca hO36 (by omega)
    refine lv_aload_n K.1 K.2.1 d_R_reckon_165 rfl (lv_at hl 1 rfl) ?_
    refine lv_aload_n K.1 K.2.1 d_R_reckon_166 rfl (lv_at hl 1 rfl) ?_
    refine qg_reg K hw d_R_reckon_167 ?_
    refine nv_bipush (v := 7) K d_R_reckon_170 (by decide) ?_
    refine ql_reg (i := 7) (v := (z_x_reg σ 7) ||| b) K hw (by omega) rfl d_R_reckon_172 ?_
    refine qkv K (r_show (σ := z_s_ca (z_s_au (z_s_reg σ (z_fs (z_x_reg σ) 7 ((z_x_reg σ 7) ||| b))) 0) 0) (v := (z_x_reg σ 7) ||| b) l D cI a hO37 (by omega)) (cw_R_67 K (Nat.le_of_ble_eq_true rfl) (Nat.le_of_ble_eq_true rfl)) hw (va_recv (ci := 3) (q0 := 0) hw.2.2.2.1 hw.1 rfl rfl) rfl hl.1 rfl (Nat.le_of_ble_eq_true rfl) d_R_reckon_173 ⟨Nat.zero_le _, Nat.zero_le _⟩ (fun H locs hw => ?_)
    have hO38 : z_Ok (z_jd (z_s_ca (z_s_au (z_s_reg σ (z_fs (z_x_reg σ) 7 ((z_x_reg σ 7) ||| b))) 0) 0) ((z_x_reg σ 7) ||| b)) := z_ok_jd hO37 (by omega)
    exact qrv K hr hlk hw (by rw [rg_jd]; exact rk_c (kt_6 σ _ _) rfl) d_R_reckon_176
  · subst h2
    refine lv_iload_n K.1 K.2.1 d_R_reckon_8 rfl (lv_at hl 2 rfl) ?_
    refine nv_iconst (v := 2) K d_R_reckon_9 (by decide) ?_
    refine nv_icmp_ge K (by omega) (by omega) d_R_reckon_10 rfl (fun _ => ?_) (fun h => (by omega : False).elim)
    refine lv_iload_n K.1 K.2.1 d_R_reckon_42 rfl (lv_at hl 2 rfl) ?_
    refine nv_iconst (v := 4) K d_R_reckon_43 (by decide) ?_
    refine nv_icmp_ge K (by omega) (by omega) d_R_reckon_44 rfl (fun _ => ?_) (fun h => (by omega : False).elim)
    refine lv_iload_n K.1 K.2.1 d_R_reckon_76 rfl (lv_at hl 2 rfl) ?_
    refine nv_bipush (v := 7) K d_R_reckon_77 (by decide) ?_
    refine nv_icmp_ne K (by omega) (by omega) d_R_reckon_79 rfl (fun h => (by omega : False).elim) (fun _ => ?_)
    refine lv_aload_n K.1 K.2.1 d_R_reckon_82 rfl (lv_at hl 1 rfl) ?_
    refine lv_iload_n K.1 K.2.1 d_R_reckon_83 rfl (lv_at hl 0 rfl) ?_
    refine lv_iload_n K.1 K.2.1 d_R_reckon_84 rfl (lv_at hl 3 rfl) ?_
    refine nv_iconst (v := 0) K d_R_reckon_85 (by decide) ?_
    refine qki K (r_difference (σ := σ) (x := z_x_reg σ 7) (y := b) (z := 0) l D cI a hO (by omega) (by omega) (by omega)) (cw_R_75 K (Nat.le_of_ble_eq_true rfl) (Nat.le_of_ble_eq_true rfl)) hw (va_recv (ci := 3) (q0 := 0) hw.2.2.2.1 hw.1 rfl rfl) rfl hl.1 rfl (Nat.le_of_ble_eq_true rfl) d_R_reckon_86 ⟨Nat.zero_le _, Nat.zero_le _⟩ (fun H locs hw => ?_)
    have hO39 : z_Ok (z_jd (z_s_ca (z_s_au σ (z_g1 (z_x_reg σ 7) (255 - b) (1 - 0))) (1 - z_g2 (z_x_reg σ 7) (255 - b) (1 - 0))) (((z_x_reg σ 7) + (255 - b) + (1 - 0)) % 256)) := z_ok_jd (z_ok_ca (z_ok_au hO (z_g1_lt _ _ _)) (by omega)) (by omega)
    refine lv_istore (lv' := [(4, .int (nI (((z_x_reg σ 7) + (255 - b) + (1 - 0)) % 256))), (3, .int (nI (z_x_reg σ 7))), (0, .ref a.1), (1, .int (nI 7)), (2, .int (nI b))]) K.1 K.2.1 d_R_reckon_89 hl (by decide) rfl (fun ls hl => ?_)
    refine lv_goto K.1 K.2.1 d_R_reckon_91 rfl ?_
    exact qrv K hr hlk hw (by rw [rk_7]; exact kt_7 σ _ _) d_R_reckon_176

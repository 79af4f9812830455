set_option maxHeartbeats 4000000 in
set_option maxRecDepth 100000 in
theorem r_alter {σ : z_St} {k : Nat} (l : Launch) (D : va_G) (cI : ClassId) (a : qAd) (hO : z_Ok σ) (hk : k < 8) : qCv l y_R_alter w_R_alter 2 47 D cI a [.ref a.1, .int (nI k)] σ (z_e7 σ k) := by
  refine qcv_of (cc := b_R_alter) (maxL := 4) (ret := none) (by decide) rfl (Nat.le_of_ble_eq_true rfl) ?_
  intro p e s m below meth c ls K hr hlk hl hw
  have K : CallFix p m c b_R_alter 4 s _ (_ :: T0) "PortProcessorModel" := K
  have hl : lv_has ls 4 [(0, .ref a.1), (1, .int (nI k))] := hl
  refine lv_aload_n K.1 K.2.1 d_R_alter_0 rfl (lv_at hl 0 rfl) ?_
  refine qg_reg K hw d_R_alter_1 ?_
  refine nv_bipush (v := 7) K d_R_alter_4 (by decide) ?_
  refine ql_reg (i := 7) (v := z_x_reg σ 7) K hw (by omega) rfl d_R_alter_6 ?_
  have hb1 : z_x_reg σ 7 < 256 := z_k_reg hO _
  refine lv_istore_n (lv' := [(2, .int (nI (z_x_reg σ 7))), (0, .ref a.1), (1, .int (nI k))]) K.1 K.2.1 d_R_alter_7 rfl hl (by decide) rfl (fun ls hl => ?_)
  refine lv_aload_n K.1 K.2.1 d_R_alter_8 rfl (lv_at hl 1 rfl) ?_
  refine qg_c (v := z_x_ca σ) K hw rfl d_R_alter_9 ?_
  have hb2 : z_x_ca σ < 2 := z_k_ca hO
  refine lv_istore_n (lv' := [(3, .int (nI (z_x_ca σ))), (2, .int (nI (z_x_reg σ 7))), (0, .ref a.1), (1, .int (nI k))]) K.1 K.2.1 d_R_alter_12 rfl hl (by decide) rfl (fun ls hl => ?_)
  rcases (by omega : k = 0 ∨ k = 1 ∨ k = 2 ∨ k = 3 ∨ k = 4 ∨ k = 5 ∨ k = 6 ∨ k = 7) with h3 | h3 | h3 | h3 | h3 | h3 | h3 | h3
  · subst h3
    refine lv_iload_n K.1 K.2.1 d_R_alter_13 rfl (lv_at hl 3 rfl) ?_
    refine nv_if_eq K (by omega) d_R_alter_14 rfl (fun _ => ?_) (fun h => (by omega : False).elim)
    refine lv_aload_n K.1 K.2.1 d_R_alter_22 rfl (lv_at hl 2 rfl) ?_
    refine lv_iload_n K.1 K.2.1 d_R_alter_23 rfl (lv_at hl 1 rfl) ?_
    refine nv_sipush (v := 128) K d_R_alter_24 (by decide) ?_
    refine nv_idiv K (by omega) (by omega) (by omega) d_R_alter_27 ?_
    refine qp_c (v := (z_x_reg σ 7) / 128) K hw d_R_alter_28 (fun H locs hw => ?_)
    have hO4 : z_Ok (z_s_ca σ ((z_x_reg σ 7) / 128)) := z_ok_ca hO (by omega)
    refine lv_aload_n K.1 K.2.1 d_R_alter_31 rfl (lv_at hl 2 rfl) ?_
    refine qg_reg K hw d_R_alter_32 ?_
    refine nv_bipush (v := 7) K d_R_alter_35 (by decide) ?_
    refine lv_iload_n K.1 K.2.1 d_R_alter_37 rfl (lv_at hl 1 rfl) ?_
    refine nv_sipush (v := 128) K d_R_alter_38 (by decide) ?_
    refine nv_irem K (by omega) (by omega) (by omega) d_R_alter_41 ?_
    refine nv_iconst (v := 2) K d_R_alter_42 (by decide) ?_
    refine nv_imul K d_R_alter_43 ?_
    refine lv_iload_n K.1 K.2.1 d_R_alter_44 rfl (lv_at hl 3 rfl) ?_
    refine nv_if_ne K (by omega) d_R_alter_45 rfl (fun h => (by omega : False).elim) (fun _ => ?_)
    refine lv_aload_n K.1 K.2.1 d_R_alter_48 rfl (lv_at hl 2 rfl) ?_
    refine qg_c (v := (z_x_reg σ 7) / 128) K hw rfl d_R_alter_49 ?_
    have hb5 : (z_x_reg σ 7) / 128 < 2 := z_k_ca hO4
    refine lv_goto K.1 K.2.1 d_R_alter_52 rfl ?_
    refine nv_iadd K d_R_alter_56 ?_
    refine qs_reg (i := 7) (v := (((z_x_reg σ 7) % 128) * 2) + ((z_x_reg σ 7) / 128)) K hw (by omega) d_R_alter_57 (fun H locs hw => ?_)
    have hO6 : z_Ok (z_s_reg (z_s_ca σ ((z_x_reg σ 7) / 128)) (z_fs (z_x_reg σ) 7 ((((z_x_reg σ 7) % 128) * 2) + ((z_x_reg σ 7) / 128)))) := z_ok_reg hO4 (z_fs_lt (z_k_reg hO) (by omega))
    refine lv_goto K.1 K.2.1 d_R_alter_58 rfl ?_
    exact qrv K hr hlk hw (by rfl) d_R_alter_161
  · subst h3
    refine lv_iload_n K.1 K.2.1 d_R_alter_13 rfl (lv_at hl 3 rfl) ?_
    refine nv_if_eq K (by omega) d_R_alter_14 rfl (fun h => (by omega : False).elim) (fun _ => ?_)
    refine lv_iload_n K.1 K.2.1 d_R_alter_17 rfl (lv_at hl 3 rfl) ?_
    refine nv_iconst (v := 2) K d_R_alter_18 (by decide) ?_
    refine nv_icmp_ne K (by omega) (by omega) d_R_alter_19 rfl (fun _ => ?_) (fun h => (by omega : False).elim)
    refine lv_iload_n K.1 K.2.1 d_R_alter_61 rfl (lv_at hl 3 rfl) ?_
    refine nv_iconst (v := 1) K d_R_alter_62 (by decide) ?_
    refine nv_icmp_eq K (by omega) (by omega) d_R_alter_63 rfl (fun _ => ?_) (fun h => (by omega : False).elim)
    refine lv_aload_n K.1 K.2.1 d_R_alter_71 rfl (lv_at hl 2 rfl) ?_
    refine lv_iload_n K.1 K.2.1 d_R_alter_72 rfl (lv_at hl 1 rfl) ?_
    refine nv_iconst (v := 2) K d_R_alter_73 (by decide) ?_
    refine nv_irem K (by omega) (by omega) (by omega) d_R_alter_74 ?_
    refine qp_c (v := (z_x_reg σ 7) % 2) K hw d_R_alter_75 (fun H locs hw => ?_)
    have hO7 : z_Ok (z_s_ca σ ((z_x_reg σ 7) % 2)) := z_ok_ca hO (by omega)
    refine lv_aload_n K.1 K.2.1 d_R_alter_78 rfl (lv_at hl 2 rfl) ?_
    refine qg_reg K hw d_R_alter_79 ?_
    refine nv_bipush (v := 7) K d_R_alter_82 (by decide) ?_
    refine lv_iload_n K.1 K.2.1 d_R_alter_84 rfl (lv_at hl 1 rfl) ?_
    refine nv_iconst (v := 2) K d_R_alter_85 (by decide) ?_
    refine nv_idiv K (by omega) (by omega) (by omega) d_R_alter_86 ?_
    refine nv_sipush (v := 128) K d_R_alter_87 (by decide) ?_
    refine lv_iload_n K.1 K.2.1 d_R_alter_90 rfl (lv_at hl 3 rfl) ?_
    refine nv_iconst (v := 1) K d_R_alter_91 (by decide) ?_
    refine nv_icmp_ne K (by omega) (by omega) d_R_alter_92 rfl (fun h => (by omega : False).elim) (fun _ => ?_)
    refine lv_aload_n K.1 K.2.1 d_R_alter_95 rfl (lv_at hl 2 rfl) ?_
    refine qg_c (v := (z_x_reg σ 7) % 2) K hw rfl d_R_alter_96 ?_
    have hb8 : (z_x_reg σ 7) % 2 < 2 := by omega
    refine lv_goto K.1 K.2.1 d_R_alter_99 rfl ?_
    refine nv_imul K d_R_alter_103 ?_
    refine nv_iadd K d_R_alter_104 ?_
    refine qs_reg (i := 7) (v := ((z_x_reg σ 7) / 2) + (128 * ((z_x_reg σ 7) % 2))) K hw (by omega) d_R_alter_105 (fun H locs hw => ?_)
    have hO9 : z_Ok (z_s_reg (z_s_ca σ ((z_x_reg σ 7) % 2)) (z_fs (z_x_reg σ) 7 (((z_x_reg σ 7) / 2) + (128 * ((z_x_reg σ 7) % 2))))) := z_ok_reg hO7 (z_fs_lt (z_k_reg hO) (by omega))
    refine lv_goto K.1 K.2.1 d_R_alter_106 rfl ?_
    exact qrv K hr hlk hw (by rw [Nat.mul_comm 128]; rfl) d_R_alter_161
  · subst h3
    refine lv_iload_n K.1 K.2.1 d_R_alter_13 rfl (lv_at hl 3 rfl) ?_
    refine nv_if_eq K (by omega) d_R_alter_14 rfl (fun h => (by omega : False).elim) (fun _ => ?_)
    refine lv_iload_n K.1 K.2.1 d_R_alter_17 rfl (lv_at hl 3 rfl) ?_
    refine nv_iconst (v := 2) K d_R_alter_18 (by decide) ?_
    refine nv_icmp_ne K (by omega) (by omega) d_R_alter_19 rfl (fun h => (by omega : False).elim) (fun _ => ?_)
    refine lv_aload_n K.1 K.2.1 d_R_alter_22 rfl (lv_at hl 2 rfl) ?_
    refine lv_iload_n K.1 K.2.1 d_R_alter_23 rfl (lv_at hl 1 rfl) ?_
    refine nv_sipush (v := 128) K d_R_alter_24 (by decide) ?_
    refine nv_idiv K (by omega) (by omega) (by omega) d_R_alter_27 ?_
    refine qp_c (v := (z_x_reg σ 7) / 128) K hw d_R_alter_28 (fun H locs hw => ?_)
    have hO10 : z_Ok (z_s_ca σ ((z_x_reg σ 7) / 128)) := z_ok_ca hO (by omega)
    refine lv_aload_n K.1 K.2.1 d_R_alter_31 rfl (lv_at hl 2 rfl) ?_
    refine qg_reg K hw d_R_alter_32 ?_
    refine nv_bipush (v := 7) K d_R_alter_35 (by decide) ?_
    refine lv_iload_n K.1 K.2.1 d_R_alter_37 rfl (lv_at hl 1 rfl) ?_
    refine nv_sipush (v := 128) K d_R_alter_38 (by decide) ?_
    refine nv_irem K (by omega) (by omega) (by omega) d_R_alter_41 ?_
    refine nv_iconst (v := 2) K d_R_alter_42 (by decide) ?_
    refine nv_imul K d_R_alter_43 ?_
    refine lv_iload_n K.1 K.2.1 d_R_alter_44 rfl (lv_at hl 3 rfl) ?_
    refine nv_if_ne K (by omega) d_R_alter_45 rfl (fun _ => ?_) (fun h => (by omega : False).elim)
    refine lv_iload_n K.1 K.2.1 d_R_alter_55 rfl (lv_at hl 0 rfl) ?_
    refine nv_iadd K d_R_alter_56 ?_
    refine qs_reg (i := 7) (v := (((z_x_reg σ 7) % 128) * 2) + (z_x_ca σ)) K hw (by omega) d_R_alter_57 (fun H locs hw => ?_)
    have hO11 : z_Ok (z_s_reg (z_s_ca σ ((z_x_reg σ 7) / 128)) (z_fs (z_x_reg σ) 7 ((((z_x_reg σ 7) % 128) * 2) + (z_x_ca σ)))) := z_ok_reg hO10 (z_fs_lt (z_k_reg hO) (by omega))
    refine lv_goto K.1 K.2.1 d_R_alter_58 rfl ?_
    exact qrv K hr hlk hw (by rfl) d_R_alter_161
  · subst h3
    refine lv_iload_n K.1 K.2.1 d_R_alter_13 rfl (lv_at hl 3 rfl) ?_
    refine nv_if_eq K (by omega) d_R_alter_14 rfl (fun h => (by omega : False).elim) (fun _ => ?_)
    refine lv_iload_n K.1 K.2.1 d_R_alter_17 rfl (lv_at hl 3 rfl) ?_
    refine nv_iconst (v := 2) K d_R_alter_18 (by decide) ?_
    refine nv_icmp_ne K (by omega) (by omega) d_R_alter_19 rfl (fun _ => ?_) (fun h => (by omega : False).elim)
    refine lv_iload_n K.1 K.2.1 d_R_alter_61 rfl (lv_at hl 3 rfl) ?_
    refine nv_iconst (v := 1) K d_R_alter_62 (by decide) ?_
    refine nv_icmp_eq K (by omega) (by omega) d_R_alter_63 rfl (fun h => (by omega : False).elim) (fun _ => ?_)
    refine lv_iload_n K.1 K.2.1 d_R_alter_66 rfl (lv_at hl 3 rfl) ?_
    refine nv_iconst (v := 3) K d_R_alter_67 (by decide) ?_
    refine nv_icmp_ne K (by omega) (by omega) d_R_alter_68 rfl (fun h => (by omega : False).elim) (fun _ => ?_)
    refine lv_aload_n K.1 K.2.1 d_R_alter_71 rfl (lv_at hl 2 rfl) ?_
    refine lv_iload_n K.1 K.2.1 d_R_alter_72 rfl (lv_at hl 1 rfl) ?_
    refine nv_iconst (v := 2) K d_R_alter_73 (by decide) ?_
    refine nv_irem K (by omega) (by omega) (by omega) d_R_alter_74 ?_
    refine qp_c (v := (z_x_reg σ 7) % 2) K hw d_R_alter_75 (fun H locs hw => ?_)
    have hO12 : z_Ok (z_s_ca σ ((z_x_reg σ 7) % 2)) := z_ok_ca hO (by omega)
    refine lv_aload_n K.1 K.2.1 d_R_alter_78 rfl (lv_at hl 2 rfl) ?_
    refine qg_reg K hw d_R_alter_79 ?_
    refine nv_bipush (v := 7) K d_R_alter_82 (by decide) ?_
    refine lv_iload_n K.1 K.2.1 d_R_alter_84 rfl (lv_at hl 1 rfl) ?_
    refine nv_iconst (v := 2) K d_R_alter_85 (by decide) ?_
    refine nv_idiv K (by omega) (by omega) (by omega) d_R_alter_86 ?_
    refine nv_sipush (v := 128) K d_R_alter_87 (by decide) ?_
    refine lv_iload_n K.1 K.2.1 d_R_alter_90 rfl (lv_at hl 3 rfl) ?_
    refine nv_iconst (v := 1) K d_R_alter_91 (by decide) ?_
    refine nv_icmp_ne K (by omega) (by omega) d_R_alter_92 rfl (fun _ => ?_) (fun h => (by omega : False).elim)
    refine lv_iload_n K.1 K.2.1 d_R_alter_102 rfl (lv_at hl 0 rfl) ?_
    refine nv_imul K d_R_alter_103 ?_
    refine nv_iadd K d_R_alter_104 ?_
    refine qs_reg (i := 7) (v := ((z_x_reg σ 7) / 2) + (128 * (z_x_ca σ))) K hw (by omega) d_R_alter_105 (fun H locs hw => ?_)
    have hO13 : z_Ok (z_s_reg (z_s_ca σ ((z_x_reg σ 7) % 2)) (z_fs (z_x_reg σ) 7 (((z_x_reg σ 7) / 2) + (128 * (z_x_ca σ))))) := z_ok_reg hO12 (z_fs_lt (z_k_reg hO) (by omega))
    refine lv_goto K.1 K.2.1 d_R_alter_106 rfl ?_
    exact qrv K hr hlk hw (by rw [Nat.mul_comm 128]; rfl) d_R_alter_161
  · subst h3
    refine lv_iload_n K.1 K.2.1 d_R_alter_13 rfl (lv_at hl 3 rfl) ?_
    refine nv_if_eq K (by omega) d_R_alter_14 rfl (fun h => (by omega : False).elim) (fun _ => ?_)
    refine lv_iload_n K.1 K.2.1 d_R_alter_17 rfl (lv_at hl 3 rfl) ?_
    refine nv_iconst (v := 2) K d_R_alter_18 (by decide) ?_
    refine nv_icmp_ne K (by omega) (by omega) d_R_alter_19 rfl (fun _ => ?_) (fun h => (by omega : False).elim)
    refine lv_iload_n K.1 K.2.1 d_R_alter_61 rfl (lv_at hl 3 rfl) ?_
    refine nv_iconst (v := 1) K d_R_alter_62 (by decide) ?_
    refine nv_icmp_eq K (by omega) (by omega) d_R_alter_63 rfl (fun h => (by omega : False).elim) (fun _ => ?_)
    refine lv_iload_n K.1 K.2.1 d_R_alter_66 rfl (lv_at hl 3 rfl) ?_
    refine nv_iconst (v := 3) K d_R_alter_67 (by decide) ?_
    refine nv_icmp_ne K (by omega) (by omega) d_R_alter_68 rfl (fun _ => ?_) (fun h => (by omega : False).elim)
    refine lv_iload_n K.1 K.2.1 d_R_alter_109 rfl (lv_at hl 3 rfl) ?_
    refine nv_iconst (v := 4) K d_R_alter_110 (by decide) ?_
    refine nv_icmp_ne K (by omega) (by omega) d_R_alter_111 rfl (fun h => (by omega : False).elim) (fun _ => ?_)
    refine lv_aload_n K.1 K.2.1 d_R_alter_114 rfl (lv_at hl 2 rfl) ?_
    refine qkv K (r_decimal (σ := σ) l D cI a hO) (cw_R_112 K (Nat.le_of_ble_eq_true rfl) (Nat.le_of_ble_eq_true rfl)) hw (va_recv (ci := 3) (q0 := 0) hw.2.2.2.1 hw.1 rfl rfl) rfl hl.1 rfl (Nat.le_of_ble_eq_true rfl) d_R_alter_115 ⟨Nat.zero_le _, Nat.zero_le _⟩ (fun H locs hw => ?_)
    have hO14 : z_Ok (z_A7 (z_dd σ (z_x_reg σ 7)) (z_dv σ (z_x_reg σ 7))) := z_ok_A7 (z_ok_dd hO _) (z_dv_lt _ _)
    refine lv_goto K.1 K.2.1 d_R_alter_118 rfl ?_
    exact qrv K hr hlk hw (by rfl) d_R_alter_161
  · subst h3
    refine lv_iload_n K.1 K.2.1 d_R_alter_13 rfl (lv_at hl 3 rfl) ?_
    refine nv_if_eq K (by omega) d_R_alter_14 rfl (fun h => (by omega : False).elim) (fun _ => ?_)
    refine lv_iload_n K.1 K.2.1 d_R_alter_17 rfl (lv_at hl 3 rfl) ?_
    refine nv_iconst (v := 2) K d_R_alter_18 (by decide) ?_
    refine nv_icmp_ne K (by omega) (by omega) d_R_alter_19 rfl (fun _ => ?_) (fun h => (by omega : False).elim)
    refine lv_iload_n K.1 K.2.1 d_R_alter_61 rfl (lv_at hl 3 rfl) ?_
    refine nv_iconst (v := 1) K d_R_alter_62 (by decide) ?_
    refine nv_icmp_eq K (by omega) (by omega) d_R_alter_63 rfl (fun h => (by omega : False).elim) (fun _ => ?_)
    refine lv_iload_n K.1 K.2.1 d_R_alter_66 rfl (lv_at hl 3 rfl) ?_
    refine nv_iconst (v := 3) K d_R_alter_67 (by decide) ?_
    refine nv_icmp_ne K (by omega) (by omega) d_R_alter_68 rfl (fun _ => ?_) (fun h => (by omega : False).elim)
    refine lv_iload_n K.1 K.2.1 d_R_alter_109 rfl (lv_at hl 3 rfl) ?_
    refine nv_iconst (v := 4) K d_R_alter_110 (by decide) ?_
    refine nv_icmp_ne K (by omega) (by omega) d_R_alter_111 rfl (fun _ => ?_) (fun h => (by omega : False).elim)
    refine lv_iload_n K.1 K.2.1 d_R_alter_121 rfl (lv_at hl 3 rfl) ?_
    refine nv_iconst (v := 5) K d_R_alter_122 (by decide) ?_
    refine nv_icmp_ne K (by omega) (by omega) d_R_alter_123 rfl (fun h => (by omega : False).elim) (fun _ => ?_)
    refine lv_aload_n K.1 K.2.1 d_R_alter_126 rfl (lv_at hl 2 rfl) ?_
    refine qg_reg K hw d_R_alter_127 ?_
    refine nv_bipush (v := 7) K d_R_alter_130 (by decide) ?_
    refine nv_sipush (v := 255) K d_R_alter_132 (by decide) ?_
    refine lv_iload_n K.1 K.2.1 d_R_alter_135 rfl (lv_at hl 1 rfl) ?_
    refine nv_isub K (by omega) d_R_alter_136 ?_
    refine qs_reg (i := 7) (v := 255 - (z_x_reg σ 7)) K hw (by omega) d_R_alter_137 (fun H locs hw => ?_)
    have hO15 : z_Ok (z_s_reg σ (z_fs (z_x_reg σ) 7 (255 - (z_x_reg σ 7)))) := z_ok_reg hO (z_fs_lt (z_k_reg hO) (by omega))
    refine lv_goto K.1 K.2.1 d_R_alter_138 rfl ?_
    exact qrv K hr hlk hw (by rfl) d_R_alter_161
  · subst h3
    refine lv_iload_n K.1 K.2.1 d_R_alter_13 rfl (lv_at hl 3 rfl) ?_
    refine nv_if_eq K (by omega) d_R_alter_14 rfl (fun h => (by omega : False).elim) (fun _ => ?_)
    refine lv_iload_n K.1 K.2.1 d_R_alter_17 rfl (lv_at hl 3 rfl) ?_
    refine nv_iconst (v := 2) K d_R_alter_18 (by decide) ?_
    refine nv_icmp_ne K (by omega) (by omega) d_R_alter_19 rfl (fun _ => ?_) (fun h => (by omega : False).elim)
    refine lv_iload_n K.1 K.2.1 d_R_alter_61 rfl (lv_at hl 3 rfl) ?_
    refine nv_iconst (v := 1) K d_R_alter_62 (by decide) ?_
    refine nv_icmp_eq K (by omega) (by omega) d_R_alter_63 rfl (fun h => (by omega : False).elim) (fun _ => ?_)
    refine lv_iload_n K.1 K.2.1 d_R_alter_66 rfl (lv_at hl 3 rfl) ?_
    refine nv_iconst (v := 3) K d_R_alter_67 (by decide) ?_
    refine nv_icmp_ne K (by omega) (by omega) d_R_alter_68 rfl (fun _ => ?_) (fun h => (by omega : False).elim)
    refine lv_iload_n K.1 K.2.1 d_R_alter_109 rfl (lv_at hl 3 rfl) ?_
    refine nv_iconst (v := 4) K d_R_alter_110 (by decide) ?_
    refine nv_icmp_ne K (by omega) (by omega) d_R_alter_111 rfl (fun _ => ?_) (fun h => (by omega : False).elim)
    refine lv_iload_n K.1 K.2.1 d_R_alter_121 rfl (lv_at hl 3 rfl) ?_
    refine nv_iconst (v := 5) K d_R_alter_122 (by decide) ?_
    refine nv_icmp_ne K (by omega) (by omega) d_R_alter_123 rfl (fun _ => ?_) (fun h => (by omega : False).elim)
    refine lv_aload_n K.1 K.2.1 d_R_alter_141 rfl (lv_at hl 2 rfl) ?_
    refine lv_iload_n K.1 K.2.1 d_R_alter_142 rfl (lv_at hl 3 rfl) ?_
    refine nv_bipush (v := 6) K d_R_alter_143 (by decide) ?_
    refine nv_icmp_ne K (by omega) (by omega) d_R_alter_145 rfl (fun h => (by omega : False).elim) (fun _ => ?_)
    refine nv_iconst (v := 1) K d_R_alter_148 (by decide) ?_
    refine lv_goto K.1 K.2.1 d_R_alter_149 rfl ?_
    refine qp_c (v := 1) K hw d_R_alter_158 (fun H locs hw => ?_)
    have hO16 : z_Ok (z_s_ca σ 1) := z_ok_ca hO (by omega)
    exact qrv K hr hlk hw (by rfl) d_R_alter_161
  · subst h3
    refine lv_iload_n K.1 K.2.1 d_R_alter_13 rfl (lv_at hl 3 rfl) ?_
    refine nv_if_eq K (by omega) d_R_alter_14 rfl (fun h => (by omega : False).elim) (fun _ => ?_)
    refine lv_iload_n K.1 K.2.1 d_R_alter_17 rfl (lv_at hl 3 rfl) ?_
    refine nv_iconst (v := 2) K d_R_alter_18 (by decide) ?_
    refine nv_icmp_ne K (by omega) (by omega) d_R_alter_19 rfl (fun _ => ?_) (fun h => (by omega : False).elim)
    refine lv_iload_n K.1 K.2.1 d_R_alter_61 rfl (lv_at hl 3 rfl) ?_
    refine nv_iconst (v := 1) K d_R_alter_62 (by decide) ?_
    refine nv_icmp_eq K (by omega) (by omega) d_R_alter_63 rfl (fun h => (by omega : False).elim) (fun _ => ?_)
    refine lv_iload_n K.1 K.2.1 d_R_alter_66 rfl (lv_at hl 3 rfl) ?_
    refine nv_iconst (v := 3) K d_R_alter_67 (by decide) ?_
    refine nv_icmp_ne K (by omega) (by omega) d_R_alter_68 rfl (fun _ => ?_) (fun h => (by omega : False).elim)
    refine lv_iload_n K.1 K.2.1 d_R_alter_109 rfl (lv_at hl 3 rfl) ?_
    refine nv_iconst (v := 4) K d_R_alter_110 (by decide) ?_
    refine nv_icmp_ne K (by omega) (by omega) d_R_alter_111 rfl (fun _ => ?_) (fun h => (by omega : False).elim)
    refine lv_iload_n K.1 K.2.1 d_R_alter_121 rfl (lv_at hl 3 rfl) ?_
    refine nv_iconst (v := 5) K d_R_alter_122 (by decide) ?_
    refine nv_icmp_ne K (by omega) (by omega) d_R_alter_123 rfl (fun _ => ?_) (fun h => (by omega : False).elim)
    refine lv_aload_n K.1 K.2.1 d_R_alter_141 rfl (lv_at hl 2 rfl) ?_
    refine lv_iload_n K.1 K.2.1 d_R_alter_142 rfl (lv_at hl 3 rfl) ?_
    refine nv_bipush (v := 6) K d_R_alter_143 (by decide) ?_
    refine nv_icmp_ne K (by omega) (by omega) d_R_alter_145 rfl (fun _ => ?_) (fun h => (by omega : False).elim)
    refine nv_iconst (v := 1) K d_R_alter_152 (by decide) ?_
    refine lv_aload_n K.1 K.2.1 d_R_alter_153 rfl (lv_at hl 2 rfl) ?_
    refine qg_c (v := z_x_ca σ) K hw rfl d_R_alter_154 ?_
    refine nv_isub K (by omega) d_R_alter_157 ?_
    refine qp_c (v := 1 - (z_x_ca σ)) K hw d_R_alter_158 (fun H locs hw => ?_)
    have hO17 : z_Ok (z_s_ca σ (1 - (z_x_ca σ))) := z_ok_ca hO (by omega)
    exact qrv K hr hlk hw (by rfl) d_R_alter_161

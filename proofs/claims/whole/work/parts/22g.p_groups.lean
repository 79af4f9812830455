set_option maxHeartbeats 4000000 in
set_option maxRecDepth 100000 in
theorem c_workOnA {σ : z_St} {b : Nat} (l : Launch) (D : va_G) (cI : ClassId) (a : pAd) (hO : z_Ok σ) (hb : b < 64) : pCi l y_P_workOnA w_P_workOnA 3 65 D cI a [.ref a.1, .int (nI b)] σ (z_e7 σ (b / 8)) (nI 4) := by
  refine pci_of (cc := b_P_workOnA) (maxL := 3) (ret := (some .int)) (by decide) rfl (Nat.le_of_ble_eq_true rfl) ?_
  intro p e s m below meth c ls K hr hlk hl hw
  have K : CallFix p m c b_P_workOnA 3 s _ (_ :: T0) "PortProcessor" := K
  have hl : lv_has ls 3 [(0, .ref a.1), (1, .int (nI b))] := hl
  refine lv_aload_n K.1 K.2.1 d_P_workOnA_0 rfl (lv_at hl 0 rfl) ?_
  refine pg_registers K hw d_P_workOnA_1 ?_
  refine nv_bipush (v := 7) K d_P_workOnA_4 (by decide) ?_
  refine pl_reg (i := 7) (v := z_x_reg σ 7) K hw (by omega) rfl d_P_workOnA_6 ?_
  have hb1 : z_x_reg σ 7 < 256 := z_k_reg hO _
  refine lv_istore_n (lv' := [(2, .int (nI (z_x_reg σ 7))), (0, .ref a.1), (1, .int (nI b))]) K.1 K.2.1 d_P_workOnA_7 rfl hl (by decide) rfl (fun ls hl => ?_)
  refine lv_iload_n K.1 K.2.1 d_P_workOnA_8 rfl (lv_at hl 2 rfl) ?_
  refine nv_iconst (v := 3) K d_P_workOnA_9 (by decide) ?_
  refine nv_ishr (M := 8) K (by omega) rfl (by omega) d_P_workOnA_10 ?_
  rcases (by omega : (b / 8) = 0 ∨ (b / 8) = 1 ∨ (b / 8) = 2 ∨ (b / 8) = 3 ∨ (b / 8) = 4 ∨ (b / 8) = 5 ∨ (b / 8) = 6 ∨ (b / 8) = 7) with h2 | h2 | h2 | h2 | h2 | h2 | h2 | h2
  · refine nv_as K (congrArg nI h2) ?_
    refine nv_tabIn (a := 0) (tgt := 52) K d_P_workOnA_11 (by decide) (by decide) (by decide) rfl rfl ?_
    refine lv_aload_n K.1 K.2.1 d_P_workOnA_52 rfl (lv_at hl 1 rfl) ?_
    refine pg_registers K hw d_P_workOnA_53 ?_
    refine nv_bipush (v := 7) K d_P_workOnA_56 (by decide) ?_
    refine lv_aload_n K.1 K.2.1 d_P_workOnA_58 rfl (lv_at hl 1 rfl) ?_
    refine pg_flags K hw d_P_workOnA_59 ?_
    refine lv_iload_n K.1 K.2.1 d_P_workOnA_62 rfl (lv_at hl 0 rfl) ?_
    refine lv_iload_n K.1 K.2.1 d_P_workOnA_63 rfl (lv_at hl 0 rfl) ?_
    refine nv_bipush (v := 7) K d_P_workOnA_64 (by decide) ?_
    refine nv_ishr (M := 128) K (by omega) rfl (by omega) d_P_workOnA_66 ?_
    refine pki K (c_turnedLeft (σ := σ) (v := z_x_reg σ 7) (z := (z_x_reg σ 7) / 128) l D cI a hO (by omega) (by omega)) (cw_P_224 K (Nat.le_of_ble_eq_true rfl) (Nat.le_of_ble_eq_true rfl)) hw (va_recv (ci := 2) (q0 := 2) hw.2.2.2.1 hw.1 rfl rfl) rfl hl.1 rfl (Nat.le_of_ble_eq_true rfl) d_P_workOnA_67 ⟨Nat.zero_le _, Nat.zero_le _⟩ (fun H locs hw => ?_)
    have hO3 : z_Ok (z_s_ca σ ((z_x_reg σ 7) / 128)) := z_ok_ca hO (by omega)
    have hb4 : (z_x_reg σ 7) % 128 * 2 + ((z_x_reg σ 7) / 128) < 256 := (by omega)
    refine ps_reg (i := 7) (v := (z_x_reg σ 7) % 128 * 2 + ((z_x_reg σ 7) / 128)) K hw (by omega) d_P_workOnA_70 (fun H locs hw => ?_)
    have hO5 : z_Ok (z_s_reg (z_s_ca σ ((z_x_reg σ 7) / 128)) (z_fs (z_x_reg σ) 7 ((z_x_reg σ 7) % 128 * 2 + ((z_x_reg σ 7) / 128)))) := z_ok_reg hO3 (z_fs_lt (z_k_reg hO) (by omega))
    refine lv_goto K.1 K.2.1 d_P_workOnA_71 rfl ?_
    refine nv_iconst (v := 4) K d_P_workOnA_211 (by decide) ?_
    exact pri K hr hlk hw (by rw [h2]; first | rfl | (rw [nz_not (z_k_ca hO)]; rfl)) (by first | rfl | (simp [h2]; done) | (congr 1; omega) | (simp [h2]; omega)) d_P_workOnA_212
  · refine nv_as K (congrArg nI h2) ?_
    refine nv_tabIn (a := 1) (tgt := 74) K d_P_workOnA_11 (by decide) (by decide) (by decide) rfl rfl ?_
    refine lv_aload_n K.1 K.2.1 d_P_workOnA_74 rfl (lv_at hl 1 rfl) ?_
    refine pg_registers K hw d_P_workOnA_75 ?_
    refine nv_bipush (v := 7) K d_P_workOnA_78 (by decide) ?_
    refine lv_aload_n K.1 K.2.1 d_P_workOnA_80 rfl (lv_at hl 1 rfl) ?_
    refine pg_flags K hw d_P_workOnA_81 ?_
    refine lv_iload_n K.1 K.2.1 d_P_workOnA_84 rfl (lv_at hl 0 rfl) ?_
    refine lv_iload_n K.1 K.2.1 d_P_workOnA_85 rfl (lv_at hl 0 rfl) ?_
    refine nv_iconst (v := 1) K d_P_workOnA_86 (by decide) ?_
    refine nv_mask (M := 2) K 1 rfl rfl d_P_workOnA_87 ?_
    refine pki K (c_turnedRight (σ := σ) (v := z_x_reg σ 7) (z := (z_x_reg σ 7) % 2) l D cI a hO (by omega) (by omega)) (cw_P_228 K (Nat.le_of_ble_eq_true rfl) (Nat.le_of_ble_eq_true rfl)) hw (va_recv (ci := 2) (q0 := 2) hw.2.2.2.1 hw.1 rfl rfl) rfl hl.1 rfl (Nat.le_of_ble_eq_true rfl) d_P_workOnA_88 ⟨Nat.zero_le _, Nat.zero_le _⟩ (fun H locs hw => ?_)
    have hO6 : z_Ok (z_s_ca σ ((z_x_reg σ 7) % 2)) := z_ok_ca hO (by omega)
    have hb7 : (z_x_reg σ 7) / 2 + ((z_x_reg σ 7) % 2) * 128 < 256 := (by omega)
    refine ps_reg (i := 7) (v := (z_x_reg σ 7) / 2 + ((z_x_reg σ 7) % 2) * 128) K hw (by omega) d_P_workOnA_91 (fun H locs hw => ?_)
    have hO8 : z_Ok (z_s_reg (z_s_ca σ ((z_x_reg σ 7) % 2)) (z_fs (z_x_reg σ) 7 ((z_x_reg σ 7) / 2 + ((z_x_reg σ 7) % 2) * 128))) := z_ok_reg hO6 (z_fs_lt (z_k_reg hO) (by omega))
    refine lv_goto K.1 K.2.1 d_P_workOnA_92 rfl ?_
    refine nv_iconst (v := 4) K d_P_workOnA_211 (by decide) ?_
    exact pri K hr hlk hw (by rw [h2]; first | rfl | (rw [nz_not (z_k_ca hO)]; rfl)) (by first | rfl | (simp [h2]; done) | (congr 1; omega) | (simp [h2]; omega)) d_P_workOnA_212
  · refine nv_as K (congrArg nI h2) ?_
    refine nv_tabIn (a := 2) (tgt := 95) K d_P_workOnA_11 (by decide) (by decide) (by decide) rfl rfl ?_
    refine lv_aload_n K.1 K.2.1 d_P_workOnA_95 rfl (lv_at hl 1 rfl) ?_
    refine pg_registers K hw d_P_workOnA_96 ?_
    refine nv_bipush (v := 7) K d_P_workOnA_99 (by decide) ?_
    refine lv_aload_n K.1 K.2.1 d_P_workOnA_101 rfl (lv_at hl 1 rfl) ?_
    refine pg_flags K hw d_P_workOnA_102 ?_
    refine lv_iload_n K.1 K.2.1 d_P_workOnA_105 rfl (lv_at hl 0 rfl) ?_
    refine lv_aload_n K.1 K.2.1 d_P_workOnA_106 rfl (lv_at hl 1 rfl) ?_
    refine pg_flags K hw d_P_workOnA_107 ?_
    refine pki K (c_carryBit (σ := σ) l D cI a hO) (cw_P_231 K (Nat.le_of_ble_eq_true rfl) (Nat.le_of_ble_eq_true rfl)) hw (va_recv (ci := 2) (q0 := 2) hw.2.2.2.1 hw.1 rfl rfl) rfl hl.1 rfl (Nat.le_of_ble_eq_true rfl) d_P_workOnA_110 ⟨Nat.zero_le _, Nat.zero_le _⟩ (fun H locs hw => ?_)
    have hb9 : z_x_ca σ < 2 := z_k_ca hO
    refine pki K (c_turnedLeft (σ := σ) (v := z_x_reg σ 7) (z := z_x_ca σ) l D cI a hO (by omega) (by omega)) (cw_P_224 K (Nat.le_of_ble_eq_true rfl) (Nat.le_of_ble_eq_true rfl)) hw (va_recv (ci := 2) (q0 := 2) hw.2.2.2.1 hw.1 rfl rfl) rfl hl.1 rfl (Nat.le_of_ble_eq_true rfl) d_P_workOnA_113 ⟨Nat.zero_le _, Nat.zero_le _⟩ (fun H locs hw => ?_)
    have hO10 : z_Ok (z_s_ca σ ((z_x_reg σ 7) / 128)) := z_ok_ca hO (by omega)
    have hb11 : (z_x_reg σ 7) % 128 * 2 + (z_x_ca σ) < 256 := (by omega)
    refine ps_reg (i := 7) (v := (z_x_reg σ 7) % 128 * 2 + (z_x_ca σ)) K hw (by omega) d_P_workOnA_116 (fun H locs hw => ?_)
    have hO12 : z_Ok (z_s_reg (z_s_ca σ ((z_x_reg σ 7) / 128)) (z_fs (z_x_reg σ) 7 ((z_x_reg σ 7) % 128 * 2 + (z_x_ca σ)))) := z_ok_reg hO10 (z_fs_lt (z_k_reg hO) (by omega))
    refine lv_goto K.1 K.2.1 d_P_workOnA_117 rfl ?_
    refine nv_iconst (v := 4) K d_P_workOnA_211 (by decide) ?_
    exact pri K hr hlk hw (by rw [h2]; first | rfl | (rw [nz_not (z_k_ca hO)]; rfl)) (by first | rfl | (simp [h2]; done) | (congr 1; omega) | (simp [h2]; omega)) d_P_workOnA_212
  · refine nv_as K (congrArg nI h2) ?_
    refine nv_tabIn (a := 3) (tgt := 120) K d_P_workOnA_11 (by decide) (by decide) (by decide) rfl rfl ?_
    refine lv_aload_n K.1 K.2.1 d_P_workOnA_120 rfl (lv_at hl 1 rfl) ?_
    refine pg_registers K hw d_P_workOnA_121 ?_
    refine nv_bipush (v := 7) K d_P_workOnA_124 (by decide) ?_
    refine lv_aload_n K.1 K.2.1 d_P_workOnA_126 rfl (lv_at hl 1 rfl) ?_
    refine pg_flags K hw d_P_workOnA_127 ?_
    refine lv_iload_n K.1 K.2.1 d_P_workOnA_130 rfl (lv_at hl 0 rfl) ?_
    refine lv_aload_n K.1 K.2.1 d_P_workOnA_131 rfl (lv_at hl 1 rfl) ?_
    refine pg_flags K hw d_P_workOnA_132 ?_
    refine pki K (c_carryBit (σ := σ) l D cI a hO) (cw_P_231 K (Nat.le_of_ble_eq_true rfl) (Nat.le_of_ble_eq_true rfl)) hw (va_recv (ci := 2) (q0 := 2) hw.2.2.2.1 hw.1 rfl rfl) rfl hl.1 rfl (Nat.le_of_ble_eq_true rfl) d_P_workOnA_135 ⟨Nat.zero_le _, Nat.zero_le _⟩ (fun H locs hw => ?_)
    have hb13 : z_x_ca σ < 2 := z_k_ca hO
    refine pki K (c_turnedRight (σ := σ) (v := z_x_reg σ 7) (z := z_x_ca σ) l D cI a hO (by omega) (by omega)) (cw_P_228 K (Nat.le_of_ble_eq_true rfl) (Nat.le_of_ble_eq_true rfl)) hw (va_recv (ci := 2) (q0 := 2) hw.2.2.2.1 hw.1 rfl rfl) rfl hl.1 rfl (Nat.le_of_ble_eq_true rfl) d_P_workOnA_138 ⟨Nat.zero_le _, Nat.zero_le _⟩ (fun H locs hw => ?_)
    have hO14 : z_Ok (z_s_ca σ ((z_x_reg σ 7) % 2)) := z_ok_ca hO (by omega)
    have hb15 : (z_x_reg σ 7) / 2 + (z_x_ca σ) * 128 < 256 := (by omega)
    refine ps_reg (i := 7) (v := (z_x_reg σ 7) / 2 + (z_x_ca σ) * 128) K hw (by omega) d_P_workOnA_141 (fun H locs hw => ?_)
    have hO16 : z_Ok (z_s_reg (z_s_ca σ ((z_x_reg σ 7) % 2)) (z_fs (z_x_reg σ) 7 ((z_x_reg σ 7) / 2 + (z_x_ca σ) * 128))) := z_ok_reg hO14 (z_fs_lt (z_k_reg hO) (by omega))
    refine lv_goto K.1 K.2.1 d_P_workOnA_142 rfl ?_
    refine nv_iconst (v := 4) K d_P_workOnA_211 (by decide) ?_
    exact pri K hr hlk hw (by rw [h2]; first | rfl | (rw [nz_not (z_k_ca hO)]; rfl)) (by first | rfl | (simp [h2]; done) | (congr 1; omega) | (simp [h2]; omega)) d_P_workOnA_212
  · refine nv_as K (congrArg nI h2) ?_
    refine nv_tabIn (a := 4) (tgt := 145) K d_P_workOnA_11 (by decide) (by decide) (by decide) rfl rfl ?_
    refine lv_aload_n K.1 K.2.1 d_P_workOnA_145 rfl (lv_at hl 1 rfl) ?_
    refine pg_registers K hw d_P_workOnA_146 ?_
    refine nv_bipush (v := 7) K d_P_workOnA_149 (by decide) ?_
    refine lv_aload_n K.1 K.2.1 d_P_workOnA_151 rfl (lv_at hl 1 rfl) ?_
    refine pg_flags K hw d_P_workOnA_152 ?_
    refine lv_iload_n K.1 K.2.1 d_P_workOnA_155 rfl (lv_at hl 0 rfl) ?_
    refine pki K (c_decimalOf (σ := σ) (v := z_x_reg σ 7) l D cI a hO (by omega)) (cw_P_234 K (Nat.le_of_ble_eq_true rfl) (Nat.le_of_ble_eq_true rfl)) hw (va_recv (ci := 2) (q0 := 2) hw.2.2.2.1 hw.1 rfl rfl) rfl hl.1 rfl (Nat.le_of_ble_eq_true rfl) d_P_workOnA_156 ⟨Nat.zero_le _, Nat.zero_le _⟩ (fun H locs hw => ?_)
    have hO17 : z_Ok (z_dd σ (z_x_reg σ 7)) := z_ok_dd hO _
    have hb18 : z_dv σ (z_x_reg σ 7) < 256 := z_dv_lt _ _
    refine ps_reg (i := 7) (v := z_dv σ (z_x_reg σ 7)) K hw (by omega) d_P_workOnA_159 (fun H locs hw => ?_)
    have hO19 : z_Ok (z_s_reg (z_dd σ (z_x_reg σ 7)) (z_fs (z_x_reg σ) 7 (z_dv σ (z_x_reg σ 7)))) := z_ok_reg hO17 (z_fs_lt (z_k_reg hO) (by omega))
    refine lv_goto K.1 K.2.1 d_P_workOnA_160 rfl ?_
    refine nv_iconst (v := 4) K d_P_workOnA_211 (by decide) ?_
    exact pri K hr hlk hw (by rw [h2]; first | rfl | (rw [nz_not (z_k_ca hO)]; rfl)) (by first | rfl | (simp [h2]; done) | (congr 1; omega) | (simp [h2]; omega)) d_P_workOnA_212
  · refine nv_as K (congrArg nI h2) ?_
    refine nv_tabIn (a := 5) (tgt := 163) K d_P_workOnA_11 (by decide) (by decide) (by decide) rfl rfl ?_
    refine lv_aload_n K.1 K.2.1 d_P_workOnA_163 rfl (lv_at hl 1 rfl) ?_
    refine pg_registers K hw d_P_workOnA_164 ?_
    refine nv_bipush (v := 7) K d_P_workOnA_167 (by decide) ?_
    refine nv_sipush (v := 255) K d_P_workOnA_169 (by decide) ?_
    refine lv_iload_n K.1 K.2.1 d_P_workOnA_172 rfl (lv_at hl 0 rfl) ?_
    refine nv_isub K (by omega) d_P_workOnA_173 ?_
    refine ps_reg (i := 7) (v := 255 - (z_x_reg σ 7)) K hw (by omega) d_P_workOnA_174 (fun H locs hw => ?_)
    have hO20 : z_Ok (z_s_reg σ (z_fs (z_x_reg σ) 7 (255 - (z_x_reg σ 7)))) := z_ok_reg hO (z_fs_lt (z_k_reg hO) (by omega))
    refine lv_goto K.1 K.2.1 d_P_workOnA_175 rfl ?_
    refine nv_iconst (v := 4) K d_P_workOnA_211 (by decide) ?_
    exact pri K hr hlk hw (by rw [h2]; first | rfl | (rw [nz_not (z_k_ca hO)]; rfl)) (by first | rfl | (simp [h2]; done) | (congr 1; omega) | (simp [h2]; omega)) d_P_workOnA_212
  · refine nv_as K (congrArg nI h2) ?_
    refine nv_tabIn (a := 6) (tgt := 178) K d_P_workOnA_11 (by decide) (by decide) (by decide) rfl rfl ?_
    refine lv_aload_n K.1 K.2.1 d_P_workOnA_178 rfl (lv_at hl 1 rfl) ?_
    refine pg_flags K hw d_P_workOnA_179 ?_
    refine nv_iconst (v := 1) K d_P_workOnA_182 (by decide) ?_
    refine pkv K (c_takeCarry (σ := σ) (v := 1) l D cI a hO (by omega)) (cw_P_202 K (Nat.le_of_ble_eq_true rfl) (Nat.le_of_ble_eq_true rfl)) hw (va_recv (ci := 2) (q0 := 2) hw.2.2.2.1 hw.1 rfl rfl) rfl hl.1 rfl (Nat.le_of_ble_eq_true rfl) d_P_workOnA_183 ⟨Nat.zero_le _, Nat.zero_le _⟩ (fun H locs hw => ?_)
    have hO21 : z_Ok (z_s_ca σ 1) := z_ok_ca hO (by omega)
    refine lv_goto K.1 K.2.1 d_P_workOnA_186 rfl ?_
    refine nv_iconst (v := 4) K d_P_workOnA_211 (by decide) ?_
    exact pri K hr hlk hw (by rw [h2]; first | rfl | (rw [nz_not (z_k_ca hO)]; rfl)) (by first | rfl | (simp [h2]; done) | (congr 1; omega) | (simp [h2]; omega)) d_P_workOnA_212
  · refine nv_as K (congrArg nI h2) ?_
    refine nv_tabOut (a := 7) (tgt := 189) K d_P_workOnA_11 (by decide) (by decide) rfl ?_
    refine lv_aload_n K.1 K.2.1 d_P_workOnA_189 rfl (lv_at hl 1 rfl) ?_
    refine pg_flags K hw d_P_workOnA_190 ?_
    refine lv_aload_n K.1 K.2.1 d_P_workOnA_193 rfl (lv_at hl 1 rfl) ?_
    refine pg_flags K hw d_P_workOnA_194 ?_
    refine pki K (c_carryBit (σ := σ) l D cI a hO) (cw_P_231 K (Nat.le_of_ble_eq_true rfl) (Nat.le_of_ble_eq_true rfl)) hw (va_recv (ci := 2) (q0 := 2) hw.2.2.2.1 hw.1 rfl rfl) rfl hl.1 rfl (Nat.le_of_ble_eq_true rfl) d_P_workOnA_197 ⟨Nat.zero_le _, Nat.zero_le _⟩ (fun H locs hw => ?_)
    have hb22 : z_x_ca σ < 2 := z_k_ca hO
    refine nf_if_ne (u := 0) (v := 1) (Y := 208) K (by omega) d_P_workOnA_200 rfl (fun _ k => nv_iconst (v := 0) K d_P_workOnA_207 (by decide) k) (fun _ k => nv_iconst (v := 1) K d_P_workOnA_203 (by decide) (lv_goto K.1 K.2.1 d_P_workOnA_204 rfl k)) ?_
    have hb23 : (if (z_x_ca σ) = 0 then 1 else 0) < 2 := z_ite_ltB _ (by omega) (by omega)
    refine pkv K (c_takeCarry (σ := σ) (v := (if (z_x_ca σ) = 0 then 1 else 0)) l D cI a hO (by omega)) (cw_P_202 K (Nat.le_of_ble_eq_true rfl) (Nat.le_of_ble_eq_true rfl)) hw (va_recv (ci := 2) (q0 := 2) hw.2.2.2.1 hw.1 rfl rfl) rfl hl.1 rfl (Nat.le_of_ble_eq_true rfl) d_P_workOnA_208 ⟨Nat.zero_le _, Nat.zero_le _⟩ (fun H locs hw => ?_)
    have hO24 : z_Ok (z_s_ca σ (if (z_x_ca σ) = 0 then 1 else 0)) := z_ok_ca hO (by omega)
    refine nv_iconst (v := 4) K d_P_workOnA_211 (by decide) ?_
    exact pri K hr hlk hw (by rw [h2]; first | rfl | (rw [nz_not (z_k_ca hO)]; rfl)) (by first | rfl | (simp [h2]; done) | (congr 1; omega) | (simp [h2]; omega)) d_P_workOnA_212

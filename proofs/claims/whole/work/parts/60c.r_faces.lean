set_option maxHeartbeats 4000000 in
set_option maxRecDepth 100000 in
theorem r_set {σ : z_St} {x y : Nat} (l : Launch) (D : va_G) (cI : ClassId) (a : qAd) (hO : z_Ok σ) (hx : x < 10) (h6 : x ≠ 6) (hy : y < 65536) (hy2 : x ≠ 9 → y < 256) : qCv l y_R_set w_R_set 1 21 D cI a [.ref a.1, .int (nI x), .int (nI y)] σ (zf_set (z_s_th σ 0) x y) := by
  refine qcv_of (cc := b_R_set) (maxL := 3) (ret := none) (by decide) rfl (Nat.le_of_ble_eq_true rfl) ?_
  intro p e s m below meth c ls K hr hlk hl hw
  have K : CallFix p m c b_R_set 3 s _ (_ :: T0) "PortProcessorModel" := K
  have hl : lv_has ls 3 [(0, .ref a.1), (1, .int (nI x)), (2, .int (nI y))] := hl
  refine lv_aload_n K.1 K.2.1 d_R_set_0 rfl (lv_at hl 0 rfl) ?_
  refine lv_iload_n K.1 K.2.1 d_R_set_1 rfl (lv_at hl 1 rfl) ?_
  refine nv_bipush (v := 10) K d_R_set_2 (by decide) ?_
  refine qsi K (r_outside (σ := σ) (x := x) (y := 10) l D cI a hO (by omega) (by omega)) (cw_R_154 K (Nat.le_of_ble_eq_true rfl) (Nat.le_of_ble_eq_true rfl)) hw rfl hl.1 rfl (Nat.le_of_ble_eq_true rfl) d_R_set_4 ⟨Nat.zero_le _, Nat.zero_le _⟩ (fun H locs hw => ?_)
  refine nv_if_ne K (by omega) d_R_set_7 rfl (fun h => (by omega : False).elim) (fun _ => ?_)
  refine lv_iload_n K.1 K.2.1 d_R_set_10 rfl (lv_at hl 1 rfl) ?_
  refine nv_bipush (v := 6) K d_R_set_11 (by decide) ?_
  refine nv_icmp_eq K (by omega) (by omega) d_R_set_13 rfl (fun h => (by omega : False).elim) (fun _ => ?_)
  refine lv_iload_n K.1 K.2.1 d_R_set_16 rfl (lv_at hl 2 rfl) ?_
  refine lv_iload_n K.1 K.2.1 d_R_set_17 rfl (lv_at hl 1 rfl) ?_
  refine nv_bipush (v := 9) K d_R_set_18 (by decide) ?_
  refine nv_icmp_ne K (by omega) (by omega) d_R_set_20 rfl (fun h1 => ?_) (fun h1 => ?_)
  · refine nv_sipush (v := 256) K d_R_set_28 (by decide) ?_
    refine qsi K (r_outside (σ := σ) (x := y) (y := 256) l D cI a hO (by omega) (by omega)) (cw_R_154 K (Nat.le_of_ble_eq_true rfl) (Nat.le_of_ble_eq_true rfl)) hw rfl hl.1 rfl (Nat.le_of_ble_eq_true rfl) d_R_set_31 ⟨Nat.zero_le _, Nat.zero_le _⟩ (fun H locs hw => ?_)
    refine nv_if_eq K (by omega) d_R_set_34 rfl (fun _ => ?_) (fun h => (by omega : False).elim)
    refine nv_iconst (v := 0) K d_R_set_41 (by decide) ?_
    refine qp_thrown (v := 0) K hw d_R_set_42 (fun H locs hw => ?_)
    have hO2 : z_Ok (z_s_th σ 0) := z_ok_th hO
    refine lv_aload_n K.1 K.2.1 d_R_set_45 rfl (lv_at hl 0 rfl) ?_
    refine qg_thrown (v := 0) K hw rfl d_R_set_46 ?_
    refine nv_if_le K (by omega) d_R_set_49 rfl (fun _ => ?_) (fun h => (by omega : False).elim)
    refine lv_iload_n K.1 K.2.1 d_R_set_53 rfl (lv_at hl 1 rfl) ?_
    refine nv_bipush (v := 8) K d_R_set_54 (by decide) ?_
    refine nv_icmp_ge K (by omega) (by omega) d_R_set_56 rfl (fun h3 => ?_) (fun h3 => ?_)
    · refine lv_iload_n K.1 K.2.1 d_R_set_69 rfl (lv_at hl 1 rfl) ?_
      refine nv_bipush (v := 8) K d_R_set_70 (by decide) ?_
      refine nv_icmp_ne K (by omega) (by omega) d_R_set_72 rfl (fun h4 => ?_) (fun h4 => ?_)
      · refine lv_aload_n K.1 K.2.1 d_R_set_83 rfl (lv_at hl 0 rfl) ?_
        refine lv_iload_n K.1 K.2.1 d_R_set_84 rfl (lv_at hl 2 rfl) ?_
        refine qp_sp (v := y) K hw d_R_set_85 (fun H locs hw => ?_)
        have hO5 : z_Ok (z_s_sp (z_s_th σ 0) y) := z_ok_sp hO2 (by omega)
        exact qrv K hr hlk hw (by rw [show x = 9 by omega]; rfl) d_R_set_88
      · refine lv_aload_n K.1 K.2.1 d_R_set_75 rfl (lv_at hl 0 rfl) ?_
        refine lv_iload_n K.1 K.2.1 d_R_set_76 rfl (lv_at hl 2 rfl) ?_
        refine qkv K (r_setFlags (σ := z_s_th σ 0) (v := y) l D cI a hO2 (by omega)) (cw_R_134 K (Nat.le_of_ble_eq_true rfl) (Nat.le_of_ble_eq_true rfl)) hw (va_recv (ci := 3) (q0 := 0) hw.2.2.2.1 hw.1 rfl rfl) rfl hl.1 rfl (Nat.le_of_ble_eq_true rfl) d_R_set_77 ⟨Nat.zero_le _, Nat.zero_le _⟩ (fun H locs hw => ?_)
        have hO6 : z_Ok (z_ff (z_s_th σ 0) y) := z_ok_ff hO2 _
        refine lv_goto K.1 K.2.1 d_R_set_80 rfl ?_
        exact qrv K hr hlk hw (by rw [show x = 8 by omega]; rfl) d_R_set_88
    · refine lv_aload_n K.1 K.2.1 d_R_set_59 rfl (lv_at hl 0 rfl) ?_
      refine qg_reg K hw d_R_set_60 ?_
      refine lv_iload_n K.1 K.2.1 d_R_set_63 rfl (lv_at hl 1 rfl) ?_
      refine lv_iload_n K.1 K.2.1 d_R_set_64 rfl (lv_at hl 2 rfl) ?_
      refine qs_reg (i := x) (v := y) K hw (by omega) d_R_set_65 (fun H locs hw => ?_)
      have hO7 : z_Ok (z_s_reg (z_s_th σ 0) (z_fs (z_x_reg σ) x y)) := z_ok_reg hO2 (z_fs_lt (z_k_reg hO) (by omega))
      refine lv_goto K.1 K.2.1 d_R_set_66 rfl ?_
      exact qrv K hr hlk hw (by exact zf_setS _ (by omega)) d_R_set_88
  · refine nv_ldc (v := 65536) K d_R_set_23 (K.2.2.2.2 _ (List.mem_cons_of_mem _ m_constant_PortProcessorModel_48_65536)) ?_
    refine lv_goto K.1 K.2.1 d_R_set_25 rfl ?_
    refine qsi K (r_outside (σ := σ) (x := y) (y := 65536) l D cI a hO (by omega) (by omega)) (cw_R_154 K (Nat.le_of_ble_eq_true rfl) (Nat.le_of_ble_eq_true rfl)) hw rfl hl.1 rfl (Nat.le_of_ble_eq_true rfl) d_R_set_31 ⟨Nat.zero_le _, Nat.zero_le _⟩ (fun H locs hw => ?_)
    refine nv_if_eq K (by omega) d_R_set_34 rfl (fun _ => ?_) (fun h => (by omega : False).elim)
    refine nv_iconst (v := 0) K d_R_set_41 (by decide) ?_
    refine qp_thrown (v := 0) K hw d_R_set_42 (fun H locs hw => ?_)
    have hO8 : z_Ok (z_s_th σ 0) := z_ok_th hO
    refine lv_aload_n K.1 K.2.1 d_R_set_45 rfl (lv_at hl 0 rfl) ?_
    refine qg_thrown (v := 0) K hw rfl d_R_set_46 ?_
    refine nv_if_le K (by omega) d_R_set_49 rfl (fun _ => ?_) (fun h => (by omega : False).elim)
    refine lv_iload_n K.1 K.2.1 d_R_set_53 rfl (lv_at hl 1 rfl) ?_
    refine nv_bipush (v := 8) K d_R_set_54 (by decide) ?_
    refine nv_icmp_ge K (by omega) (by omega) d_R_set_56 rfl (fun _ => ?_) (fun h => (by omega : False).elim)
    refine lv_iload_n K.1 K.2.1 d_R_set_69 rfl (lv_at hl 1 rfl) ?_
    refine nv_bipush (v := 8) K d_R_set_70 (by decide) ?_
    refine nv_icmp_ne K (by omega) (by omega) d_R_set_72 rfl (fun _ => ?_) (fun h => (by omega : False).elim)
    refine lv_aload_n K.1 K.2.1 d_R_set_83 rfl (lv_at hl 0 rfl) ?_
    refine lv_iload_n K.1 K.2.1 d_R_set_84 rfl (lv_at hl 2 rfl) ?_
    refine qp_sp (v := y) K hw d_R_set_85 (fun H locs hw => ?_)
    have hO9 : z_Ok (z_s_sp (z_s_th σ 0) y) := z_ok_sp hO8 (by omega)
    exact qrv K hr hlk hw (by rw [show x = 9 by omega]; rfl) d_R_set_88

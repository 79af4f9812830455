set_option maxHeartbeats 4000000 in
set_option maxRecDepth 100000 in
theorem c_set {σ : z_St} {x y : Nat} (l : Launch) (D : va_G) (cI : ClassId) (a : pAd) (hO : z_Ok σ) (hx : x < 10) (h6 : x ≠ 6) (hy : y < 65536) (hy2 : x ≠ 9 → y < 256) : pCv l y_P_set w_P_set 1 21 D cI a [.ref a.1, .int (nI x), .int (nI y)] σ (zf_set σ x y) := by
  refine pcv_of (cc := b_P_set) (maxL := 4) (ret := none) (by decide) rfl (Nat.le_of_ble_eq_true rfl) ?_
  intro p e s m below meth c ls K hr hlk hl hw
  have K : CallFix p m c b_P_set 4 s _ (_ :: T0) "PortProcessor" := K
  have hl : lv_has ls 4 [(0, .ref a.1), (1, .int (nI x)), (2, .int (nI y))] := hl
  refine lv_iload_n K.1 K.2.1 d_P_set_0 rfl (lv_at hl 1 rfl) ?_
  refine nv_if_lt K (by omega) d_P_set_1 rfl ?_
  refine lv_iload_n K.1 K.2.1 d_P_set_4 rfl (lv_at hl 1 rfl) ?_
  refine nv_bipush (v := 9) K d_P_set_5 (by decide) ?_
  refine nv_icmp_gt K (by omega) (by omega) d_P_set_7 rfl (fun h => (by omega : False).elim) (fun _ => ?_)
  refine lv_iload_n K.1 K.2.1 d_P_set_10 rfl (lv_at hl 1 rfl) ?_
  refine nv_bipush (v := 6) K d_P_set_11 (by decide) ?_
  refine nv_icmp_ne K (by omega) (by omega) d_P_set_13 rfl (fun _ => ?_) (fun h => (by omega : False).elim)
  refine lv_iload_n K.1 K.2.1 d_P_set_26 rfl (lv_at hl 1 rfl) ?_
  refine nv_bipush (v := 9) K d_P_set_27 (by decide) ?_
  refine nv_icmp_ne K (by omega) (by omega) d_P_set_29 rfl (fun h1 => ?_) (fun h1 => ?_)
  · refine nv_sipush (v := 255) K d_P_set_37 (by decide) ?_
    refine lv_istore_n (lv' := [(3, .int (nI 255)), (0, .ref a.1), (1, .int (nI x)), (2, .int (nI y))]) K.1 K.2.1 d_P_set_40 rfl hl (by decide) rfl (fun ls hl => ?_)
    refine lv_iload_n K.1 K.2.1 d_P_set_41 rfl (lv_at hl 3 rfl) ?_
    refine nv_if_lt K (by omega) d_P_set_42 rfl ?_
    refine lv_iload_n K.1 K.2.1 d_P_set_45 rfl (lv_at hl 3 rfl) ?_
    refine lv_iload_n K.1 K.2.1 d_P_set_46 rfl (lv_at hl 0 rfl) ?_
    refine nv_icmp_le K (by omega) (by omega) d_P_set_47 rfl (fun _ => ?_) (fun h => (by omega : False).elim)
    refine lv_iload_n K.1 K.2.1 d_P_set_60 rfl (lv_at hl 2 rfl) ?_
    refine nv_bipush (v := 9) K d_P_set_61 (by decide) ?_
    refine nv_icmp_ne K (by omega) (by omega) d_P_set_63 rfl (fun _ => ?_) (fun h => (by omega : False).elim)
    refine lv_iload_n K.1 K.2.1 d_P_set_74 rfl (lv_at hl 2 rfl) ?_
    refine nv_bipush (v := 8) K d_P_set_75 (by decide) ?_
    refine nv_icmp_ne K (by omega) (by omega) d_P_set_77 rfl (fun h2 => ?_) (fun h2 => ?_)
    · refine lv_aload_n K.1 K.2.1 d_P_set_91 rfl (lv_at hl 1 rfl) ?_
      refine pg_registers K hw d_P_set_92 ?_
      refine lv_iload_n K.1 K.2.1 d_P_set_95 rfl (lv_at hl 2 rfl) ?_
      refine lv_iload_n K.1 K.2.1 d_P_set_96 rfl (lv_at hl 3 rfl) ?_
      refine ps_reg (i := x) (v := y) K hw (by omega) d_P_set_97 (fun H locs hw => ?_)
      have hO3 : z_Ok (z_s_reg σ (z_fs (z_x_reg σ) x y)) := z_ok_reg hO (z_fs_lt (z_k_reg hO) (by omega))
      exact prv K hr hlk hw (by exact zf_setS _ (by omega)) d_P_set_98
    · refine lv_aload_n K.1 K.2.1 d_P_set_80 rfl (lv_at hl 1 rfl) ?_
      refine pg_flags K hw d_P_set_81 ?_
      refine lv_iload_n K.1 K.2.1 d_P_set_84 rfl (lv_at hl 3 rfl) ?_
      refine pkv K (c_takeByte (σ := σ) (v := y) l D cI a hO (by omega)) (cw_P_98 K (Nat.le_of_ble_eq_true rfl) (Nat.le_of_ble_eq_true rfl)) hw (va_recv (ci := 2) (q0 := 2) hw.2.2.2.1 hw.1 rfl rfl) rfl hl.1 rfl (Nat.le_of_ble_eq_true rfl) d_P_set_85 ⟨Nat.zero_le _, Nat.zero_le _⟩ (fun H locs hw => ?_)
      have hO4 : z_Ok (z_ff σ y) := z_ok_ff hO _
      refine lv_goto K.1 K.2.1 d_P_set_88 rfl ?_
      exact prv K hr hlk hw (by rw [h2]; rfl) d_P_set_98
  · refine nv_ldc (v := 65535) K d_P_set_32 (K.2.2.2.2 _ (List.mem_cons_of_mem _ m_constant_PortProcessor_56_65535)) ?_
    refine lv_goto K.1 K.2.1 d_P_set_34 rfl ?_
    refine lv_istore_n (lv' := [(3, .int (nI 65535)), (0, .ref a.1), (1, .int (nI x)), (2, .int (nI y))]) K.1 K.2.1 d_P_set_40 rfl hl (by decide) rfl (fun ls hl => ?_)
    refine lv_iload_n K.1 K.2.1 d_P_set_41 rfl (lv_at hl 3 rfl) ?_
    refine nv_if_lt K (by omega) d_P_set_42 rfl ?_
    refine lv_iload_n K.1 K.2.1 d_P_set_45 rfl (lv_at hl 3 rfl) ?_
    refine lv_iload_n K.1 K.2.1 d_P_set_46 rfl (lv_at hl 0 rfl) ?_
    refine nv_icmp_le K (by omega) (by omega) d_P_set_47 rfl (fun _ => ?_) (fun h => (by omega : False).elim)
    refine lv_iload_n K.1 K.2.1 d_P_set_60 rfl (lv_at hl 2 rfl) ?_
    refine nv_bipush (v := 9) K d_P_set_61 (by decide) ?_
    refine nv_icmp_ne K (by omega) (by omega) d_P_set_63 rfl (fun h => (by omega : False).elim) (fun _ => ?_)
    refine lv_aload_n K.1 K.2.1 d_P_set_66 rfl (lv_at hl 1 rfl) ?_
    refine lv_iload_n K.1 K.2.1 d_P_set_67 rfl (lv_at hl 3 rfl) ?_
    refine pp_stackPointer (v := y) K hw d_P_set_68 (fun H locs hw => ?_)
    have hO5 : z_Ok (z_s_sp σ y) := z_ok_sp hO (by omega)
    refine lv_goto K.1 K.2.1 d_P_set_71 rfl ?_
    exact prv K hr hlk hw (by rw [h1]; rfl) d_P_set_98

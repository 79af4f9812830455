set_option maxHeartbeats 4000000 in
set_option maxRecDepth 100000 in
theorem r_outside {σ : z_St} {x y : Nat} (l : Launch) (D : va_G) (cI : ClassId) (a : qAd) (hO : z_Ok σ) (hx : x < y) (hy : y < 2147483648) : qCi l y_R_outside w_R_outside 0 0 D cI a [.int (nI x), .int (nI y)] σ σ (nI 0) := by
  refine qci_of (cc := b_R_outside) (maxL := 2) (ret := (some .boolean)) (by decide) rfl (Nat.le_of_ble_eq_true rfl) ?_
  intro p e s m below meth c ls K hr hlk hl hw
  have K : CallFix p m c b_R_outside 2 s _ (_ :: T0) "PortProcessorModel" := K
  have hl : lv_has ls 2 [(0, .int (nI x)), (1, .int (nI y))] := hl
  refine lv_iload_n K.1 K.2.1 d_R_outside_0 rfl (lv_at hl 0 rfl) ?_
  refine nv_if_lt K (by omega) d_R_outside_1 rfl ?_
  refine lv_iload_n K.1 K.2.1 d_R_outside_4 rfl (lv_at hl 0 rfl) ?_
  refine lv_iload_n K.1 K.2.1 d_R_outside_5 rfl (lv_at hl 1 rfl) ?_
  refine nv_icmp_lt K (by omega) (by omega) d_R_outside_6 rfl (fun _ => ?_) (fun h => (by omega : False).elim)
  refine nv_iconst (v := 0) K d_R_outside_13 (by decide) ?_
  exact qrz K hr hlk hw (by rfl) (by omega) (by rfl) d_R_outside_14
set_option maxHeartbeats 4000000 in
set_option maxRecDepth 100000 in
theorem r_outsideX {σ : z_St} {y : Nat} {x : Int32} (l : Launch) (D : va_G) (cI : ClassId) (a : qAd) (hO : z_Ok σ) (hx : x < 0 ∨ nI y ≤ x) : qCi l y_R_outside w_R_outside 0 0 D cI a [.int x, .int (nI y)] σ σ (nI 1) := by
  refine qci_of (cc := b_R_outside) (maxL := 2) (ret := (some .boolean)) (by decide) rfl (Nat.le_of_ble_eq_true rfl) ?_
  intro p e s m below meth c ls K hr hlk hl hw
  have K : CallFix p m c b_R_outside 2 s _ (_ :: T0) "PortProcessorModel" := K
  have hl : lv_has ls 2 [(0, .int x), (1, .int (nI y))] := hl
  refine lv_iload_n K.1 K.2.1 d_R_outside_0 rfl (lv_at hl 0 rfl) ?_
  refine lv_if_lt K.1 K.2.1 d_R_outside_1 rfl (fun h1 => ?_) (fun h1 => ?_)
  · refine nv_iconst (v := 1) K d_R_outside_9 (by decide) ?_
    refine lv_goto K.1 K.2.1 d_R_outside_10 rfl ?_
    exact qrz K hr hlk hw (by rfl) (by omega) (by rfl) d_R_outside_14
  · refine lv_iload_n K.1 K.2.1 d_R_outside_4 rfl (lv_at hl 0 rfl) ?_
    refine lv_iload_n K.1 K.2.1 d_R_outside_5 rfl (lv_at hl 1 rfl) ?_
    refine lv_icmp_lt K.1 K.2.1 d_R_outside_6 rfl (fun h2 => (rw_a hx h1 h2).elim) (fun h2 => ?_)
    refine nv_iconst (v := 1) K d_R_outside_9 (by decide) ?_
    refine lv_goto K.1 K.2.1 d_R_outside_10 rfl ?_
    exact qrz K hr hlk hw (by rfl) (by omega) (by rfl) d_R_outside_14
set_option maxHeartbeats 4000000 in
set_option maxRecDepth 100000 in
theorem r_thrown {σ : z_St} (l : Launch) (D : va_G) (cI : ClassId) (a : qAd) (hO : z_Ok σ) : qCi l y_R_thrown w_R_thrown 0 0 D cI a [.ref a.1] σ σ (nI (z_x_th σ)) := by
  refine qci_of (cc := b_R_thrown) (maxL := 1) (ret := (some .int)) (by decide) rfl (Nat.le_of_ble_eq_true rfl) ?_
  intro p e s m below meth c ls K hr hlk hl hw
  have K : CallFix p m c b_R_thrown 1 s _ (_ :: T0) "PortProcessorModel" := K
  have hl : lv_has ls 1 [(0, .ref a.1)] := hl
  refine lv_aload_n K.1 K.2.1 d_R_thrown_0 rfl (lv_at hl 0 rfl) ?_
  refine qg_thrown (v := z_x_th σ) K hw rfl d_R_thrown_1 ?_
  exact qri K hr hlk hw (by rfl) (by rfl) d_R_thrown_4
set_option maxHeartbeats 4000000 in
set_option maxRecDepth 100000 in
theorem r_peek {σ : z_St} {x : Nat} (l : Launch) (D : va_G) (cI : ClassId) (a : qAd) (hO : z_Ok σ) (hx : x < 1024) : qCi l y_R_peek w_R_peek 1 21 D cI a [.ref a.1, .int (nI x)] σ (z_s_th σ 0) (nI (z_x_mem σ x)) := by
  refine qci_of (cc := b_R_peek) (maxL := 2) (ret := (some .int)) (by decide) rfl (Nat.le_of_ble_eq_true rfl) ?_
  intro p e s m below meth c ls K hr hlk hl hw
  have K : CallFix p m c b_R_peek 2 s _ (_ :: T0) "PortProcessorModel" := K
  have hl : lv_has ls 2 [(0, .ref a.1), (1, .int (nI x))] := hl
  refine lv_aload_n K.1 K.2.1 d_R_peek_0 rfl (lv_at hl 0 rfl) ?_
  refine lv_iload_n K.1 K.2.1 d_R_peek_1 rfl (lv_at hl 1 rfl) ?_
  refine nv_sipush (v := 1024) K d_R_peek_2 (by decide) ?_
  refine qsi K (r_outside (σ := σ) (x := x) (y := 1024) l D cI a hO (by omega) (by omega)) (cw_R_154 K (Nat.le_of_ble_eq_true rfl) (Nat.le_of_ble_eq_true rfl)) hw rfl hl.1 rfl (Nat.le_of_ble_eq_true rfl) d_R_peek_5 ⟨Nat.zero_le _, Nat.zero_le _⟩ (fun H locs hw => ?_)
  refine nv_if_eq K (by omega) d_R_peek_8 rfl (fun _ => ?_) (fun h => (by omega : False).elim)
  refine nv_iconst (v := 0) K d_R_peek_15 (by decide) ?_
  refine qp_thrown (v := 0) K hw d_R_peek_16 (fun H locs hw => ?_)
  have hO1 : z_Ok (z_s_th σ 0) := z_ok_th hO
  refine lv_aload_n K.1 K.2.1 d_R_peek_19 rfl (lv_at hl 0 rfl) ?_
  refine qg_thrown (v := 0) K hw rfl d_R_peek_20 ?_
  refine nv_if_le K (by omega) d_R_peek_23 rfl (fun _ => ?_) (fun h => (by omega : False).elim)
  refine lv_aload_n K.1 K.2.1 d_R_peek_30 rfl (lv_at hl 0 rfl) ?_
  refine qg_memory K hw d_R_peek_31 ?_
  refine lv_iload_n K.1 K.2.1 d_R_peek_34 rfl (lv_at hl 1 rfl) ?_
  refine ql_mem (i := x) (v := z_x_mem σ x) K hw (by omega) rfl d_R_peek_35 ?_
  have hb2 : z_x_mem σ x < 256 := z_k_mem hO _
  exact qri K hr hlk hw (by rfl) (by rfl) d_R_peek_36
set_option maxHeartbeats 4000000 in
set_option maxRecDepth 100000 in
theorem r_start {σ : z_St} {x : Nat} (l : Launch) (D : va_G) (cI : ClassId) (a : qAd) (hO : z_Ok σ) (hx : x < 65536) : qCv l y_R_start w_R_start 1 21 D cI a [.ref a.1, .int (nI x)] σ (z_s_ha (z_s_pc (z_s_th σ 0) x) 0) := by
  refine qcv_of (cc := b_R_start) (maxL := 2) (ret := none) (by decide) rfl (Nat.le_of_ble_eq_true rfl) ?_
  intro p e s m below meth c ls K hr hlk hl hw
  have K : CallFix p m c b_R_start 2 s _ (_ :: T0) "PortProcessorModel" := K
  have hl : lv_has ls 2 [(0, .ref a.1), (1, .int (nI x))] := hl
  refine lv_aload_n K.1 K.2.1 d_R_start_0 rfl (lv_at hl 0 rfl) ?_
  refine lv_iload_n K.1 K.2.1 d_R_start_1 rfl (lv_at hl 1 rfl) ?_
  refine nv_ldc (v := 65536) K d_R_start_2 (K.2.2.2.2 _ (List.mem_cons_of_mem _ m_constant_PortProcessorModel_48_65536)) ?_
  refine qsi K (r_outside (σ := σ) (x := x) (y := 65536) l D cI a hO (by omega) (by omega)) (cw_R_154 K (Nat.le_of_ble_eq_true rfl) (Nat.le_of_ble_eq_true rfl)) hw rfl hl.1 rfl (Nat.le_of_ble_eq_true rfl) d_R_start_4 ⟨Nat.zero_le _, Nat.zero_le _⟩ (fun H locs hw => ?_)
  refine nv_if_eq K (by omega) d_R_start_7 rfl (fun _ => ?_) (fun h => (by omega : False).elim)
  refine nv_iconst (v := 0) K d_R_start_14 (by decide) ?_
  refine qp_thrown (v := 0) K hw d_R_start_15 (fun H locs hw => ?_)
  have hO1 : z_Ok (z_s_th σ 0) := z_ok_th hO
  refine lv_aload_n K.1 K.2.1 d_R_start_18 rfl (lv_at hl 0 rfl) ?_
  refine qg_thrown (v := 0) K hw rfl d_R_start_19 ?_
  refine nv_if_le K (by omega) d_R_start_22 rfl (fun _ => ?_) (fun h => (by omega : False).elim)
  refine lv_aload_n K.1 K.2.1 d_R_start_26 rfl (lv_at hl 0 rfl) ?_
  refine lv_iload_n K.1 K.2.1 d_R_start_27 rfl (lv_at hl 1 rfl) ?_
  refine qp_pc (v := x) K hw d_R_start_28 (fun H locs hw => ?_)
  have hO2 : z_Ok (z_s_pc (z_s_th σ 0) x) := z_ok_pc hO1 (by omega)
  refine lv_aload_n K.1 K.2.1 d_R_start_31 rfl (lv_at hl 0 rfl) ?_
  refine nv_iconst (v := 0) K d_R_start_32 (by decide) ?_
  refine qp_halted (v := 0) K hw (by omega) d_R_start_33 (fun H locs hw => ?_)
  have hO3 : z_Ok (z_s_ha (z_s_pc (z_s_th σ 0) x) 0) := z_ok_ha hO2 (by omega)
  exact qrv K hr hlk hw (by rfl) d_R_start_36
set_option maxHeartbeats 4000000 in
set_option maxRecDepth 100000 in
theorem r_interrupt {σ : z_St} {x : Nat} (l : Launch) (D : va_G) (cI : ClassId) (a : qAd) (hO : z_Ok σ) (hx : x < 8) : qCv l y_R_interrupt w_R_interrupt 1 21 D cI a [.ref a.1, .int (nI x)] σ (z_s_wa (z_s_th σ 0) (x + 1)) := by
  refine qcv_of (cc := b_R_interrupt) (maxL := 2) (ret := none) (by decide) rfl (Nat.le_of_ble_eq_true rfl) ?_
  intro p e s m below meth c ls K hr hlk hl hw
  have K : CallFix p m c b_R_interrupt 2 s _ (_ :: T0) "PortProcessorModel" := K
  have hl : lv_has ls 2 [(0, .ref a.1), (1, .int (nI x))] := hl
  refine lv_aload_n K.1 K.2.1 d_R_interrupt_0 rfl (lv_at hl 0 rfl) ?_
  refine lv_iload_n K.1 K.2.1 d_R_interrupt_1 rfl (lv_at hl 1 rfl) ?_
  refine nv_bipush (v := 8) K d_R_interrupt_2 (by decide) ?_
  refine qsi K (r_outside (σ := σ) (x := x) (y := 8) l D cI a hO (by omega) (by omega)) (cw_R_154 K (Nat.le_of_ble_eq_true rfl) (Nat.le_of_ble_eq_true rfl)) hw rfl hl.1 rfl (Nat.le_of_ble_eq_true rfl) d_R_interrupt_4 ⟨Nat.zero_le _, Nat.zero_le _⟩ (fun H locs hw => ?_)
  refine nv_if_eq K (by omega) d_R_interrupt_7 rfl (fun _ => ?_) (fun h => (by omega : False).elim)
  refine nv_iconst (v := 0) K d_R_interrupt_14 (by decide) ?_
  refine qp_thrown (v := 0) K hw d_R_interrupt_15 (fun H locs hw => ?_)
  have hO1 : z_Ok (z_s_th σ 0) := z_ok_th hO
  refine lv_aload_n K.1 K.2.1 d_R_interrupt_18 rfl (lv_at hl 0 rfl) ?_
  refine qg_thrown (v := 0) K hw rfl d_R_interrupt_19 ?_
  refine nv_if_ne K (by omega) d_R_interrupt_22 rfl (fun h => (by omega : False).elim) (fun _ => ?_)
  refine lv_aload_n K.1 K.2.1 d_R_interrupt_25 rfl (lv_at hl 0 rfl) ?_
  refine lv_iload_n K.1 K.2.1 d_R_interrupt_26 rfl (lv_at hl 1 rfl) ?_
  refine qp_waiting (v := x) K hw d_R_interrupt_27 (fun H locs hw => ?_)
  have hO2 : z_Ok (z_s_wa (z_s_th σ 0) (x + 1)) := z_ok_wa hO1 (by omega)
  exact qrv K hr hlk hw (by rfl) d_R_interrupt_30
set_option maxHeartbeats 4000000 in
set_option maxRecDepth 100000 in
theorem r_bring {σ : z_St} {x y : Nat} (l : Launch) (D : va_G) (cI : ClassId) (a : qAd) (hO : z_Ok σ) (hx : x < 256) (hy : y < 256) : qCv l y_R_bring w_R_bring 1 21 D cI a [.ref a.1, .int (nI x), .int (nI y)] σ (z_s_inn (z_s_th σ 0) (z_fs (z_x_inn σ) x y)) := by
  refine qcv_of (cc := b_R_bring) (maxL := 3) (ret := none) (by decide) rfl (Nat.le_of_ble_eq_true rfl) ?_
  intro p e s m below meth c ls K hr hlk hl hw
  have K : CallFix p m c b_R_bring 3 s _ (_ :: T0) "PortProcessorModel" := K
  have hl : lv_has ls 3 [(0, .ref a.1), (1, .int (nI x)), (2, .int (nI y))] := hl
  refine lv_aload_n K.1 K.2.1 d_R_bring_0 rfl (lv_at hl 0 rfl) ?_
  refine lv_iload_n K.1 K.2.1 d_R_bring_1 rfl (lv_at hl 1 rfl) ?_
  refine nv_sipush (v := 256) K d_R_bring_2 (by decide) ?_
  refine qsi K (r_outside (σ := σ) (x := x) (y := 256) l D cI a hO (by omega) (by omega)) (cw_R_154 K (Nat.le_of_ble_eq_true rfl) (Nat.le_of_ble_eq_true rfl)) hw rfl hl.1 rfl (Nat.le_of_ble_eq_true rfl) d_R_bring_5 ⟨Nat.zero_le _, Nat.zero_le _⟩ (fun H locs hw => ?_)
  refine nv_if_ne K (by omega) d_R_bring_8 rfl (fun h => (by omega : False).elim) (fun _ => ?_)
  refine lv_iload_n K.1 K.2.1 d_R_bring_11 rfl (lv_at hl 2 rfl) ?_
  refine nv_sipush (v := 256) K d_R_bring_12 (by decide) ?_
  refine qsi K (r_outside (σ := σ) (x := y) (y := 256) l D cI a hO (by omega) (by omega)) (cw_R_154 K (Nat.le_of_ble_eq_true rfl) (Nat.le_of_ble_eq_true rfl)) hw rfl hl.1 rfl (Nat.le_of_ble_eq_true rfl) d_R_bring_15 ⟨Nat.zero_le _, Nat.zero_le _⟩ (fun H locs hw => ?_)
  refine nv_if_eq K (by omega) d_R_bring_18 rfl (fun _ => ?_) (fun h => (by omega : False).elim)
  refine nv_iconst (v := 0) K d_R_bring_25 (by decide) ?_
  refine qp_thrown (v := 0) K hw d_R_bring_26 (fun H locs hw => ?_)
  have hO1 : z_Ok (z_s_th σ 0) := z_ok_th hO
  refine lv_aload_n K.1 K.2.1 d_R_bring_29 rfl (lv_at hl 0 rfl) ?_
  refine qg_thrown (v := 0) K hw rfl d_R_bring_30 ?_
  refine nv_if_ne K (by omega) d_R_bring_33 rfl (fun h => (by omega : False).elim) (fun _ => ?_)
  refine lv_aload_n K.1 K.2.1 d_R_bring_36 rfl (lv_at hl 0 rfl) ?_
  refine qg_in K hw d_R_bring_37 ?_
  refine lv_iload_n K.1 K.2.1 d_R_bring_40 rfl (lv_at hl 1 rfl) ?_
  refine lv_iload_n K.1 K.2.1 d_R_bring_41 rfl (lv_at hl 2 rfl) ?_
  refine qs_inn (i := x) (v := y) K hw (by omega) d_R_bring_42 (fun H locs hw => ?_)
  have hO2 : z_Ok (z_s_inn (z_s_th σ 0) (z_fs (z_x_inn σ) x y)) := z_ok_inn hO1 (z_fs_lt (z_k_inn hO) (by omega))
  exact qrv K hr hlk hw (by rfl) d_R_bring_43
set_option maxHeartbeats 4000000 in
set_option maxRecDepth 100000 in
theorem r_out {σ : z_St} {x : Nat} (l : Launch) (D : va_G) (cI : ClassId) (a : qAd) (hO : z_Ok σ) (hx : x < 256) : qCi l y_R_out w_R_out 1 21 D cI a [.ref a.1, .int (nI x)] σ (z_s_th σ 0) (nI (z_x_put σ x) - 1) := by
  refine qci_of (cc := b_R_out) (maxL := 2) (ret := (some .int)) (by decide) rfl (Nat.le_of_ble_eq_true rfl) ?_
  intro p e s m below meth c ls K hr hlk hl hw
  have K : CallFix p m c b_R_out 2 s _ (_ :: T0) "PortProcessorModel" := K
  have hl : lv_has ls 2 [(0, .ref a.1), (1, .int (nI x))] := hl
  refine lv_aload_n K.1 K.2.1 d_R_out_0 rfl (lv_at hl 0 rfl) ?_
  refine lv_iload_n K.1 K.2.1 d_R_out_1 rfl (lv_at hl 1 rfl) ?_
  refine nv_sipush (v := 256) K d_R_out_2 (by decide) ?_
  refine qsi K (r_outside (σ := σ) (x := x) (y := 256) l D cI a hO (by omega) (by omega)) (cw_R_154 K (Nat.le_of_ble_eq_true rfl) (Nat.le_of_ble_eq_true rfl)) hw rfl hl.1 rfl (Nat.le_of_ble_eq_true rfl) d_R_out_5 ⟨Nat.zero_le _, Nat.zero_le _⟩ (fun H locs hw => ?_)
  refine nv_if_eq K (by omega) d_R_out_8 rfl (fun _ => ?_) (fun h => (by omega : False).elim)
  refine nv_iconst (v := 0) K d_R_out_15 (by decide) ?_
  refine qp_thrown (v := 0) K hw d_R_out_16 (fun H locs hw => ?_)
  have hO1 : z_Ok (z_s_th σ 0) := z_ok_th hO
  refine lv_aload_n K.1 K.2.1 d_R_out_19 rfl (lv_at hl 0 rfl) ?_
  refine qg_thrown (v := 0) K hw rfl d_R_out_20 ?_
  refine nv_if_le K (by omega) d_R_out_23 rfl (fun _ => ?_) (fun h => (by omega : False).elim)
  refine lv_aload_n K.1 K.2.1 d_R_out_30 rfl (lv_at hl 0 rfl) ?_
  refine qg_put K hw d_R_out_31 ?_
  refine lv_iload_n K.1 K.2.1 d_R_out_34 rfl (lv_at hl 1 rfl) ?_
  refine ql_put (i := x) (v := z_x_put σ x) K hw (by omega) rfl d_R_out_35 ?_
  have hb2 : z_x_put σ x < 257 := z_k_put hO _
  refine nv_iconst (v := 1) K d_R_out_36 (by decide) ?_
  refine lv_isub K.1 K.2.1 d_R_out_37 ?_
  exact qri K hr hlk hw (by rfl) (by rfl) d_R_out_38
set_option maxHeartbeats 4000000 in
set_option maxRecDepth 100000 in
theorem r_states {σ : z_St} (l : Launch) (D : va_G) (cI : ClassId) (a : qAd) (hO : z_Ok σ) : qCl l y_R_states w_R_states 0 0 D cI a [.ref a.1] σ (z_s_th σ 0) (lN (z_x_st σ)) := by
  refine qcl_of (cc := b_R_states) (maxL := 1) (ret := (some .long)) (by decide) rfl (Nat.le_of_ble_eq_true rfl) ?_
  intro p e s m below meth c ls K hr hlk hl hw
  have K : CallFix p m c b_R_states 1 s _ (_ :: T0) "PortProcessorModel" := K
  have hl : lv_has ls 1 [(0, .ref a.1)] := hl
  refine lv_aload_n K.1 K.2.1 d_R_states_0 rfl (lv_at hl 0 rfl) ?_
  refine nv_iconst (v := 0) K d_R_states_1 (by decide) ?_
  refine qp_thrown (v := 0) K hw d_R_states_2 (fun H locs hw => ?_)
  have hO1 : z_Ok (z_s_th σ 0) := z_ok_th hO
  refine lv_aload_n K.1 K.2.1 d_R_states_5 rfl (lv_at hl 0 rfl) ?_
  refine qg_states (v := z_x_st σ) K hw rfl d_R_states_6 ?_
  exact qrl K hr hlk hw (by rfl) (by rfl) d_R_states_9

set_option maxHeartbeats 4000000 in
set_option maxRecDepth 100000 in
theorem r_peekX {σ : z_St} {x : Int32} (l : Launch) (D : va_G) (cI : ClassId) (a : qAd) (hO : z_Ok σ) (hx : x < 0 ∨ nI 1024 ≤ x) : qCi l y_R_peek w_R_peek 1 21 D cI a [.ref a.1, .int x] σ (z_s_th σ 1) (nI 0) := by
  refine qci_of (cc := b_R_peek) (maxL := 2) (ret := (some .int)) (by decide) rfl (Nat.le_of_ble_eq_true rfl) ?_
  intro p e s m below meth c ls K hr hlk hl hw
  have K : CallFix p m c b_R_peek 2 s _ (_ :: T0) "PortProcessorModel" := K
  have hl : lv_has ls 2 [(0, .ref a.1), (1, .int x)] := hl
  refine lv_aload_n K.1 K.2.1 d_R_peek_0 rfl (lv_at hl 0 rfl) ?_
  refine lv_iload_n K.1 K.2.1 d_R_peek_1 rfl (lv_at hl 1 rfl) ?_
  refine nv_sipush (v := 1024) K d_R_peek_2 (by decide) ?_
  refine qsi K (r_outsideX (σ := σ) (x := x) (y := 1024) l D cI a hO hx) (cw_R_154 K (Nat.le_of_ble_eq_true rfl) (Nat.le_of_ble_eq_true rfl)) hw rfl hl.1 rfl (Nat.le_of_ble_eq_true rfl) d_R_peek_5 ⟨Nat.zero_le _, Nat.zero_le _⟩ (fun H locs hw => ?_)
  refine nv_if_eq K (by omega) d_R_peek_8 rfl (fun h => (by omega : False).elim) (fun _ => ?_)
  refine nv_iconst (v := 1) K d_R_peek_11 (by decide) ?_
  refine lv_goto K.1 K.2.1 d_R_peek_12 rfl ?_
  refine qp_thrown (v := 1) K hw d_R_peek_16 (fun H locs hw => ?_)
  have hO1 : z_Ok (z_s_th σ 1) := z_ok_th hO
  refine lv_aload_n K.1 K.2.1 d_R_peek_19 rfl (lv_at hl 0 rfl) ?_
  refine qg_thrown (v := 1) K hw rfl d_R_peek_20 ?_
  refine nv_if_le K (by omega) d_R_peek_23 rfl (fun h => (by omega : False).elim) (fun _ => ?_)
  refine nv_iconst (v := 0) K d_R_peek_26 (by decide) ?_
  refine lv_goto K.1 K.2.1 d_R_peek_27 rfl ?_
  exact qri K hr hlk hw (by rfl) (by rfl) d_R_peek_36
set_option maxHeartbeats 4000000 in
set_option maxRecDepth 100000 in
theorem r_startX {σ : z_St} {x : Int32} (l : Launch) (D : va_G) (cI : ClassId) (a : qAd) (hO : z_Ok σ) (hx : x < 0 ∨ nI 65536 ≤ x) : qCv l y_R_start w_R_start 1 21 D cI a [.ref a.1, .int x] σ (z_s_th σ 1) := by
  refine qcv_of (cc := b_R_start) (maxL := 2) (ret := none) (by decide) rfl (Nat.le_of_ble_eq_true rfl) ?_
  intro p e s m below meth c ls K hr hlk hl hw
  have K : CallFix p m c b_R_start 2 s _ (_ :: T0) "PortProcessorModel" := K
  have hl : lv_has ls 2 [(0, .ref a.1), (1, .int x)] := hl
  refine lv_aload_n K.1 K.2.1 d_R_start_0 rfl (lv_at hl 0 rfl) ?_
  refine lv_iload_n K.1 K.2.1 d_R_start_1 rfl (lv_at hl 1 rfl) ?_
  refine nv_ldc (v := 65536) K d_R_start_2 (K.2.2.2.2 _ (List.mem_cons_of_mem _ m_constant_PortProcessorModel_48_65536)) ?_
  refine qsi K (r_outsideX (σ := σ) (x := x) (y := 65536) l D cI a hO hx) (cw_R_154 K (Nat.le_of_ble_eq_true rfl) (Nat.le_of_ble_eq_true rfl)) hw rfl hl.1 rfl (Nat.le_of_ble_eq_true rfl) d_R_start_4 ⟨Nat.zero_le _, Nat.zero_le _⟩ (fun H locs hw => ?_)
  refine nv_if_eq K (by omega) d_R_start_7 rfl (fun h => (by omega : False).elim) (fun _ => ?_)
  refine nv_iconst (v := 1) K d_R_start_10 (by decide) ?_
  refine lv_goto K.1 K.2.1 d_R_start_11 rfl ?_
  refine qp_thrown (v := 1) K hw d_R_start_15 (fun H locs hw => ?_)
  have hO1 : z_Ok (z_s_th σ 1) := z_ok_th hO
  refine lv_aload_n K.1 K.2.1 d_R_start_18 rfl (lv_at hl 0 rfl) ?_
  refine qg_thrown (v := 1) K hw rfl d_R_start_19 ?_
  refine nv_if_le K (by omega) d_R_start_22 rfl (fun h => (by omega : False).elim) (fun _ => ?_)
  exact qrv K hr hlk hw (by rfl) d_R_start_25
set_option maxHeartbeats 4000000 in
set_option maxRecDepth 100000 in
theorem r_interruptX {σ : z_St} {x : Int32} (l : Launch) (D : va_G) (cI : ClassId) (a : qAd) (hO : z_Ok σ) (hx : x < 0 ∨ nI 8 ≤ x) : qCv l y_R_interrupt w_R_interrupt 1 21 D cI a [.ref a.1, .int x] σ (z_s_th σ 1) := by
  refine qcv_of (cc := b_R_interrupt) (maxL := 2) (ret := none) (by decide) rfl (Nat.le_of_ble_eq_true rfl) ?_
  intro p e s m below meth c ls K hr hlk hl hw
  have K : CallFix p m c b_R_interrupt 2 s _ (_ :: T0) "PortProcessorModel" := K
  have hl : lv_has ls 2 [(0, .ref a.1), (1, .int x)] := hl
  refine lv_aload_n K.1 K.2.1 d_R_interrupt_0 rfl (lv_at hl 0 rfl) ?_
  refine lv_iload_n K.1 K.2.1 d_R_interrupt_1 rfl (lv_at hl 1 rfl) ?_
  refine nv_bipush (v := 8) K d_R_interrupt_2 (by decide) ?_
  refine qsi K (r_outsideX (σ := σ) (x := x) (y := 8) l D cI a hO hx) (cw_R_154 K (Nat.le_of_ble_eq_true rfl) (Nat.le_of_ble_eq_true rfl)) hw rfl hl.1 rfl (Nat.le_of_ble_eq_true rfl) d_R_interrupt_4 ⟨Nat.zero_le _, Nat.zero_le _⟩ (fun H locs hw => ?_)
  refine nv_if_eq K (by omega) d_R_interrupt_7 rfl (fun h => (by omega : False).elim) (fun _ => ?_)
  refine nv_iconst (v := 1) K d_R_interrupt_10 (by decide) ?_
  refine lv_goto K.1 K.2.1 d_R_interrupt_11 rfl ?_
  refine qp_thrown (v := 1) K hw d_R_interrupt_15 (fun H locs hw => ?_)
  have hO1 : z_Ok (z_s_th σ 1) := z_ok_th hO
  refine lv_aload_n K.1 K.2.1 d_R_interrupt_18 rfl (lv_at hl 0 rfl) ?_
  refine qg_thrown (v := 1) K hw rfl d_R_interrupt_19 ?_
  refine nv_if_ne K (by omega) d_R_interrupt_22 rfl (fun _ => ?_) (fun h => (by omega : False).elim)
  exact qrv K hr hlk hw (by rfl) d_R_interrupt_30
set_option maxHeartbeats 4000000 in
set_option maxRecDepth 100000 in
theorem r_outX {σ : z_St} {x : Int32} (l : Launch) (D : va_G) (cI : ClassId) (a : qAd) (hO : z_Ok σ) (hx : x < 0 ∨ nI 256 ≤ x) : qCi l y_R_out w_R_out 1 21 D cI a [.ref a.1, .int x] σ (z_s_th σ 1) (nI 0) := by
  refine qci_of (cc := b_R_out) (maxL := 2) (ret := (some .int)) (by decide) rfl (Nat.le_of_ble_eq_true rfl) ?_
  intro p e s m below meth c ls K hr hlk hl hw
  have K : CallFix p m c b_R_out 2 s _ (_ :: T0) "PortProcessorModel" := K
  have hl : lv_has ls 2 [(0, .ref a.1), (1, .int x)] := hl
  refine lv_aload_n K.1 K.2.1 d_R_out_0 rfl (lv_at hl 0 rfl) ?_
  refine lv_iload_n K.1 K.2.1 d_R_out_1 rfl (lv_at hl 1 rfl) ?_
  refine nv_sipush (v := 256) K d_R_out_2 (by decide) ?_
  refine qsi K (r_outsideX (σ := σ) (x := x) (y := 256) l D cI a hO hx) (cw_R_154 K (Nat.le_of_ble_eq_true rfl) (Nat.le_of_ble_eq_true rfl)) hw rfl hl.1 rfl (Nat.le_of_ble_eq_true rfl) d_R_out_5 ⟨Nat.zero_le _, Nat.zero_le _⟩ (fun H locs hw => ?_)
  refine nv_if_eq K (by omega) d_R_out_8 rfl (fun h => (by omega : False).elim) (fun _ => ?_)
  refine nv_iconst (v := 1) K d_R_out_11 (by decide) ?_
  refine lv_goto K.1 K.2.1 d_R_out_12 rfl ?_
  refine qp_thrown (v := 1) K hw d_R_out_16 (fun H locs hw => ?_)
  have hO1 : z_Ok (z_s_th σ 1) := z_ok_th hO
  refine lv_aload_n K.1 K.2.1 d_R_out_19 rfl (lv_at hl 0 rfl) ?_
  refine qg_thrown (v := 1) K hw rfl d_R_out_20 ?_
  refine nv_if_le K (by omega) d_R_out_23 rfl (fun h => (by omega : False).elim) (fun _ => ?_)
  refine nv_iconst (v := 0) K d_R_out_26 (by decide) ?_
  refine lv_goto K.1 K.2.1 d_R_out_27 rfl ?_
  exact qri K hr hlk hw (by rfl) (by rfl) d_R_out_38
set_option maxHeartbeats 4000000 in
set_option maxRecDepth 100000 in
theorem r_registerX {σ : z_St} {x : Int32} (l : Launch) (D : va_G) (cI : ClassId) (a : qAd) (hO : z_Ok σ) (hx : x < 0 ∨ nI 11 ≤ x) : qCi l y_R_register w_R_register 2 42 D cI a [.ref a.1, .int x] σ (z_s_th σ 1) (nI 0) := by
  refine qci_of (cc := b_R_register) (maxL := 2) (ret := (some .int)) (by decide) rfl (Nat.le_of_ble_eq_true rfl) ?_
  intro p e s m below meth c ls K hr hlk hl hw
  have K : CallFix p m c b_R_register 2 s _ (_ :: T0) "PortProcessorModel" := K
  have hl : lv_has ls 2 [(0, .ref a.1), (1, .int x)] := hl
  refine lv_aload_n K.1 K.2.1 d_R_register_0 rfl (lv_at hl 0 rfl) ?_
  refine lv_iload_n K.1 K.2.1 d_R_register_1 rfl (lv_at hl 1 rfl) ?_
  refine nv_bipush (v := 11) K d_R_register_2 (by decide) ?_
  refine qsi K (r_outsideX (σ := σ) (x := x) (y := 11) l D cI a hO hx) (cw_R_154 K (Nat.le_of_ble_eq_true rfl) (Nat.le_of_ble_eq_true rfl)) hw rfl hl.1 rfl (Nat.le_of_ble_eq_true rfl) d_R_register_4 ⟨Nat.zero_le _, Nat.zero_le _⟩ (fun H locs hw => ?_)
  refine nv_if_eq K (by omega) d_R_register_7 rfl (fun h => (by omega : False).elim) (fun _ => ?_)
  refine nv_iconst (v := 1) K d_R_register_10 (by decide) ?_
  refine lv_goto K.1 K.2.1 d_R_register_11 rfl ?_
  refine qp_thrown (v := 1) K hw d_R_register_15 (fun H locs hw => ?_)
  have hO1 : z_Ok (z_s_th σ 1) := z_ok_th hO
  refine lv_aload_n K.1 K.2.1 d_R_register_18 rfl (lv_at hl 0 rfl) ?_
  refine qg_thrown (v := 1) K hw rfl d_R_register_19 ?_
  refine nv_if_le K (by omega) d_R_register_22 rfl (fun h => (by omega : False).elim) (fun _ => ?_)
  refine nv_iconst (v := 0) K d_R_register_25 (by decide) ?_
  exact qri K hr hlk hw (by rfl) (by rfl) d_R_register_26
set_option maxHeartbeats 4000000 in
set_option maxRecDepth 100000 in
theorem r_isX {σ : z_St} {x : Int32} (l : Launch) (D : va_G) (cI : ClassId) (a : qAd) (hO : z_Ok σ) (hx : x < 0 ∨ nI 3 ≤ x) : qCi l y_R_is w_R_is 1 21 D cI a [.ref a.1, .int x] σ (z_s_th σ 1) (nI 0) := by
  refine qci_of (cc := b_R_is) (maxL := 2) (ret := (some .boolean)) (by decide) rfl (Nat.le_of_ble_eq_true rfl) ?_
  intro p e s m below meth c ls K hr hlk hl hw
  have K : CallFix p m c b_R_is 2 s _ (_ :: T0) "PortProcessorModel" := K
  have hl : lv_has ls 2 [(0, .ref a.1), (1, .int x)] := hl
  refine lv_aload_n K.1 K.2.1 d_R_is_0 rfl (lv_at hl 0 rfl) ?_
  refine lv_iload_n K.1 K.2.1 d_R_is_1 rfl (lv_at hl 1 rfl) ?_
  refine nv_iconst (v := 3) K d_R_is_2 (by decide) ?_
  refine qsi K (r_outsideX (σ := σ) (x := x) (y := 3) l D cI a hO hx) (cw_R_154 K (Nat.le_of_ble_eq_true rfl) (Nat.le_of_ble_eq_true rfl)) hw rfl hl.1 rfl (Nat.le_of_ble_eq_true rfl) d_R_is_3 ⟨Nat.zero_le _, Nat.zero_le _⟩ (fun H locs hw => ?_)
  refine nv_if_eq K (by omega) d_R_is_6 rfl (fun h => (by omega : False).elim) (fun _ => ?_)
  refine nv_iconst (v := 1) K d_R_is_9 (by decide) ?_
  refine lv_goto K.1 K.2.1 d_R_is_10 rfl ?_
  refine qp_thrown (v := 1) K hw d_R_is_14 (fun H locs hw => ?_)
  have hO1 : z_Ok (z_s_th σ 1) := z_ok_th hO
  refine lv_aload_n K.1 K.2.1 d_R_is_17 rfl (lv_at hl 0 rfl) ?_
  refine qg_thrown (v := 1) K hw rfl d_R_is_18 ?_
  refine nv_if_ne K (by omega) d_R_is_21 rfl (fun _ => ?_) (fun h => (by omega : False).elim)
  refine nv_iconst (v := 0) K d_R_is_64 (by decide) ?_
  exact qrz K hr hlk hw (by rfl) (by omega) (by rfl) d_R_is_65
set_option maxHeartbeats 4000000 in
set_option maxRecDepth 100000 in
theorem r_bringX {σ : z_St} {x y : Int32} (l : Launch) (D : va_G) (cI : ClassId) (a : qAd) (hO : z_Ok σ) (hx : x < 0 ∨ nI 256 ≤ x) : qCv l y_R_bring w_R_bring 1 21 D cI a [.ref a.1, .int x, .int y] σ (z_s_th σ 1) := by
  refine qcv_of (cc := b_R_bring) (maxL := 3) (ret := none) (by decide) rfl (Nat.le_of_ble_eq_true rfl) ?_
  intro p e s m below meth c ls K hr hlk hl hw
  have K : CallFix p m c b_R_bring 3 s _ (_ :: T0) "PortProcessorModel" := K
  have hl : lv_has ls 3 [(0, .ref a.1), (1, .int x), (2, .int y)] := hl
  refine lv_aload_n K.1 K.2.1 d_R_bring_0 rfl (lv_at hl 0 rfl) ?_
  refine lv_iload_n K.1 K.2.1 d_R_bring_1 rfl (lv_at hl 1 rfl) ?_
  refine nv_sipush (v := 256) K d_R_bring_2 (by decide) ?_
  refine qsi K (r_outsideX (σ := σ) (x := x) (y := 256) l D cI a hO hx) (cw_R_154 K (Nat.le_of_ble_eq_true rfl) (Nat.le_of_ble_eq_true rfl)) hw rfl hl.1 rfl (Nat.le_of_ble_eq_true rfl) d_R_bring_5 ⟨Nat.zero_le _, Nat.zero_le _⟩ (fun H locs hw => ?_)
  refine nv_if_ne K (by omega) d_R_bring_8 rfl (fun _ => ?_) (fun h => (by omega : False).elim)
  refine nv_iconst (v := 1) K d_R_bring_21 (by decide) ?_
  refine lv_goto K.1 K.2.1 d_R_bring_22 rfl ?_
  refine qp_thrown (v := 1) K hw d_R_bring_26 (fun H locs hw => ?_)
  have hO1 : z_Ok (z_s_th σ 1) := z_ok_th hO
  refine lv_aload_n K.1 K.2.1 d_R_bring_29 rfl (lv_at hl 0 rfl) ?_
  refine qg_thrown (v := 1) K hw rfl d_R_bring_30 ?_
  refine nv_if_ne K (by omega) d_R_bring_33 rfl (fun _ => ?_) (fun h => (by omega : False).elim)
  exact qrv K hr hlk hw (by rfl) d_R_bring_43
set_option maxHeartbeats 4000000 in
set_option maxRecDepth 100000 in
theorem r_bringY {σ : z_St} {x : Nat} {y : Int32} (l : Launch) (D : va_G) (cI : ClassId) (a : qAd) (hO : z_Ok σ) (hx : x < 256) (hy : y < 0 ∨ nI 256 ≤ y) : qCv l y_R_bring w_R_bring 1 21 D cI a [.ref a.1, .int (nI x), .int y] σ (z_s_th σ 1) := by
  refine qcv_of (cc := b_R_bring) (maxL := 3) (ret := none) (by decide) rfl (Nat.le_of_ble_eq_true rfl) ?_
  intro p e s m below meth c ls K hr hlk hl hw
  have K : CallFix p m c b_R_bring 3 s _ (_ :: T0) "PortProcessorModel" := K
  have hl : lv_has ls 3 [(0, .ref a.1), (1, .int (nI x)), (2, .int y)] := hl
  refine lv_aload_n K.1 K.2.1 d_R_bring_0 rfl (lv_at hl 0 rfl) ?_
  refine lv_iload_n K.1 K.2.1 d_R_bring_1 rfl (lv_at hl 1 rfl) ?_
  refine nv_sipush (v := 256) K d_R_bring_2 (by decide) ?_
  refine qsi K (r_outside (σ := σ) (x := x) (y := 256) l D cI a hO (by omega) (by omega)) (cw_R_154 K (Nat.le_of_ble_eq_true rfl) (Nat.le_of_ble_eq_true rfl)) hw rfl hl.1 rfl (Nat.le_of_ble_eq_true rfl) d_R_bring_5 ⟨Nat.zero_le _, Nat.zero_le _⟩ (fun H locs hw => ?_)
  refine nv_if_ne K (by omega) d_R_bring_8 rfl (fun h => (by omega : False).elim) (fun _ => ?_)
  refine lv_iload_n K.1 K.2.1 d_R_bring_11 rfl (lv_at hl 2 rfl) ?_
  refine nv_sipush (v := 256) K d_R_bring_12 (by decide) ?_
  refine qsi K (r_outsideX (σ := σ) (x := y) (y := 256) l D cI a hO hy) (cw_R_154 K (Nat.le_of_ble_eq_true rfl) (Nat.le_of_ble_eq_true rfl)) hw rfl hl.1 rfl (Nat.le_of_ble_eq_true rfl) d_R_bring_15 ⟨Nat.zero_le _, Nat.zero_le _⟩ (fun H locs hw => ?_)
  refine nv_if_eq K (by omega) d_R_bring_18 rfl (fun h => (by omega : False).elim) (fun _ => ?_)
  refine nv_iconst (v := 1) K d_R_bring_21 (by decide) ?_
  refine lv_goto K.1 K.2.1 d_R_bring_22 rfl ?_
  refine qp_thrown (v := 1) K hw d_R_bring_26 (fun H locs hw => ?_)
  have hO1 : z_Ok (z_s_th σ 1) := z_ok_th hO
  refine lv_aload_n K.1 K.2.1 d_R_bring_29 rfl (lv_at hl 0 rfl) ?_
  refine qg_thrown (v := 1) K hw rfl d_R_bring_30 ?_
  refine nv_if_ne K (by omega) d_R_bring_33 rfl (fun _ => ?_) (fun h => (by omega : False).elim)
  exact qrv K hr hlk hw (by rfl) d_R_bring_43
set_option maxHeartbeats 4000000 in
set_option maxRecDepth 100000 in
theorem r_setX {σ : z_St} {x y : Int32} (l : Launch) (D : va_G) (cI : ClassId) (a : qAd) (hO : z_Ok σ) (hx : x < 0 ∨ nI 10 ≤ x) : qCv l y_R_set w_R_set 1 21 D cI a [.ref a.1, .int x, .int y] σ (z_s_th σ 1) := by
  refine qcv_of (cc := b_R_set) (maxL := 3) (ret := none) (by decide) rfl (Nat.le_of_ble_eq_true rfl) ?_
  intro p e s m below meth c ls K hr hlk hl hw
  have K : CallFix p m c b_R_set 3 s _ (_ :: T0) "PortProcessorModel" := K
  have hl : lv_has ls 3 [(0, .ref a.1), (1, .int x), (2, .int y)] := hl
  refine lv_aload_n K.1 K.2.1 d_R_set_0 rfl (lv_at hl 0 rfl) ?_
  refine lv_iload_n K.1 K.2.1 d_R_set_1 rfl (lv_at hl 1 rfl) ?_
  refine nv_bipush (v := 10) K d_R_set_2 (by decide) ?_
  refine qsi K (r_outsideX (σ := σ) (x := x) (y := 10) l D cI a hO hx) (cw_R_154 K (Nat.le_of_ble_eq_true rfl) (Nat.le_of_ble_eq_true rfl)) hw rfl hl.1 rfl (Nat.le_of_ble_eq_true rfl) d_R_set_4 ⟨Nat.zero_le _, Nat.zero_le _⟩ (fun H locs hw => ?_)
  refine nv_if_ne K (by omega) d_R_set_7 rfl (fun _ => ?_) (fun h => (by omega : False).elim)
  refine nv_iconst (v := 1) K d_R_set_37 (by decide) ?_
  refine lv_goto K.1 K.2.1 d_R_set_38 rfl ?_
  refine qp_thrown (v := 1) K hw d_R_set_42 (fun H locs hw => ?_)
  have hO1 : z_Ok (z_s_th σ 1) := z_ok_th hO
  refine lv_aload_n K.1 K.2.1 d_R_set_45 rfl (lv_at hl 0 rfl) ?_
  refine qg_thrown (v := 1) K hw rfl d_R_set_46 ?_
  refine nv_if_le K (by omega) d_R_set_49 rfl (fun h => (by omega : False).elim) (fun _ => ?_)
  exact qrv K hr hlk hw (by rfl) d_R_set_52
set_option maxHeartbeats 4000000 in
set_option maxRecDepth 100000 in
theorem r_set6 {σ : z_St} {y : Int32} (l : Launch) (D : va_G) (cI : ClassId) (a : qAd) (hO : z_Ok σ) : qCv l y_R_set w_R_set 1 21 D cI a [.ref a.1, .int (nI 6), .int y] σ (z_s_th σ 1) := by
  refine qcv_of (cc := b_R_set) (maxL := 3) (ret := none) (by decide) rfl (Nat.le_of_ble_eq_true rfl) ?_
  intro p e s m below meth c ls K hr hlk hl hw
  have K : CallFix p m c b_R_set 3 s _ (_ :: T0) "PortProcessorModel" := K
  have hl : lv_has ls 3 [(0, .ref a.1), (1, .int (nI 6)), (2, .int y)] := hl
  refine lv_aload_n K.1 K.2.1 d_R_set_0 rfl (lv_at hl 0 rfl) ?_
  refine lv_iload_n K.1 K.2.1 d_R_set_1 rfl (lv_at hl 1 rfl) ?_
  refine nv_bipush (v := 10) K d_R_set_2 (by decide) ?_
  refine qsi K (r_outside (σ := σ) (x := 6) (y := 10) l D cI a hO (by omega) (by omega)) (cw_R_154 K (Nat.le_of_ble_eq_true rfl) (Nat.le_of_ble_eq_true rfl)) hw rfl hl.1 rfl (Nat.le_of_ble_eq_true rfl) d_R_set_4 ⟨Nat.zero_le _, Nat.zero_le _⟩ (fun H locs hw => ?_)
  refine nv_if_ne K (by omega) d_R_set_7 rfl (fun h => (by omega : False).elim) (fun _ => ?_)
  refine lv_iload_n K.1 K.2.1 d_R_set_10 rfl (lv_at hl 1 rfl) ?_
  refine nv_bipush (v := 6) K d_R_set_11 (by decide) ?_
  refine nv_icmp_eq K (by omega) (by omega) d_R_set_13 rfl (fun _ => ?_) (fun h => (by omega : False).elim)
  refine nv_iconst (v := 1) K d_R_set_37 (by decide) ?_
  refine lv_goto K.1 K.2.1 d_R_set_38 rfl ?_
  refine qp_thrown (v := 1) K hw d_R_set_42 (fun H locs hw => ?_)
  have hO1 : z_Ok (z_s_th σ 1) := z_ok_th hO
  refine lv_aload_n K.1 K.2.1 d_R_set_45 rfl (lv_at hl 0 rfl) ?_
  refine qg_thrown (v := 1) K hw rfl d_R_set_46 ?_
  refine nv_if_le K (by omega) d_R_set_49 rfl (fun h => (by omega : False).elim) (fun _ => ?_)
  exact qrv K hr hlk hw (by rfl) d_R_set_52
set_option maxHeartbeats 4000000 in
set_option maxRecDepth 100000 in
theorem r_set9 {σ : z_St} {y : Int32} (l : Launch) (D : va_G) (cI : ClassId) (a : qAd) (hO : z_Ok σ) (hy : y < 0 ∨ nI 65536 ≤ y) : qCv l y_R_set w_R_set 1 21 D cI a [.ref a.1, .int (nI 9), .int y] σ (z_s_th σ 1) := by
  refine qcv_of (cc := b_R_set) (maxL := 3) (ret := none) (by decide) rfl (Nat.le_of_ble_eq_true rfl) ?_
  intro p e s m below meth c ls K hr hlk hl hw
  have K : CallFix p m c b_R_set 3 s _ (_ :: T0) "PortProcessorModel" := K
  have hl : lv_has ls 3 [(0, .ref a.1), (1, .int (nI 9)), (2, .int y)] := hl
  refine lv_aload_n K.1 K.2.1 d_R_set_0 rfl (lv_at hl 0 rfl) ?_
  refine lv_iload_n K.1 K.2.1 d_R_set_1 rfl (lv_at hl 1 rfl) ?_
  refine nv_bipush (v := 10) K d_R_set_2 (by decide) ?_
  refine qsi K (r_outside (σ := σ) (x := 9) (y := 10) l D cI a hO (by omega) (by omega)) (cw_R_154 K (Nat.le_of_ble_eq_true rfl) (Nat.le_of_ble_eq_true rfl)) hw rfl hl.1 rfl (Nat.le_of_ble_eq_true rfl) d_R_set_4 ⟨Nat.zero_le _, Nat.zero_le _⟩ (fun H locs hw => ?_)
  refine nv_if_ne K (by omega) d_R_set_7 rfl (fun h => (by omega : False).elim) (fun _ => ?_)
  refine lv_iload_n K.1 K.2.1 d_R_set_10 rfl (lv_at hl 1 rfl) ?_
  refine nv_bipush (v := 6) K d_R_set_11 (by decide) ?_
  refine nv_icmp_eq K (by omega) (by omega) d_R_set_13 rfl (fun h => (by omega : False).elim) (fun _ => ?_)
  refine lv_iload_n K.1 K.2.1 d_R_set_16 rfl (lv_at hl 2 rfl) ?_
  refine lv_iload_n K.1 K.2.1 d_R_set_17 rfl (lv_at hl 1 rfl) ?_
  refine nv_bipush (v := 9) K d_R_set_18 (by decide) ?_
  refine nv_icmp_ne K (by omega) (by omega) d_R_set_20 rfl (fun h => (by omega : False).elim) (fun _ => ?_)
  refine nv_ldc (v := 65536) K d_R_set_23 (K.2.2.2.2 _ (List.mem_cons_of_mem _ m_constant_PortProcessorModel_48_65536)) ?_
  refine lv_goto K.1 K.2.1 d_R_set_25 rfl ?_
  refine qsi K (r_outsideX (σ := σ) (x := y) (y := 65536) l D cI a hO hy) (cw_R_154 K (Nat.le_of_ble_eq_true rfl) (Nat.le_of_ble_eq_true rfl)) hw rfl hl.1 rfl (Nat.le_of_ble_eq_true rfl) d_R_set_31 ⟨Nat.zero_le _, Nat.zero_le _⟩ (fun H locs hw => ?_)
  refine nv_if_eq K (by omega) d_R_set_34 rfl (fun h => (by omega : False).elim) (fun _ => ?_)
  refine nv_iconst (v := 1) K d_R_set_37 (by decide) ?_
  refine lv_goto K.1 K.2.1 d_R_set_38 rfl ?_
  refine qp_thrown (v := 1) K hw d_R_set_42 (fun H locs hw => ?_)
  have hO1 : z_Ok (z_s_th σ 1) := z_ok_th hO
  refine lv_aload_n K.1 K.2.1 d_R_set_45 rfl (lv_at hl 0 rfl) ?_
  refine qg_thrown (v := 1) K hw rfl d_R_set_46 ?_
  refine nv_if_le K (by omega) d_R_set_49 rfl (fun h => (by omega : False).elim) (fun _ => ?_)
  exact qrv K hr hlk hw (by rfl) d_R_set_52
set_option maxHeartbeats 4000000 in
set_option maxRecDepth 100000 in
theorem r_setY {σ : z_St} {x : Nat} {y : Int32} (l : Launch) (D : va_G) (cI : ClassId) (a : qAd) (hO : z_Ok σ) (hx : x < 10) (h6 : x ≠ 6) (h9 : x ≠ 9) (hy : y < 0 ∨ nI 256 ≤ y) : qCv l y_R_set w_R_set 1 21 D cI a [.ref a.1, .int (nI x), .int y] σ (z_s_th σ 1) := by
  refine qcv_of (cc := b_R_set) (maxL := 3) (ret := none) (by decide) rfl (Nat.le_of_ble_eq_true rfl) ?_
  intro p e s m below meth c ls K hr hlk hl hw
  have K : CallFix p m c b_R_set 3 s _ (_ :: T0) "PortProcessorModel" := K
  have hl : lv_has ls 3 [(0, .ref a.1), (1, .int (nI x)), (2, .int y)] := hl
  refine lv_aload_n K.1 K.2.1 d_R_set_0 rfl (lv_at hl 0 rfl) ?_
  refine lv_iload_n K.1 K.2.1 d_R_set_1 rfl (lv_at hl 1 rfl) ?_
  refine nv_bipush (v := 10) K d_R_set_2 (by decide) ?_
  refine qsi K (r_outside (σ := σ) (x := x) (y := 10) l D cI a hO (by omega) (by omega)) (cw_R_154 K (Nat.le_of_ble_eq_true rfl) (Nat.le_of_ble_eq_true rfl)) hw rfl hl.1 rfl (Nat.le_of_ble_eq_true rfl) d_R_set_4 ⟨Nat.zero_le _, Nat.zero_le _⟩ (fun H locs hw => ?_)
  refine nv_if_ne K (by omega) d_R_set_7 rfl (fun h => (by omega : False).elim) (fun _ => ?_)
  refine lv_iload_n K.1 K.2.1 d_R_set_10 rfl (lv_at hl 1 rfl) ?_
  refine nv_bipush (v := 6) K d_R_set_11 (by decide) ?_
  refine nv_icmp_eq K (by omega) (by omega) d_R_set_13 rfl (fun h => (by omega : False).elim) (fun _ => ?_)
  refine lv_iload_n K.1 K.2.1 d_R_set_16 rfl (lv_at hl 2 rfl) ?_
  refine lv_iload_n K.1 K.2.1 d_R_set_17 rfl (lv_at hl 1 rfl) ?_
  refine nv_bipush (v := 9) K d_R_set_18 (by decide) ?_
  refine nv_icmp_ne K (by omega) (by omega) d_R_set_20 rfl (fun _ => ?_) (fun h => (by omega : False).elim)
  refine nv_sipush (v := 256) K d_R_set_28 (by decide) ?_
  refine qsi K (r_outsideX (σ := σ) (x := y) (y := 256) l D cI a hO hy) (cw_R_154 K (Nat.le_of_ble_eq_true rfl) (Nat.le_of_ble_eq_true rfl)) hw rfl hl.1 rfl (Nat.le_of_ble_eq_true rfl) d_R_set_31 ⟨Nat.zero_le _, Nat.zero_le _⟩ (fun H locs hw => ?_)
  refine nv_if_eq K (by omega) d_R_set_34 rfl (fun h => (by omega : False).elim) (fun _ => ?_)
  refine nv_iconst (v := 1) K d_R_set_37 (by decide) ?_
  refine lv_goto K.1 K.2.1 d_R_set_38 rfl ?_
  refine qp_thrown (v := 1) K hw d_R_set_42 (fun H locs hw => ?_)
  have hO1 : z_Ok (z_s_th σ 1) := z_ok_th hO
  refine lv_aload_n K.1 K.2.1 d_R_set_45 rfl (lv_at hl 0 rfl) ?_
  refine qg_thrown (v := 1) K hw rfl d_R_set_46 ?_
  refine nv_if_le K (by omega) d_R_set_49 rfl (fun h => (by omega : False).elim) (fun _ => ?_)
  exact qrv K hr hlk hw (by rfl) d_R_set_52

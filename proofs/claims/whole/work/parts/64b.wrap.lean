set_option maxHeartbeats 4000000 in
set_option maxRecDepth 100000 in
theorem k_bringX {σ : z_St} {x y : Int32} {f : Nat → Int64} {V : Int64 → Prop} (l : Launch) (hst : l.stackTraces = false) (D : va_G) (cI cJ : ClassId) (a : pAd) (o : Nat) (hO : z_Ok σ) (hx : x < 0 ∨ nI 256 ≤ x) : kC l y_L_bring w_L_bring 7 104 D cI cJ a o [.ref a.1, .int x, .int y] σ f σ 1 (V) := by
  refine kc_of (cc := b_L_bring) (maxL := 4) (ret := some .int) (hh := [(0, 6, 9, 13)]) (by decide) rfl (Nat.le_of_ble_eq_true rfl) ?_
  intro p e s m below meth c ls K hr hlk hte hl hw hZ
  have K : CallFix p m c b_L_bring 4 s _ (_ :: T0) "PortProcessorLaw" := K
  have hl : lv_has ls 4 [(0, .ref a.1), (1, .int x), (2, .int y)] := hl
  refine lv_aload_n K.1 K.2.1 d_L_bring_0 rfl (lv_at hl 0 rfl) ?_
  refine lv_iload_n K.1 K.2.1 d_L_bring_1 rfl (lv_at hl 1 rfl) ?_
  refine lv_iload_n K.1 K.2.1 d_L_bring_2 rfl (lv_at hl 2 rfl) ?_
  refine kpx K (x_bring (σ := σ) (x := x) (y := y) l hst D cI a hO hx) (cx_L_29 K (Nat.le_of_ble_eq_true rfl) (Nat.le_of_ble_eq_true rfl)) hw hZ rfl hl.1 rfl (Nat.le_of_ble_eq_true rfl) d_L_bring_3 ⟨Nat.le_of_ble_eq_true rfl, Nat.le_of_ble_eq_true rfl⟩ (fun ce q9 H locs hw h1 h2 h3 => ?_)
  refine kcatch K hte rfl (by decide) (K.2.2.2.2 _ (List.mem_cons_of_mem _ m_lx_13)) (va_Nw.use rfl hZ.2.2.1.1) h1 h2 h3 ?_
  refine lv_astore_n (lv' := [(3, .ref q9), (0, .ref a.1), (1, .int x), (2, .int y)]) K.1 K.2.1 d_L_bring_9 rfl hl (by decide) rfl (fun ls hl => ?_)
  refine nv_iconst (v := 1) K d_L_bring_10 (by decide) ?_
  exact kri K hr hlk hw rfl (fun h => absurd h (by decide)) (by decide) (by decide) d_L_bring_11
set_option maxHeartbeats 4000000 in
set_option maxRecDepth 100000 in
theorem k_bringY {σ : z_St} {x : Nat} {y : Int32} {f : Nat → Int64} {V : Int64 → Prop} (l : Launch) (hst : l.stackTraces = false) (D : va_G) (cI cJ : ClassId) (a : pAd) (o : Nat) (hO : z_Ok σ) (hx : x < 256) (hy : y < 0 ∨ nI 256 ≤ y) : kC l y_L_bring w_L_bring 7 104 D cI cJ a o [.ref a.1, .int (nI x), .int y] σ f σ 1 (V) := by
  refine kc_of (cc := b_L_bring) (maxL := 4) (ret := some .int) (hh := [(0, 6, 9, 13)]) (by decide) rfl (Nat.le_of_ble_eq_true rfl) ?_
  intro p e s m below meth c ls K hr hlk hte hl hw hZ
  have K : CallFix p m c b_L_bring 4 s _ (_ :: T0) "PortProcessorLaw" := K
  have hl : lv_has ls 4 [(0, .ref a.1), (1, .int (nI x)), (2, .int y)] := hl
  refine lv_aload_n K.1 K.2.1 d_L_bring_0 rfl (lv_at hl 0 rfl) ?_
  refine lv_iload_n K.1 K.2.1 d_L_bring_1 rfl (lv_at hl 1 rfl) ?_
  refine lv_iload_n K.1 K.2.1 d_L_bring_2 rfl (lv_at hl 2 rfl) ?_
  refine kpx K (x_bringY (σ := σ) (x := x) (y := y) l hst D cI a hO hx hy) (cx_L_29 K (Nat.le_of_ble_eq_true rfl) (Nat.le_of_ble_eq_true rfl)) hw hZ rfl hl.1 rfl (Nat.le_of_ble_eq_true rfl) d_L_bring_3 ⟨Nat.le_of_ble_eq_true rfl, Nat.le_of_ble_eq_true rfl⟩ (fun ce q9 H locs hw h1 h2 h3 => ?_)
  refine kcatch K hte rfl (by decide) (K.2.2.2.2 _ (List.mem_cons_of_mem _ m_lx_13)) (va_Nw.use rfl hZ.2.2.1.1) h1 h2 h3 ?_
  refine lv_astore_n (lv' := [(3, .ref q9), (0, .ref a.1), (1, .int (nI x)), (2, .int y)]) K.1 K.2.1 d_L_bring_9 rfl hl (by decide) rfl (fun ls hl => ?_)
  refine nv_iconst (v := 1) K d_L_bring_10 (by decide) ?_
  exact kri K hr hlk hw rfl (fun h => absurd h (by decide)) (by decide) (by decide) d_L_bring_11
set_option maxHeartbeats 4000000 in
set_option maxRecDepth 100000 in
theorem k_out {σ : z_St} {x : Nat} {f : Nat → Int64} (l : Launch) (D : va_G) (cI cJ : ClassId) (a : pAd) (o : Nat) (hO : z_Ok σ) (hx : x < 256) : kC l y_L_out w_L_out 7 103 D cI cJ a o [.ref a.1, .int (nI x), .ref o] σ f σ 0 (fun z => z = Int32.toInt64 (nI (z_x_put σ x) - 1)) := by
  refine kc_of (cc := b_L_out) (maxL := 4) (ret := some .int) (hh := [(0, 9, 12, 13)]) (by decide) rfl (Nat.le_of_ble_eq_true rfl) ?_
  intro p e s m below meth c ls K hr hlk hte hl hw hZ
  have K : CallFix p m c b_L_out 4 s _ (_ :: T0) "PortProcessorLaw" := K
  have hl : lv_has ls 4 [(0, .ref a.1), (1, .int (nI x)), (2, .ref o)] := hl
  refine lv_aload_n K.1 K.2.1 d_L_out_0 rfl (lv_at hl 2 rfl) ?_
  refine nv_iconst (v := 0) K d_L_out_1 (by decide) ?_
  refine lv_aload_n K.1 K.2.1 d_L_out_2 rfl (lv_at hl 0 rfl) ?_
  refine lv_iload_n K.1 K.2.1 d_L_out_3 rfl (lv_at hl 1 rfl) ?_
  refine kpi K (c_out (σ := σ) (x := x) l D cI a hO hx) (cn_L_33 K (Nat.le_of_ble_eq_true rfl) (Nat.le_of_ble_eq_true rfl)) hw rfl hl.1 rfl (Nat.le_of_ble_eq_true rfl) d_L_out_4 ⟨Nat.zero_le _, Nat.zero_le _⟩ (fun H locs hw => ?_)
  refine lv_i2l K.1 K.2.1 d_L_out_7 rfl ?_
  refine klast K hw d_L_out_8 (fun H locs hw => ?_)
  refine lv_goto K.1 K.2.1 d_L_out_9 rfl ?_
  refine nv_iconst (v := 0) K d_L_out_15 (by decide) ?_
  exact kri K hr hlk hw rfl (fun _ => rfl) (by decide) (by decide) d_L_out_16
set_option maxHeartbeats 4000000 in
set_option maxRecDepth 100000 in
theorem k_outX {σ : z_St} {x : Int32} {f : Nat → Int64} {V : Int64 → Prop} (l : Launch) (hst : l.stackTraces = false) (D : va_G) (cI cJ : ClassId) (a : pAd) (o : Nat) (hO : z_Ok σ) (hx : x < 0 ∨ nI 256 ≤ x) : kC l y_L_out w_L_out 7 103 D cI cJ a o [.ref a.1, .int x, .ref o] σ f σ 1 (V) := by
  refine kc_of (cc := b_L_out) (maxL := 4) (ret := some .int) (hh := [(0, 9, 12, 13)]) (by decide) rfl (Nat.le_of_ble_eq_true rfl) ?_
  intro p e s m below meth c ls K hr hlk hte hl hw hZ
  have K : CallFix p m c b_L_out 4 s _ (_ :: T0) "PortProcessorLaw" := K
  have hl : lv_has ls 4 [(0, .ref a.1), (1, .int x), (2, .ref o)] := hl
  refine lv_aload_n K.1 K.2.1 d_L_out_0 rfl (lv_at hl 2 rfl) ?_
  refine nv_iconst (v := 0) K d_L_out_1 (by decide) ?_
  refine lv_aload_n K.1 K.2.1 d_L_out_2 rfl (lv_at hl 0 rfl) ?_
  refine lv_iload_n K.1 K.2.1 d_L_out_3 rfl (lv_at hl 1 rfl) ?_
  refine kpx K (x_out (σ := σ) (x := x) l hst D cI a hO hx) (cx_L_33 K (Nat.le_of_ble_eq_true rfl) (Nat.le_of_ble_eq_true rfl)) hw hZ rfl hl.1 rfl (Nat.le_of_ble_eq_true rfl) d_L_out_4 ⟨Nat.le_of_ble_eq_true rfl, Nat.le_of_ble_eq_true rfl⟩ (fun ce q9 H locs hw h1 h2 h3 => ?_)
  refine kcatch K hte rfl (by decide) (K.2.2.2.2 _ (List.mem_cons_of_mem _ m_lx_13)) (va_Nw.use rfl hZ.2.2.1.1) h1 h2 h3 ?_
  refine lv_astore_n (lv' := [(3, .ref q9), (0, .ref a.1), (1, .int x), (2, .ref o)]) K.1 K.2.1 d_L_out_12 rfl hl (by decide) rfl (fun ls hl => ?_)
  refine nv_iconst (v := 1) K d_L_out_13 (by decide) ?_
  exact kri K hr hlk hw rfl (fun h => absurd h (by decide)) (by decide) (by decide) d_L_out_14
set_option maxHeartbeats 4000000 in
set_option maxRecDepth 100000 in
theorem k_register {σ : z_St} {x : Nat} {f : Nat → Int64} (l : Launch) (D : va_G) (cI cJ : ClassId) (a : pAd) (o : Nat) (hO : z_Ok σ) (hx : x < 11) : kC l y_L_register w_L_register 7 103 D cI cJ a o [.ref a.1, .int (nI x), .ref o] σ f σ 0 (fun z => z = Int32.toInt64 (nI (zf_reg σ x))) := by
  refine kc_of (cc := b_L_register) (maxL := 4) (ret := some .int) (hh := [(0, 9, 12, 13)]) (by decide) rfl (Nat.le_of_ble_eq_true rfl) ?_
  intro p e s m below meth c ls K hr hlk hte hl hw hZ
  have K : CallFix p m c b_L_register 4 s _ (_ :: T0) "PortProcessorLaw" := K
  have hl : lv_has ls 4 [(0, .ref a.1), (1, .int (nI x)), (2, .ref o)] := hl
  refine lv_aload_n K.1 K.2.1 d_L_register_0 rfl (lv_at hl 2 rfl) ?_
  refine nv_iconst (v := 0) K d_L_register_1 (by decide) ?_
  refine lv_aload_n K.1 K.2.1 d_L_register_2 rfl (lv_at hl 0 rfl) ?_
  refine lv_iload_n K.1 K.2.1 d_L_register_3 rfl (lv_at hl 1 rfl) ?_
  refine kpi K (c_register (σ := σ) (x := x) l D cI a hO hx) (cn_L_36 K (Nat.le_of_ble_eq_true rfl) (Nat.le_of_ble_eq_true rfl)) hw rfl hl.1 rfl (Nat.le_of_ble_eq_true rfl) d_L_register_4 ⟨Nat.zero_le _, Nat.zero_le _⟩ (fun H locs hw => ?_)
  refine lv_i2l K.1 K.2.1 d_L_register_7 rfl ?_
  refine klast K hw d_L_register_8 (fun H locs hw => ?_)
  refine lv_goto K.1 K.2.1 d_L_register_9 rfl ?_
  refine nv_iconst (v := 0) K d_L_register_15 (by decide) ?_
  exact kri K hr hlk hw rfl (fun _ => rfl) (by decide) (by decide) d_L_register_16
set_option maxHeartbeats 4000000 in
set_option maxRecDepth 100000 in
theorem k_registerX {σ : z_St} {x : Int32} {f : Nat → Int64} {V : Int64 → Prop} (l : Launch) (hst : l.stackTraces = false) (D : va_G) (cI cJ : ClassId) (a : pAd) (o : Nat) (hO : z_Ok σ) (hx : x < 0 ∨ nI 11 ≤ x) : kC l y_L_register w_L_register 7 103 D cI cJ a o [.ref a.1, .int x, .ref o] σ f σ 1 (V) := by
  refine kc_of (cc := b_L_register) (maxL := 4) (ret := some .int) (hh := [(0, 9, 12, 13)]) (by decide) rfl (Nat.le_of_ble_eq_true rfl) ?_
  intro p e s m below meth c ls K hr hlk hte hl hw hZ
  have K : CallFix p m c b_L_register 4 s _ (_ :: T0) "PortProcessorLaw" := K
  have hl : lv_has ls 4 [(0, .ref a.1), (1, .int x), (2, .ref o)] := hl
  refine lv_aload_n K.1 K.2.1 d_L_register_0 rfl (lv_at hl 2 rfl) ?_
  refine nv_iconst (v := 0) K d_L_register_1 (by decide) ?_
  refine lv_aload_n K.1 K.2.1 d_L_register_2 rfl (lv_at hl 0 rfl) ?_
  refine lv_iload_n K.1 K.2.1 d_L_register_3 rfl (lv_at hl 1 rfl) ?_
  refine kpx K (x_register (σ := σ) (x := x) l hst D cI a hO hx) (cx_L_36 K (Nat.le_of_ble_eq_true rfl) (Nat.le_of_ble_eq_true rfl)) hw hZ rfl hl.1 rfl (Nat.le_of_ble_eq_true rfl) d_L_register_4 ⟨Nat.le_of_ble_eq_true rfl, Nat.le_of_ble_eq_true rfl⟩ (fun ce q9 H locs hw h1 h2 h3 => ?_)
  refine kcatch K hte rfl (by decide) (K.2.2.2.2 _ (List.mem_cons_of_mem _ m_lx_13)) (va_Nw.use rfl hZ.2.2.1.1) h1 h2 h3 ?_
  refine lv_astore_n (lv' := [(3, .ref q9), (0, .ref a.1), (1, .int x), (2, .ref o)]) K.1 K.2.1 d_L_register_12 rfl hl (by decide) rfl (fun ls hl => ?_)
  refine nv_iconst (v := 1) K d_L_register_13 (by decide) ?_
  exact kri K hr hlk hw rfl (fun h => absurd h (by decide)) (by decide) (by decide) d_L_register_14
set_option maxHeartbeats 4000000 in
set_option maxRecDepth 100000 in
theorem k_set {σ : z_St} {x y : Nat} {f : Nat → Int64} (l : Launch) (D : va_G) (cI cJ : ClassId) (a : pAd) (o : Nat) (hO : z_Ok σ) (hx : x < 10) (h6 : x ≠ 6) (hy : y < 65536) (hy2 : x ≠ 9 → y < 256) : kC l y_L_set w_L_set 7 105 D cI cJ a o [.ref a.1, .int (nI x), .int (nI y)] σ f (zf_set σ x y) 0 (fun _ => True) := by
  refine kc_of (cc := b_L_set) (maxL := 4) (ret := some .int) (hh := [(0, 6, 9, 13)]) (by decide) rfl (Nat.le_of_ble_eq_true rfl) ?_
  intro p e s m below meth c ls K hr hlk hte hl hw hZ
  have K : CallFix p m c b_L_set 4 s _ (_ :: T0) "PortProcessorLaw" := K
  have hl : lv_has ls 4 [(0, .ref a.1), (1, .int (nI x)), (2, .int (nI y))] := hl
  refine lv_aload_n K.1 K.2.1 d_L_set_0 rfl (lv_at hl 0 rfl) ?_
  refine lv_iload_n K.1 K.2.1 d_L_set_1 rfl (lv_at hl 1 rfl) ?_
  refine lv_iload_n K.1 K.2.1 d_L_set_2 rfl (lv_at hl 2 rfl) ?_
  refine kpv K (c_set (σ := σ) (x := x) (y := y) l D cI a hO hx h6 hy hy2) (cn_L_39 K (Nat.le_of_ble_eq_true rfl) (Nat.le_of_ble_eq_true rfl)) hw rfl hl.1 rfl (Nat.le_of_ble_eq_true rfl) d_L_set_3 ⟨Nat.zero_le _, Nat.zero_le _⟩ (fun H locs hw => ?_)
  refine lv_goto K.1 K.2.1 d_L_set_6 rfl ?_
  refine nv_iconst (v := 0) K d_L_set_12 (by decide) ?_
  exact kri K hr hlk hw rfl (fun _ => trivial) (by decide) (by decide) d_L_set_13
set_option maxHeartbeats 4000000 in
set_option maxRecDepth 100000 in
theorem k_setX {σ : z_St} {x y : Int32} {f : Nat → Int64} {V : Int64 → Prop} (l : Launch) (hst : l.stackTraces = false) (D : va_G) (cI cJ : ClassId) (a : pAd) (o : Nat) (hO : z_Ok σ) (hx : x < 0 ∨ nI 10 ≤ x) : kC l y_L_set w_L_set 7 105 D cI cJ a o [.ref a.1, .int x, .int y] σ f σ 1 (V) := by
  refine kc_of (cc := b_L_set) (maxL := 4) (ret := some .int) (hh := [(0, 6, 9, 13)]) (by decide) rfl (Nat.le_of_ble_eq_true rfl) ?_
  intro p e s m below meth c ls K hr hlk hte hl hw hZ
  have K : CallFix p m c b_L_set 4 s _ (_ :: T0) "PortProcessorLaw" := K
  have hl : lv_has ls 4 [(0, .ref a.1), (1, .int x), (2, .int y)] := hl
  refine lv_aload_n K.1 K.2.1 d_L_set_0 rfl (lv_at hl 0 rfl) ?_
  refine lv_iload_n K.1 K.2.1 d_L_set_1 rfl (lv_at hl 1 rfl) ?_
  refine lv_iload_n K.1 K.2.1 d_L_set_2 rfl (lv_at hl 2 rfl) ?_
  refine kpx K (x_set (σ := σ) (x := x) (y := y) l hst D cI a hO hx) (cx_L_39 K (Nat.le_of_ble_eq_true rfl) (Nat.le_of_ble_eq_true rfl)) hw hZ rfl hl.1 rfl (Nat.le_of_ble_eq_true rfl) d_L_set_3 ⟨Nat.le_of_ble_eq_true rfl, Nat.le_of_ble_eq_true rfl⟩ (fun ce q9 H locs hw h1 h2 h3 => ?_)
  refine kcatch K hte rfl (by decide) (K.2.2.2.2 _ (List.mem_cons_of_mem _ m_lx_13)) (va_Nw.use rfl hZ.2.2.1.1) h1 h2 h3 ?_
  refine lv_astore_n (lv' := [(3, .ref q9), (0, .ref a.1), (1, .int x), (2, .int y)]) K.1 K.2.1 d_L_set_9 rfl hl (by decide) rfl (fun ls hl => ?_)
  refine nv_iconst (v := 1) K d_L_set_10 (by decide) ?_
  exact kri K hr hlk hw rfl (fun h => absurd h (by decide)) (by decide) (by decide) d_L_set_11
set_option maxHeartbeats 4000000 in
set_option maxRecDepth 100000 in
theorem k_set6 {σ : z_St} {y : Int32} {f : Nat → Int64} {V : Int64 → Prop} (l : Launch) (hst : l.stackTraces = false) (D : va_G) (cI cJ : ClassId) (a : pAd) (o : Nat) (hO : z_Ok σ) : kC l y_L_set w_L_set 7 105 D cI cJ a o [.ref a.1, .int (nI 6), .int y] σ f σ 1 (V) := by
  refine kc_of (cc := b_L_set) (maxL := 4) (ret := some .int) (hh := [(0, 6, 9, 13)]) (by decide) rfl (Nat.le_of_ble_eq_true rfl) ?_
  intro p e s m below meth c ls K hr hlk hte hl hw hZ
  have K : CallFix p m c b_L_set 4 s _ (_ :: T0) "PortProcessorLaw" := K
  have hl : lv_has ls 4 [(0, .ref a.1), (1, .int (nI 6)), (2, .int y)] := hl
  refine lv_aload_n K.1 K.2.1 d_L_set_0 rfl (lv_at hl 0 rfl) ?_
  refine lv_iload_n K.1 K.2.1 d_L_set_1 rfl (lv_at hl 1 rfl) ?_
  refine lv_iload_n K.1 K.2.1 d_L_set_2 rfl (lv_at hl 2 rfl) ?_
  refine kpx K (x_set6 (σ := σ) (y := y) l hst D cI a hO) (cx_L_39 K (Nat.le_of_ble_eq_true rfl) (Nat.le_of_ble_eq_true rfl)) hw hZ rfl hl.1 rfl (Nat.le_of_ble_eq_true rfl) d_L_set_3 ⟨Nat.le_of_ble_eq_true rfl, Nat.le_of_ble_eq_true rfl⟩ (fun ce q9 H locs hw h1 h2 h3 => ?_)
  refine kcatch K hte rfl (by decide) (K.2.2.2.2 _ (List.mem_cons_of_mem _ m_lx_13)) (va_Nw.use rfl hZ.2.2.1.1) h1 h2 h3 ?_
  refine lv_astore_n (lv' := [(3, .ref q9), (0, .ref a.1), (1, .int (nI 6)), (2, .int y)]) K.1 K.2.1 d_L_set_9 rfl hl (by decide) rfl (fun ls hl => ?_)
  refine nv_iconst (v := 1) K d_L_set_10 (by decide) ?_
  exact kri K hr hlk hw rfl (fun h => absurd h (by decide)) (by decide) (by decide) d_L_set_11
set_option maxHeartbeats 4000000 in
set_option maxRecDepth 100000 in
theorem k_set9 {σ : z_St} {y : Int32} {f : Nat → Int64} {V : Int64 → Prop} (l : Launch) (hst : l.stackTraces = false) (D : va_G) (cI cJ : ClassId) (a : pAd) (o : Nat) (hO : z_Ok σ) (hy : y < 0 ∨ nI 65536 ≤ y) : kC l y_L_set w_L_set 7 105 D cI cJ a o [.ref a.1, .int (nI 9), .int y] σ f σ 1 (V) := by
  refine kc_of (cc := b_L_set) (maxL := 4) (ret := some .int) (hh := [(0, 6, 9, 13)]) (by decide) rfl (Nat.le_of_ble_eq_true rfl) ?_
  intro p e s m below meth c ls K hr hlk hte hl hw hZ
  have K : CallFix p m c b_L_set 4 s _ (_ :: T0) "PortProcessorLaw" := K
  have hl : lv_has ls 4 [(0, .ref a.1), (1, .int (nI 9)), (2, .int y)] := hl
  refine lv_aload_n K.1 K.2.1 d_L_set_0 rfl (lv_at hl 0 rfl) ?_
  refine lv_iload_n K.1 K.2.1 d_L_set_1 rfl (lv_at hl 1 rfl) ?_
  refine lv_iload_n K.1 K.2.1 d_L_set_2 rfl (lv_at hl 2 rfl) ?_
  refine kpx K (x_set9 (σ := σ) (y := y) l hst D cI a hO hy) (cx_L_39 K (Nat.le_of_ble_eq_true rfl) (Nat.le_of_ble_eq_true rfl)) hw hZ rfl hl.1 rfl (Nat.le_of_ble_eq_true rfl) d_L_set_3 ⟨Nat.le_of_ble_eq_true rfl, Nat.le_of_ble_eq_true rfl⟩ (fun ce q9 H locs hw h1 h2 h3 => ?_)
  refine kcatch K hte rfl (by decide) (K.2.2.2.2 _ (List.mem_cons_of_mem _ m_lx_13)) (va_Nw.use rfl hZ.2.2.1.1) h1 h2 h3 ?_
  refine lv_astore_n (lv' := [(3, .ref q9), (0, .ref a.1), (1, .int (nI 9)), (2, .int y)]) K.1 K.2.1 d_L_set_9 rfl hl (by decide) rfl (fun ls hl => ?_)
  refine nv_iconst (v := 1) K d_L_set_10 (by decide) ?_
  exact kri K hr hlk hw rfl (fun h => absurd h (by decide)) (by decide) (by decide) d_L_set_11
set_option maxHeartbeats 4000000 in
set_option maxRecDepth 100000 in
theorem k_setY {σ : z_St} {x : Nat} {y : Int32} {f : Nat → Int64} {V : Int64 → Prop} (l : Launch) (hst : l.stackTraces = false) (D : va_G) (cI cJ : ClassId) (a : pAd) (o : Nat) (hO : z_Ok σ) (hx : x < 10) (h6 : x ≠ 6) (h9 : x ≠ 9) (hy : y < 0 ∨ nI 256 ≤ y) : kC l y_L_set w_L_set 7 105 D cI cJ a o [.ref a.1, .int (nI x), .int y] σ f σ 1 (V) := by
  refine kc_of (cc := b_L_set) (maxL := 4) (ret := some .int) (hh := [(0, 6, 9, 13)]) (by decide) rfl (Nat.le_of_ble_eq_true rfl) ?_
  intro p e s m below meth c ls K hr hlk hte hl hw hZ
  have K : CallFix p m c b_L_set 4 s _ (_ :: T0) "PortProcessorLaw" := K
  have hl : lv_has ls 4 [(0, .ref a.1), (1, .int (nI x)), (2, .int y)] := hl
  refine lv_aload_n K.1 K.2.1 d_L_set_0 rfl (lv_at hl 0 rfl) ?_
  refine lv_iload_n K.1 K.2.1 d_L_set_1 rfl (lv_at hl 1 rfl) ?_
  refine lv_iload_n K.1 K.2.1 d_L_set_2 rfl (lv_at hl 2 rfl) ?_
  refine kpx K (x_setY (σ := σ) (x := x) (y := y) l hst D cI a hO hx h6 h9 hy) (cx_L_39 K (Nat.le_of_ble_eq_true rfl) (Nat.le_of_ble_eq_true rfl)) hw hZ rfl hl.1 rfl (Nat.le_of_ble_eq_true rfl) d_L_set_3 ⟨Nat.le_of_ble_eq_true rfl, Nat.le_of_ble_eq_true rfl⟩ (fun ce q9 H locs hw h1 h2 h3 => ?_)
  refine kcatch K hte rfl (by decide) (K.2.2.2.2 _ (List.mem_cons_of_mem _ m_lx_13)) (va_Nw.use rfl hZ.2.2.1.1) h1 h2 h3 ?_
  refine lv_astore_n (lv' := [(3, .ref q9), (0, .ref a.1), (1, .int (nI x)), (2, .int y)]) K.1 K.2.1 d_L_set_9 rfl hl (by decide) rfl (fun ls hl => ?_)
  refine nv_iconst (v := 1) K d_L_set_10 (by decide) ?_
  exact kri K hr hlk hw rfl (fun h => absurd h (by decide)) (by decide) (by decide) d_L_set_11
set_option maxHeartbeats 4000000 in
set_option maxRecDepth 100000 in
theorem k_is {σ : z_St} {x : Nat} {f : Nat → Int64} (l : Launch) (D : va_G) (cI cJ : ClassId) (a : pAd) (o : Nat) (hO : z_Ok σ) (hx : x < 3) : kC l y_L_is w_L_is 7 103 D cI cJ a o [.ref a.1, .int (nI x), .ref o] σ f σ 0 (fun z => z = lN (zf_is σ x)) := by
  refine kc_of (cc := b_L_is) (maxL := 4) (ret := some .int) (hh := [(0, 16, 19, 13)]) (by decide) rfl (Nat.le_of_ble_eq_true rfl) ?_
  intro p e s m below meth c ls K hr hlk hte hl hw hZ
  have K : CallFix p m c b_L_is 4 s _ (_ :: T0) "PortProcessorLaw" := K
  have hl : lv_has ls 4 [(0, .ref a.1), (1, .int (nI x)), (2, .ref o)] := hl
  refine lv_aload_n K.1 K.2.1 d_L_is_0 rfl (lv_at hl 2 rfl) ?_
  refine nv_iconst (v := 0) K d_L_is_1 (by decide) ?_
  refine lv_aload_n K.1 K.2.1 d_L_is_2 rfl (lv_at hl 0 rfl) ?_
  refine lv_iload_n K.1 K.2.1 d_L_is_3 rfl (lv_at hl 1 rfl) ?_
  refine kpi K (c_is (σ := σ) (x := x) l D cI a hO hx) (cn_L_42 K (Nat.le_of_ble_eq_true rfl) (Nat.le_of_ble_eq_true rfl)) hw rfl hl.1 rfl (Nat.le_of_ble_eq_true rfl) d_L_is_4 ⟨Nat.zero_le _, Nat.zero_le _⟩ (fun H locs hw => ?_)
  have hb := zf_isL hO x
  refine nl_if_eq (u := 0) (v := 1) (Y := 15) K (by omega) d_L_is_7 rfl (fun _ k => lv_lconst (v := lN 0) K.1 K.2.1 d_L_is_14 rfl k) (fun _ k => lv_lconst (v := lN 1) K.1 K.2.1 d_L_is_10 rfl (lv_goto K.1 K.2.1 d_L_is_11 rfl k)) ?_
  rw [show (if zf_is σ x = 0 then 0 else 1) = zf_is σ x by split <;> omega]
  refine klast K hw d_L_is_15 (fun H locs hw => ?_)
  refine lv_goto K.1 K.2.1 d_L_is_16 rfl ?_
  refine nv_iconst (v := 0) K d_L_is_22 (by decide) ?_
  exact kri K hr hlk hw rfl (fun _ => rfl) (by decide) (by decide) d_L_is_23
set_option maxHeartbeats 4000000 in
set_option maxRecDepth 100000 in
theorem k_isX {σ : z_St} {x : Int32} {f : Nat → Int64} {V : Int64 → Prop} (l : Launch) (hst : l.stackTraces = false) (D : va_G) (cI cJ : ClassId) (a : pAd) (o : Nat) (hO : z_Ok σ) (hx : x < 0 ∨ nI 3 ≤ x) : kC l y_L_is w_L_is 7 103 D cI cJ a o [.ref a.1, .int x, .ref o] σ f σ 1 (V) := by
  refine kc_of (cc := b_L_is) (maxL := 4) (ret := some .int) (hh := [(0, 16, 19, 13)]) (by decide) rfl (Nat.le_of_ble_eq_true rfl) ?_
  intro p e s m below meth c ls K hr hlk hte hl hw hZ
  have K : CallFix p m c b_L_is 4 s _ (_ :: T0) "PortProcessorLaw" := K
  have hl : lv_has ls 4 [(0, .ref a.1), (1, .int x), (2, .ref o)] := hl
  refine lv_aload_n K.1 K.2.1 d_L_is_0 rfl (lv_at hl 2 rfl) ?_
  refine nv_iconst (v := 0) K d_L_is_1 (by decide) ?_
  refine lv_aload_n K.1 K.2.1 d_L_is_2 rfl (lv_at hl 0 rfl) ?_
  refine lv_iload_n K.1 K.2.1 d_L_is_3 rfl (lv_at hl 1 rfl) ?_
  refine kpx K (x_is (σ := σ) (x := x) l hst D cI a hO hx) (cx_L_42 K (Nat.le_of_ble_eq_true rfl) (Nat.le_of_ble_eq_true rfl)) hw hZ rfl hl.1 rfl (Nat.le_of_ble_eq_true rfl) d_L_is_4 ⟨Nat.le_of_ble_eq_true rfl, Nat.le_of_ble_eq_true rfl⟩ (fun ce q9 H locs hw h1 h2 h3 => ?_)
  refine kcatch K hte rfl (by decide) (K.2.2.2.2 _ (List.mem_cons_of_mem _ m_lx_13)) (va_Nw.use rfl hZ.2.2.1.1) h1 h2 h3 ?_
  refine lv_astore_n (lv' := [(3, .ref q9), (0, .ref a.1), (1, .int x), (2, .ref o)]) K.1 K.2.1 d_L_is_19 rfl hl (by decide) rfl (fun ls hl => ?_)
  refine nv_iconst (v := 1) K d_L_is_20 (by decide) ?_
  exact kri K hr hlk hw rfl (fun h => absurd h (by decide)) (by decide) (by decide) d_L_is_21

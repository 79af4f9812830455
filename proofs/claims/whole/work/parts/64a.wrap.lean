set_option maxHeartbeats 4000000 in
set_option maxRecDepth 100000 in
theorem k_load {σ : z_St} {d n : Nat} {b : Int64} {f : Nat → Int64} (l : Launch) (D : va_G) (cI cJ : ClassId) (a : pAd) (o : Nat) (hO : z_Ok σ) (h1 : 1 ≤ n) (h2 : n ≤ 8) (hd : d + n ≤ 1024) : kC l y_L_load w_L_load 7 107 D cI cJ a o [.ref a.1, .int (nI d), .long b, .int (nI n)] σ f (z_s_mem σ (zl_A (z_x_mem σ) d n b n)) 0 (fun _ => True) := by
  refine kc_of (cc := b_L_load) (maxL := 6) (ret := some .int) (hh := [(0, 8, 11, 13)]) (by decide) rfl (Nat.le_of_ble_eq_true rfl) ?_
  intro p e s m below meth c ls K hr hlk hte hl hw hZ
  have K : CallFix p m c b_L_load 6 s _ (_ :: T0) "PortProcessorLaw" := K
  have hl : lv_has ls 6 [(0, .ref a.1), (1, .int (nI d)), (2, .long b), (4, .int (nI n))] := hl
  refine lv_aload_n K.1 K.2.1 d_L_load_0 rfl (lv_at hl 0 rfl) ?_
  refine lv_iload_n K.1 K.2.1 d_L_load_1 rfl (lv_at hl 1 rfl) ?_
  refine lv_lload_n K.1 K.2.1 d_L_load_2 rfl (lv_at hl 2 rfl) ?_
  refine lv_iload K.1 K.2.1 d_L_load_3 (lv_at hl 3 rfl) ?_
  refine kpv K (c_load (σ := σ) (d := d) (b := b) (n := n) l D cI a hO h1 h2 hd) (cn_L_7 K (Nat.le_of_ble_eq_true rfl) (Nat.le_of_ble_eq_true rfl)) hw rfl hl.1 rfl (Nat.le_of_ble_eq_true rfl) d_L_load_5 ⟨Nat.zero_le _, Nat.zero_le _⟩ (fun H locs hw => ?_)
  refine lv_goto K.1 K.2.1 d_L_load_8 rfl ?_
  refine nv_iconst (v := 0) K d_L_load_15 (by decide) ?_
  exact kri K hr hlk hw rfl (fun _ => trivial) (by decide) (by decide) d_L_load_16
set_option maxHeartbeats 4000000 in
set_option maxRecDepth 100000 in
theorem k_loadX {σ : z_St} {d n : Int32} {b : Int64} {f : Nat → Int64} {V : Int64 → Prop} (l : Launch) (hst : l.stackTraces = false) (D : va_G) (cI cJ : ClassId) (a : pAd) (o : Nat) (hO : z_Ok σ) (hn : n < nI 1 ∨ nI 9 ≤ n) : kC l y_L_load w_L_load 7 107 D cI cJ a o [.ref a.1, .int d, .long b, .int n] σ f σ 1 (V) := by
  refine kc_of (cc := b_L_load) (maxL := 6) (ret := some .int) (hh := [(0, 8, 11, 13)]) (by decide) rfl (Nat.le_of_ble_eq_true rfl) ?_
  intro p e s m below meth c ls K hr hlk hte hl hw hZ
  have K : CallFix p m c b_L_load 6 s _ (_ :: T0) "PortProcessorLaw" := K
  have hl : lv_has ls 6 [(0, .ref a.1), (1, .int d), (2, .long b), (4, .int n)] := hl
  refine lv_aload_n K.1 K.2.1 d_L_load_0 rfl (lv_at hl 0 rfl) ?_
  refine lv_iload_n K.1 K.2.1 d_L_load_1 rfl (lv_at hl 1 rfl) ?_
  refine lv_lload_n K.1 K.2.1 d_L_load_2 rfl (lv_at hl 2 rfl) ?_
  refine lv_iload K.1 K.2.1 d_L_load_3 (lv_at hl 3 rfl) ?_
  refine kpx K (x_load (σ := σ) (d := d) (b := b) (n := n) l hst D cI a hO hn) (cx_L_7 K (Nat.le_of_ble_eq_true rfl) (Nat.le_of_ble_eq_true rfl)) hw hZ rfl hl.1 rfl (Nat.le_of_ble_eq_true rfl) d_L_load_5 ⟨Nat.le_of_ble_eq_true rfl, Nat.le_of_ble_eq_true rfl⟩ (fun ce q9 H locs hw h1 h2 h3 => ?_)
  refine kcatch K hte rfl (by decide) (K.2.2.2.2 _ (List.mem_cons_of_mem _ m_lx_13)) (va_Nw.use rfl hZ.2.2.1.1) h1 h2 h3 ?_
  refine lv_astore (lv' := [(5, .ref q9), (0, .ref a.1), (1, .int d), (2, .long b), (4, .int n)]) K.1 K.2.1 d_L_load_11 hl (by decide) rfl (fun ls hl => ?_)
  refine nv_iconst (v := 1) K d_L_load_13 (by decide) ?_
  exact kri K hr hlk hw rfl (fun h => absurd h (by decide)) (by decide) (by decide) d_L_load_14
set_option maxHeartbeats 4000000 in
set_option maxRecDepth 100000 in
theorem k_loadY {σ : z_St} {n : Nat} {d : Int32} {b : Int64} {f : Nat → Int64} {V : Int64 → Prop} (l : Launch) (hst : l.stackTraces = false) (D : va_G) (cI cJ : ClassId) (a : pAd) (o : Nat) (hO : z_Ok σ) (h1 : 1 ≤ n) (h2 : n ≤ 8) (hd : d < 0 ∨ nI (1024 - n + 1) ≤ d) : kC l y_L_load w_L_load 7 107 D cI cJ a o [.ref a.1, .int d, .long b, .int (nI n)] σ f σ 1 (V) := by
  refine kc_of (cc := b_L_load) (maxL := 6) (ret := some .int) (hh := [(0, 8, 11, 13)]) (by decide) rfl (Nat.le_of_ble_eq_true rfl) ?_
  intro p e s m below meth c ls K hr hlk hte hl hw hZ
  have K : CallFix p m c b_L_load 6 s _ (_ :: T0) "PortProcessorLaw" := K
  have hl : lv_has ls 6 [(0, .ref a.1), (1, .int d), (2, .long b), (4, .int (nI n))] := hl
  refine lv_aload_n K.1 K.2.1 d_L_load_0 rfl (lv_at hl 0 rfl) ?_
  refine lv_iload_n K.1 K.2.1 d_L_load_1 rfl (lv_at hl 1 rfl) ?_
  refine lv_lload_n K.1 K.2.1 d_L_load_2 rfl (lv_at hl 2 rfl) ?_
  refine lv_iload K.1 K.2.1 d_L_load_3 (lv_at hl 3 rfl) ?_
  refine kpx K (x_loadY (σ := σ) (d := d) (b := b) (n := n) l hst D cI a hO h1 h2 hd) (cx_L_7 K (Nat.le_of_ble_eq_true rfl) (Nat.le_of_ble_eq_true rfl)) hw hZ rfl hl.1 rfl (Nat.le_of_ble_eq_true rfl) d_L_load_5 ⟨Nat.le_of_ble_eq_true rfl, Nat.le_of_ble_eq_true rfl⟩ (fun ce q9 H locs hw h1 h2 h3 => ?_)
  refine kcatch K hte rfl (by decide) (K.2.2.2.2 _ (List.mem_cons_of_mem _ m_lx_13)) (va_Nw.use rfl hZ.2.2.1.1) h1 h2 h3 ?_
  refine lv_astore (lv' := [(5, .ref q9), (0, .ref a.1), (1, .int d), (2, .long b), (4, .int (nI n))]) K.1 K.2.1 d_L_load_11 hl (by decide) rfl (fun ls hl => ?_)
  refine nv_iconst (v := 1) K d_L_load_13 (by decide) ?_
  exact kri K hr hlk hw rfl (fun h => absurd h (by decide)) (by decide) (by decide) d_L_load_14
set_option maxHeartbeats 4000000 in
set_option maxRecDepth 100000 in
theorem k_peek {σ : z_St} {x : Nat} {f : Nat → Int64} (l : Launch) (D : va_G) (cI cJ : ClassId) (a : pAd) (o : Nat) (hO : z_Ok σ) (hx : x < 1024) : kC l y_L_peek w_L_peek 7 103 D cI cJ a o [.ref a.1, .int (nI x), .ref o] σ f σ 0 (fun z => z = Int32.toInt64 (nI (z_x_mem σ x))) := by
  refine kc_of (cc := b_L_peek) (maxL := 4) (ret := some .int) (hh := [(0, 9, 12, 13)]) (by decide) rfl (Nat.le_of_ble_eq_true rfl) ?_
  intro p e s m below meth c ls K hr hlk hte hl hw hZ
  have K : CallFix p m c b_L_peek 4 s _ (_ :: T0) "PortProcessorLaw" := K
  have hl : lv_has ls 4 [(0, .ref a.1), (1, .int (nI x)), (2, .ref o)] := hl
  refine lv_aload_n K.1 K.2.1 d_L_peek_0 rfl (lv_at hl 2 rfl) ?_
  refine nv_iconst (v := 0) K d_L_peek_1 (by decide) ?_
  refine lv_aload_n K.1 K.2.1 d_L_peek_2 rfl (lv_at hl 0 rfl) ?_
  refine lv_iload_n K.1 K.2.1 d_L_peek_3 rfl (lv_at hl 1 rfl) ?_
  refine kpi K (c_peek (σ := σ) (x := x) l D cI a hO hx) (cn_L_15 K (Nat.le_of_ble_eq_true rfl) (Nat.le_of_ble_eq_true rfl)) hw rfl hl.1 rfl (Nat.le_of_ble_eq_true rfl) d_L_peek_4 ⟨Nat.zero_le _, Nat.zero_le _⟩ (fun H locs hw => ?_)
  refine lv_i2l K.1 K.2.1 d_L_peek_7 rfl ?_
  refine klast K hw d_L_peek_8 (fun H locs hw => ?_)
  refine lv_goto K.1 K.2.1 d_L_peek_9 rfl ?_
  refine nv_iconst (v := 0) K d_L_peek_15 (by decide) ?_
  exact kri K hr hlk hw rfl (fun _ => rfl) (by decide) (by decide) d_L_peek_16
set_option maxHeartbeats 4000000 in
set_option maxRecDepth 100000 in
theorem k_peekX {σ : z_St} {x : Int32} {f : Nat → Int64} {V : Int64 → Prop} (l : Launch) (hst : l.stackTraces = false) (D : va_G) (cI cJ : ClassId) (a : pAd) (o : Nat) (hO : z_Ok σ) (hx : x < 0 ∨ nI 1024 ≤ x) : kC l y_L_peek w_L_peek 7 103 D cI cJ a o [.ref a.1, .int x, .ref o] σ f σ 1 (V) := by
  refine kc_of (cc := b_L_peek) (maxL := 4) (ret := some .int) (hh := [(0, 9, 12, 13)]) (by decide) rfl (Nat.le_of_ble_eq_true rfl) ?_
  intro p e s m below meth c ls K hr hlk hte hl hw hZ
  have K : CallFix p m c b_L_peek 4 s _ (_ :: T0) "PortProcessorLaw" := K
  have hl : lv_has ls 4 [(0, .ref a.1), (1, .int x), (2, .ref o)] := hl
  refine lv_aload_n K.1 K.2.1 d_L_peek_0 rfl (lv_at hl 2 rfl) ?_
  refine nv_iconst (v := 0) K d_L_peek_1 (by decide) ?_
  refine lv_aload_n K.1 K.2.1 d_L_peek_2 rfl (lv_at hl 0 rfl) ?_
  refine lv_iload_n K.1 K.2.1 d_L_peek_3 rfl (lv_at hl 1 rfl) ?_
  refine kpx K (x_peek (σ := σ) (x := x) l hst D cI a hO hx) (cx_L_15 K (Nat.le_of_ble_eq_true rfl) (Nat.le_of_ble_eq_true rfl)) hw hZ rfl hl.1 rfl (Nat.le_of_ble_eq_true rfl) d_L_peek_4 ⟨Nat.le_of_ble_eq_true rfl, Nat.le_of_ble_eq_true rfl⟩ (fun ce q9 H locs hw h1 h2 h3 => ?_)
  refine kcatch K hte rfl (by decide) (K.2.2.2.2 _ (List.mem_cons_of_mem _ m_lx_13)) (va_Nw.use rfl hZ.2.2.1.1) h1 h2 h3 ?_
  refine lv_astore_n (lv' := [(3, .ref q9), (0, .ref a.1), (1, .int x), (2, .ref o)]) K.1 K.2.1 d_L_peek_12 rfl hl (by decide) rfl (fun ls hl => ?_)
  refine nv_iconst (v := 1) K d_L_peek_13 (by decide) ?_
  exact kri K hr hlk hw rfl (fun h => absurd h (by decide)) (by decide) (by decide) d_L_peek_14
set_option maxHeartbeats 4000000 in
set_option maxRecDepth 100000 in
theorem k_start {σ : z_St} {x : Nat} {f : Nat → Int64} (l : Launch) (D : va_G) (cI cJ : ClassId) (a : pAd) (o : Nat) (hO : z_Ok σ) (hx : x < 65536) : kC l y_L_start w_L_start 7 103 D cI cJ a o [.ref a.1, .int (nI x)] σ f (z_s_ha (z_s_pc σ x) 0) 0 (fun _ => True) := by
  refine kc_of (cc := b_L_start) (maxL := 3) (ret := some .int) (hh := [(0, 5, 8, 13)]) (by decide) rfl (Nat.le_of_ble_eq_true rfl) ?_
  intro p e s m below meth c ls K hr hlk hte hl hw hZ
  have K : CallFix p m c b_L_start 3 s _ (_ :: T0) "PortProcessorLaw" := K
  have hl : lv_has ls 3 [(0, .ref a.1), (1, .int (nI x))] := hl
  refine lv_aload_n K.1 K.2.1 d_L_start_0 rfl (lv_at hl 0 rfl) ?_
  refine lv_iload_n K.1 K.2.1 d_L_start_1 rfl (lv_at hl 1 rfl) ?_
  refine kpv K (c_start (σ := σ) (x := x) l D cI a hO hx) (cn_L_19 K (Nat.le_of_ble_eq_true rfl) (Nat.le_of_ble_eq_true rfl)) hw rfl hl.1 rfl (Nat.le_of_ble_eq_true rfl) d_L_start_2 ⟨Nat.zero_le _, Nat.zero_le _⟩ (fun H locs hw => ?_)
  refine lv_goto K.1 K.2.1 d_L_start_5 rfl ?_
  refine nv_iconst (v := 0) K d_L_start_11 (by decide) ?_
  exact kri K hr hlk hw rfl (fun _ => trivial) (by decide) (by decide) d_L_start_12
set_option maxHeartbeats 4000000 in
set_option maxRecDepth 100000 in
theorem k_startX {σ : z_St} {x : Int32} {f : Nat → Int64} {V : Int64 → Prop} (l : Launch) (hst : l.stackTraces = false) (D : va_G) (cI cJ : ClassId) (a : pAd) (o : Nat) (hO : z_Ok σ) (hx : x < 0 ∨ nI 65536 ≤ x) : kC l y_L_start w_L_start 7 103 D cI cJ a o [.ref a.1, .int x] σ f σ 1 (V) := by
  refine kc_of (cc := b_L_start) (maxL := 3) (ret := some .int) (hh := [(0, 5, 8, 13)]) (by decide) rfl (Nat.le_of_ble_eq_true rfl) ?_
  intro p e s m below meth c ls K hr hlk hte hl hw hZ
  have K : CallFix p m c b_L_start 3 s _ (_ :: T0) "PortProcessorLaw" := K
  have hl : lv_has ls 3 [(0, .ref a.1), (1, .int x)] := hl
  refine lv_aload_n K.1 K.2.1 d_L_start_0 rfl (lv_at hl 0 rfl) ?_
  refine lv_iload_n K.1 K.2.1 d_L_start_1 rfl (lv_at hl 1 rfl) ?_
  refine kpx K (x_start (σ := σ) (x := x) l hst D cI a hO hx) (cx_L_19 K (Nat.le_of_ble_eq_true rfl) (Nat.le_of_ble_eq_true rfl)) hw hZ rfl hl.1 rfl (Nat.le_of_ble_eq_true rfl) d_L_start_2 ⟨Nat.le_of_ble_eq_true rfl, Nat.le_of_ble_eq_true rfl⟩ (fun ce q9 H locs hw h1 h2 h3 => ?_)
  refine kcatch K hte rfl (by decide) (K.2.2.2.2 _ (List.mem_cons_of_mem _ m_lx_13)) (va_Nw.use rfl hZ.2.2.1.1) h1 h2 h3 ?_
  refine lv_astore_n (lv' := [(2, .ref q9), (0, .ref a.1), (1, .int x)]) K.1 K.2.1 d_L_start_8 rfl hl (by decide) rfl (fun ls hl => ?_)
  refine nv_iconst (v := 1) K d_L_start_9 (by decide) ?_
  exact kri K hr hlk hw rfl (fun h => absurd h (by decide)) (by decide) (by decide) d_L_start_10
set_option maxHeartbeats 4000000 in
set_option maxRecDepth 100000 in
theorem k_run {σ : z_St} {n : Nat} {f : Nat → Int64} (l : Launch) (D : va_G) (cI cJ : ClassId) (a : pAd) (o : Nat) (hO : z_Ok σ) (h1 : 1 ≤ n) (h2 : n ≤ 500) : kC l y_L_run w_L_run 7 158 D cI cJ a o [.ref a.1, .int (nI n), .ref o] σ f (z_rx n σ) 0 (fun z => z = Int32.toInt64 (nI (z_rv n σ))) := by
  refine kc_of (cc := b_L_run) (maxL := 4) (ret := some .int) (hh := [(0, 9, 12, 13)]) (by decide) rfl (Nat.le_of_ble_eq_true rfl) ?_
  intro p e s m below meth c ls K hr hlk hte hl hw hZ
  have K : CallFix p m c b_L_run 4 s _ (_ :: T0) "PortProcessorLaw" := K
  have hl : lv_has ls 4 [(0, .ref a.1), (1, .int (nI n)), (2, .ref o)] := hl
  refine lv_aload_n K.1 K.2.1 d_L_run_0 rfl (lv_at hl 2 rfl) ?_
  refine nv_iconst (v := 0) K d_L_run_1 (by decide) ?_
  refine lv_aload_n K.1 K.2.1 d_L_run_2 rfl (lv_at hl 0 rfl) ?_
  refine lv_iload_n K.1 K.2.1 d_L_run_3 rfl (lv_at hl 1 rfl) ?_
  refine kpi K (c_run (σ := σ) (n := n) l D cI a hO h1 h2) (cn_L_23 K (Nat.le_of_ble_eq_true rfl) (Nat.le_of_ble_eq_true rfl)) hw rfl hl.1 rfl (Nat.le_of_ble_eq_true rfl) d_L_run_4 ⟨Nat.zero_le _, Nat.zero_le _⟩ (fun H locs hw => ?_)
  refine lv_i2l K.1 K.2.1 d_L_run_7 rfl ?_
  refine klast K hw d_L_run_8 (fun H locs hw => ?_)
  refine lv_goto K.1 K.2.1 d_L_run_9 rfl ?_
  refine nv_iconst (v := 0) K d_L_run_15 (by decide) ?_
  exact kri K hr hlk hw rfl (fun _ => rfl) (by decide) (by decide) d_L_run_16
set_option maxHeartbeats 4000000 in
set_option maxRecDepth 100000 in
theorem k_runX {σ : z_St} {x : Int32} {f : Nat → Int64} {V : Int64 → Prop} (l : Launch) (hst : l.stackTraces = false) (D : va_G) (cI cJ : ClassId) (a : pAd) (o : Nat) (hO : z_Ok σ) (hx : x < nI 1 ∨ nI 501 ≤ x) : kC l y_L_run w_L_run 7 158 D cI cJ a o [.ref a.1, .int x, .ref o] σ f σ 1 (V) := by
  refine kc_of (cc := b_L_run) (maxL := 4) (ret := some .int) (hh := [(0, 9, 12, 13)]) (by decide) rfl (Nat.le_of_ble_eq_true rfl) ?_
  intro p e s m below meth c ls K hr hlk hte hl hw hZ
  have K : CallFix p m c b_L_run 4 s _ (_ :: T0) "PortProcessorLaw" := K
  have hl : lv_has ls 4 [(0, .ref a.1), (1, .int x), (2, .ref o)] := hl
  refine lv_aload_n K.1 K.2.1 d_L_run_0 rfl (lv_at hl 2 rfl) ?_
  refine nv_iconst (v := 0) K d_L_run_1 (by decide) ?_
  refine lv_aload_n K.1 K.2.1 d_L_run_2 rfl (lv_at hl 0 rfl) ?_
  refine lv_iload_n K.1 K.2.1 d_L_run_3 rfl (lv_at hl 1 rfl) ?_
  refine kpx K (x_run (σ := σ) (x := x) l hst D cI a hO hx) (cx_L_23 K (Nat.le_of_ble_eq_true rfl) (Nat.le_of_ble_eq_true rfl)) hw hZ rfl hl.1 rfl (Nat.le_of_ble_eq_true rfl) d_L_run_4 ⟨Nat.le_of_ble_eq_true rfl, Nat.le_of_ble_eq_true rfl⟩ (fun ce q9 H locs hw h1 h2 h3 => ?_)
  refine kcatch K hte rfl (by decide) (K.2.2.2.2 _ (List.mem_cons_of_mem _ m_lx_13)) (va_Nw.use rfl hZ.2.2.1.1) h1 h2 h3 ?_
  refine lv_astore_n (lv' := [(3, .ref q9), (0, .ref a.1), (1, .int x), (2, .ref o)]) K.1 K.2.1 d_L_run_12 rfl hl (by decide) rfl (fun ls hl => ?_)
  refine nv_iconst (v := 1) K d_L_run_13 (by decide) ?_
  exact kri K hr hlk hw rfl (fun h => absurd h (by decide)) (by decide) (by decide) d_L_run_14
set_option maxHeartbeats 4000000 in
set_option maxRecDepth 100000 in
theorem k_interrupt {σ : z_St} {x : Nat} {f : Nat → Int64} (l : Launch) (D : va_G) (cI cJ : ClassId) (a : pAd) (o : Nat) (hO : z_Ok σ) (hx : x < 8) : kC l y_L_interrupt w_L_interrupt 7 103 D cI cJ a o [.ref a.1, .int (nI x)] σ f (z_s_wa σ (x + 1)) 0 (fun _ => True) := by
  refine kc_of (cc := b_L_interrupt) (maxL := 3) (ret := some .int) (hh := [(0, 5, 8, 13)]) (by decide) rfl (Nat.le_of_ble_eq_true rfl) ?_
  intro p e s m below meth c ls K hr hlk hte hl hw hZ
  have K : CallFix p m c b_L_interrupt 3 s _ (_ :: T0) "PortProcessorLaw" := K
  have hl : lv_has ls 3 [(0, .ref a.1), (1, .int (nI x))] := hl
  refine lv_aload_n K.1 K.2.1 d_L_interrupt_0 rfl (lv_at hl 0 rfl) ?_
  refine lv_iload_n K.1 K.2.1 d_L_interrupt_1 rfl (lv_at hl 1 rfl) ?_
  refine kpv K (c_interrupt (σ := σ) (x := x) l D cI a hO hx) (cn_L_26 K (Nat.le_of_ble_eq_true rfl) (Nat.le_of_ble_eq_true rfl)) hw rfl hl.1 rfl (Nat.le_of_ble_eq_true rfl) d_L_interrupt_2 ⟨Nat.zero_le _, Nat.zero_le _⟩ (fun H locs hw => ?_)
  refine lv_goto K.1 K.2.1 d_L_interrupt_5 rfl ?_
  refine nv_iconst (v := 0) K d_L_interrupt_11 (by decide) ?_
  exact kri K hr hlk hw rfl (fun _ => trivial) (by decide) (by decide) d_L_interrupt_12
set_option maxHeartbeats 4000000 in
set_option maxRecDepth 100000 in
theorem k_interruptX {σ : z_St} {x : Int32} {f : Nat → Int64} {V : Int64 → Prop} (l : Launch) (hst : l.stackTraces = false) (D : va_G) (cI cJ : ClassId) (a : pAd) (o : Nat) (hO : z_Ok σ) (hx : x < 0 ∨ nI 8 ≤ x) : kC l y_L_interrupt w_L_interrupt 7 103 D cI cJ a o [.ref a.1, .int x] σ f σ 1 (V) := by
  refine kc_of (cc := b_L_interrupt) (maxL := 3) (ret := some .int) (hh := [(0, 5, 8, 13)]) (by decide) rfl (Nat.le_of_ble_eq_true rfl) ?_
  intro p e s m below meth c ls K hr hlk hte hl hw hZ
  have K : CallFix p m c b_L_interrupt 3 s _ (_ :: T0) "PortProcessorLaw" := K
  have hl : lv_has ls 3 [(0, .ref a.1), (1, .int x)] := hl
  refine lv_aload_n K.1 K.2.1 d_L_interrupt_0 rfl (lv_at hl 0 rfl) ?_
  refine lv_iload_n K.1 K.2.1 d_L_interrupt_1 rfl (lv_at hl 1 rfl) ?_
  refine kpx K (x_interrupt (σ := σ) (x := x) l hst D cI a hO hx) (cx_L_26 K (Nat.le_of_ble_eq_true rfl) (Nat.le_of_ble_eq_true rfl)) hw hZ rfl hl.1 rfl (Nat.le_of_ble_eq_true rfl) d_L_interrupt_2 ⟨Nat.le_of_ble_eq_true rfl, Nat.le_of_ble_eq_true rfl⟩ (fun ce q9 H locs hw h1 h2 h3 => ?_)
  refine kcatch K hte rfl (by decide) (K.2.2.2.2 _ (List.mem_cons_of_mem _ m_lx_13)) (va_Nw.use rfl hZ.2.2.1.1) h1 h2 h3 ?_
  refine lv_astore_n (lv' := [(2, .ref q9), (0, .ref a.1), (1, .int x)]) K.1 K.2.1 d_L_interrupt_8 rfl hl (by decide) rfl (fun ls hl => ?_)
  refine nv_iconst (v := 1) K d_L_interrupt_9 (by decide) ?_
  exact kri K hr hlk hw rfl (fun h => absurd h (by decide)) (by decide) (by decide) d_L_interrupt_10
set_option maxHeartbeats 4000000 in
set_option maxRecDepth 100000 in
theorem k_bring {σ : z_St} {x y : Nat} {f : Nat → Int64} (l : Launch) (D : va_G) (cI cJ : ClassId) (a : pAd) (o : Nat) (hO : z_Ok σ) (hx : x < 256) (hy : y < 256) : kC l y_L_bring w_L_bring 7 104 D cI cJ a o [.ref a.1, .int (nI x), .int (nI y)] σ f (z_s_inn σ (z_fs (z_x_inn σ) x y)) 0 (fun _ => True) := by
  refine kc_of (cc := b_L_bring) (maxL := 4) (ret := some .int) (hh := [(0, 6, 9, 13)]) (by decide) rfl (Nat.le_of_ble_eq_true rfl) ?_
  intro p e s m below meth c ls K hr hlk hte hl hw hZ
  have K : CallFix p m c b_L_bring 4 s _ (_ :: T0) "PortProcessorLaw" := K
  have hl : lv_has ls 4 [(0, .ref a.1), (1, .int (nI x)), (2, .int (nI y))] := hl
  refine lv_aload_n K.1 K.2.1 d_L_bring_0 rfl (lv_at hl 0 rfl) ?_
  refine lv_iload_n K.1 K.2.1 d_L_bring_1 rfl (lv_at hl 1 rfl) ?_
  refine lv_iload_n K.1 K.2.1 d_L_bring_2 rfl (lv_at hl 2 rfl) ?_
  refine kpv K (c_bring (σ := σ) (x := x) (y := y) l D cI a hO hx hy) (cn_L_29 K (Nat.le_of_ble_eq_true rfl) (Nat.le_of_ble_eq_true rfl)) hw rfl hl.1 rfl (Nat.le_of_ble_eq_true rfl) d_L_bring_3 ⟨Nat.zero_le _, Nat.zero_le _⟩ (fun H locs hw => ?_)
  refine lv_goto K.1 K.2.1 d_L_bring_6 rfl ?_
  refine nv_iconst (v := 0) K d_L_bring_12 (by decide) ?_
  exact kri K hr hlk hw rfl (fun _ => trivial) (by decide) (by decide) d_L_bring_13

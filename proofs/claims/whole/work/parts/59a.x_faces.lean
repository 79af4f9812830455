set_option maxHeartbeats 4000000 in
set_option maxRecDepth 100000 in
theorem x_peek {σ : z_St} {x : Int32} (l : Launch) (hst : l.stackTraces = false) (D : va_G) (cI : ClassId) (a : pAd) (hO : z_Ok σ) (hx : x < 0 ∨ nI 1024 ≤ x) : pX l y_P_peek w_P_peek 6 82 D cI a [.ref a.1, .int x] σ := by
  refine px_of (cc := b_P_peek) (maxL := 2) (ret := (some .int)) (by decide) rfl (Nat.le_of_ble_eq_true rfl) ?_
  intro p e s m below meth c ls K hlk hnt hl hw hZ
  have K : CallFix p m c b_P_peek 2 s _ (_ :: T0) "PortProcessor" := K
  have hl : lv_has ls 2 [(0, .ref a.1), (1, .int x)] := hl
  refine lv_iload_n K.1 K.2.1 d_P_peek_0 rfl (lv_at hl 1 rfl) ?_
  refine lv_if_lt K.1 K.2.1 d_P_peek_1 rfl (fun h1 => ?_) (fun h1 => ?_)
  · exact pth (is := 50) (text := "the address is not in the memory") K hlk hnt hst hw hZ (by decide +kernel) hl.1 d_P_peek_11 d_P_peek_14 d_P_peek_15 d_P_peek_17 d_P_peek_20
  · refine lv_iload_n K.1 K.2.1 d_P_peek_4 rfl (lv_at hl 1 rfl) ?_
    refine nv_sipush (v := 1024) K d_P_peek_5 (by decide) ?_
    refine lv_icmp_lt K.1 K.2.1 d_P_peek_8 rfl (fun h2 => (rw_a hx h1 h2).elim) (fun h2 => ?_)
    exact pth (is := 50) (text := "the address is not in the memory") K hlk hnt hst hw hZ (by decide +kernel) hl.1 d_P_peek_11 d_P_peek_14 d_P_peek_15 d_P_peek_17 d_P_peek_20
set_option maxHeartbeats 4000000 in
set_option maxRecDepth 100000 in
theorem x_start {σ : z_St} {x : Int32} (l : Launch) (hst : l.stackTraces = false) (D : va_G) (cI : ClassId) (a : pAd) (hO : z_Ok σ) (hx : x < 0 ∨ nI 65536 ≤ x) : pX l y_P_start w_P_start 6 82 D cI a [.ref a.1, .int x] σ := by
  refine px_of (cc := b_P_start) (maxL := 2) (ret := none) (by decide) rfl (Nat.le_of_ble_eq_true rfl) ?_
  intro p e s m below meth c ls K hlk hnt hl hw hZ
  have K : CallFix p m c b_P_start 2 s _ (_ :: T0) "PortProcessor" := K
  have hl : lv_has ls 2 [(0, .ref a.1), (1, .int x)] := hl
  refine lv_iload_n K.1 K.2.1 d_P_start_0 rfl (lv_at hl 1 rfl) ?_
  refine lv_if_lt K.1 K.2.1 d_P_start_1 rfl (fun h1 => ?_) (fun h1 => ?_)
  · exact pth (is := 57) (text := "no such address") K hlk hnt hst hw hZ (by decide +kernel) hl.1 d_P_start_10 d_P_start_13 d_P_start_14 d_P_start_16 d_P_start_19
  · refine lv_iload_n K.1 K.2.1 d_P_start_4 rfl (lv_at hl 1 rfl) ?_
    refine nv_ldc (v := 65535) K d_P_start_5 (K.2.2.2.2 _ (List.mem_cons_of_mem _ m_constant_PortProcessor_56_65535)) ?_
    refine lv_icmp_le K.1 K.2.1 d_P_start_7 rfl (fun h2 => (rw_b (by decide) hx h1 h2).elim) (fun h2 => ?_)
    exact pth (is := 57) (text := "no such address") K hlk hnt hst hw hZ (by decide +kernel) hl.1 d_P_start_10 d_P_start_13 d_P_start_14 d_P_start_16 d_P_start_19
set_option maxHeartbeats 4000000 in
set_option maxRecDepth 100000 in
theorem x_interrupt {σ : z_St} {x : Int32} (l : Launch) (hst : l.stackTraces = false) (D : va_G) (cI : ClassId) (a : pAd) (hO : z_Ok σ) (hx : x < 0 ∨ nI 8 ≤ x) : pX l y_P_interrupt w_P_interrupt 6 82 D cI a [.ref a.1, .int x] σ := by
  refine px_of (cc := b_P_interrupt) (maxL := 2) (ret := none) (by decide) rfl (Nat.le_of_ble_eq_true rfl) ?_
  intro p e s m below meth c ls K hlk hnt hl hw hZ
  have K : CallFix p m c b_P_interrupt 2 s _ (_ :: T0) "PortProcessor" := K
  have hl : lv_has ls 2 [(0, .ref a.1), (1, .int x)] := hl
  refine lv_iload_n K.1 K.2.1 d_P_interrupt_0 rfl (lv_at hl 1 rfl) ?_
  refine lv_if_lt K.1 K.2.1 d_P_interrupt_1 rfl (fun h1 => ?_) (fun h1 => ?_)
  · exact pth (is := 72) (text := "no such interrupt") K hlk hnt hst hw hZ (by decide +kernel) hl.1 d_P_interrupt_10 d_P_interrupt_13 d_P_interrupt_14 d_P_interrupt_16 d_P_interrupt_19
  · refine lv_iload_n K.1 K.2.1 d_P_interrupt_4 rfl (lv_at hl 1 rfl) ?_
    refine nv_bipush (v := 7) K d_P_interrupt_5 (by decide) ?_
    refine lv_icmp_le K.1 K.2.1 d_P_interrupt_7 rfl (fun h2 => (rw_b (by decide) hx h1 h2).elim) (fun h2 => ?_)
    exact pth (is := 72) (text := "no such interrupt") K hlk hnt hst hw hZ (by decide +kernel) hl.1 d_P_interrupt_10 d_P_interrupt_13 d_P_interrupt_14 d_P_interrupt_16 d_P_interrupt_19
set_option maxHeartbeats 4000000 in
set_option maxRecDepth 100000 in
theorem x_register {σ : z_St} {x : Int32} (l : Launch) (hst : l.stackTraces = false) (D : va_G) (cI : ClassId) (a : pAd) (hO : z_Ok σ) (hx : x < 0 ∨ nI 11 ≤ x) : pX l y_P_register w_P_register 6 82 D cI a [.ref a.1, .int x] σ := by
  refine px_of (cc := b_P_register) (maxL := 2) (ret := (some .int)) (by decide) rfl (Nat.le_of_ble_eq_true rfl) ?_
  intro p e s m below meth c ls K hlk hnt hl hw hZ
  have K : CallFix p m c b_P_register 2 s _ (_ :: T0) "PortProcessor" := K
  have hl : lv_has ls 2 [(0, .ref a.1), (1, .int x)] := hl
  refine lv_iload_n K.1 K.2.1 d_P_register_0 rfl (lv_at hl 1 rfl) ?_
  refine lv_if_lt K.1 K.2.1 d_P_register_1 rfl (fun h1 => ?_) (fun h1 => ?_)
  · exact pth (is := 82) (text := "no such register") K hlk hnt hst hw hZ (by decide +kernel) hl.1 d_P_register_10 d_P_register_13 d_P_register_14 d_P_register_16 d_P_register_19
  · refine lv_iload_n K.1 K.2.1 d_P_register_4 rfl (lv_at hl 1 rfl) ?_
    refine nv_bipush (v := 10) K d_P_register_5 (by decide) ?_
    refine lv_icmp_le K.1 K.2.1 d_P_register_7 rfl (fun h2 => (rw_b (by decide) hx h1 h2).elim) (fun h2 => ?_)
    exact pth (is := 82) (text := "no such register") K hlk hnt hst hw hZ (by decide +kernel) hl.1 d_P_register_10 d_P_register_13 d_P_register_14 d_P_register_16 d_P_register_19
set_option maxHeartbeats 4000000 in
set_option maxRecDepth 100000 in
theorem x_run {σ : z_St} {x : Int32} (l : Launch) (hst : l.stackTraces = false) (D : va_G) (cI : ClassId) (a : pAd) (hO : z_Ok σ) (hx : x < nI 1 ∨ nI 501 ≤ x) : pX l y_P_run w_P_run 6 82 D cI a [.ref a.1, .int x] σ := by
  refine px_of (cc := b_P_run) (maxL := 4) (ret := (some .int)) (by decide) rfl (Nat.le_of_ble_eq_true rfl) ?_
  intro p e s m below meth c ls K hlk hnt hl hw hZ
  have K : CallFix p m c b_P_run 4 s _ (_ :: T0) "PortProcessor" := K
  have hl : lv_has ls 4 [(0, .ref a.1), (1, .int x)] := hl
  refine lv_iload_n K.1 K.2.1 d_P_run_0 rfl (lv_at hl 1 rfl) ?_
  refine nv_iconst (v := 1) K d_P_run_1 (by decide) ?_
  refine lv_icmp_lt K.1 K.2.1 d_P_run_2 rfl (fun h1 => ?_) (fun h1 => ?_)
  · exact pth (is := 66) (text := "1 to 500 steps can be run") K hlk hnt hst hw hZ (by decide +kernel) hl.1 d_P_run_12 d_P_run_15 d_P_run_16 d_P_run_18 d_P_run_21
  · refine lv_iload_n K.1 K.2.1 d_P_run_5 rfl (lv_at hl 1 rfl) ?_
    refine nv_sipush (v := 500) K d_P_run_6 (by decide) ?_
    refine lv_icmp_le K.1 K.2.1 d_P_run_9 rfl (fun h2 => (rw_d (by decide) hx h1 h2).elim) (fun h2 => ?_)
    exact pth (is := 66) (text := "1 to 500 steps can be run") K hlk hnt hst hw hZ (by decide +kernel) hl.1 d_P_run_12 d_P_run_15 d_P_run_16 d_P_run_18 d_P_run_21
set_option maxHeartbeats 4000000 in
set_option maxRecDepth 100000 in
theorem x_out {σ : z_St} {x : Int32} (l : Launch) (hst : l.stackTraces = false) (D : va_G) (cI : ClassId) (a : pAd) (hO : z_Ok σ) (hx : x < 0 ∨ nI 256 ≤ x) : pX l y_P_out w_P_out 6 82 D cI a [.ref a.1, .int x] σ := by
  refine px_of (cc := b_P_out) (maxL := 2) (ret := (some .int)) (by decide) rfl (Nat.le_of_ble_eq_true rfl) ?_
  intro p e s m below meth c ls K hlk hnt hl hw hZ
  have K : CallFix p m c b_P_out 2 s _ (_ :: T0) "PortProcessor" := K
  have hl : lv_has ls 2 [(0, .ref a.1), (1, .int x)] := hl
  refine lv_iload_n K.1 K.2.1 d_P_out_0 rfl (lv_at hl 1 rfl) ?_
  refine psi K (c_isByteX (σ := σ) (x := x) l D cI a hO hx) (cw_P_74 K (Nat.le_of_ble_eq_true rfl) (Nat.le_of_ble_eq_true rfl)) hw rfl hl.1 rfl (Nat.le_of_ble_eq_true rfl) d_P_out_1 ⟨Nat.zero_le _, Nat.zero_le _⟩ (fun H locs hw => ?_)
  refine nv_if_ne K (by omega) d_P_out_4 rfl (fun h => (by omega : False).elim) (fun _ => ?_)
  exact pth (is := 78) (text := "no such port") K hlk hnt hst hw hZ (by decide +kernel) hl.1 d_P_out_7 d_P_out_10 d_P_out_11 d_P_out_13 d_P_out_16
set_option maxHeartbeats 4000000 in
set_option maxRecDepth 100000 in
theorem x_bring {σ : z_St} {x y : Int32} (l : Launch) (hst : l.stackTraces = false) (D : va_G) (cI : ClassId) (a : pAd) (hO : z_Ok σ) (hx : x < 0 ∨ nI 256 ≤ x) : pX l y_P_bring w_P_bring 6 82 D cI a [.ref a.1, .int x, .int y] σ := by
  refine px_of (cc := b_P_bring) (maxL := 3) (ret := none) (by decide) rfl (Nat.le_of_ble_eq_true rfl) ?_
  intro p e s m below meth c ls K hlk hnt hl hw hZ
  have K : CallFix p m c b_P_bring 3 s _ (_ :: T0) "PortProcessor" := K
  have hl : lv_has ls 3 [(0, .ref a.1), (1, .int x), (2, .int y)] := hl
  refine lv_iload_n K.1 K.2.1 d_P_bring_0 rfl (lv_at hl 1 rfl) ?_
  refine psi K (c_isByteX (σ := σ) (x := x) l D cI a hO hx) (cw_P_74 K (Nat.le_of_ble_eq_true rfl) (Nat.le_of_ble_eq_true rfl)) hw rfl hl.1 rfl (Nat.le_of_ble_eq_true rfl) d_P_bring_1 ⟨Nat.zero_le _, Nat.zero_le _⟩ (fun H locs hw => ?_)
  refine nv_if_ne K (by omega) d_P_bring_4 rfl (fun h => (by omega : False).elim) (fun _ => ?_)
  exact pth (is := 78) (text := "no such port") K hlk hnt hst hw hZ (by decide +kernel) hl.1 d_P_bring_7 d_P_bring_10 d_P_bring_11 d_P_bring_13 d_P_bring_16
set_option maxHeartbeats 4000000 in
set_option maxRecDepth 100000 in
theorem x_bringY {σ : z_St} {x : Nat} {y : Int32} (l : Launch) (hst : l.stackTraces = false) (D : va_G) (cI : ClassId) (a : pAd) (hO : z_Ok σ) (hx : x < 256) (hy : y < 0 ∨ nI 256 ≤ y) : pX l y_P_bring w_P_bring 6 82 D cI a [.ref a.1, .int (nI x), .int y] σ := by
  refine px_of (cc := b_P_bring) (maxL := 3) (ret := none) (by decide) rfl (Nat.le_of_ble_eq_true rfl) ?_
  intro p e s m below meth c ls K hlk hnt hl hw hZ
  have K : CallFix p m c b_P_bring 3 s _ (_ :: T0) "PortProcessor" := K
  have hl : lv_has ls 3 [(0, .ref a.1), (1, .int (nI x)), (2, .int y)] := hl
  refine lv_iload_n K.1 K.2.1 d_P_bring_0 rfl (lv_at hl 1 rfl) ?_
  refine psi K (c_isByte (σ := σ) (x := x) l D cI a hO (by omega)) (cw_P_74 K (Nat.le_of_ble_eq_true rfl) (Nat.le_of_ble_eq_true rfl)) hw rfl hl.1 rfl (Nat.le_of_ble_eq_true rfl) d_P_bring_1 ⟨Nat.zero_le _, Nat.zero_le _⟩ (fun H locs hw => ?_)
  refine nv_if_ne K (by omega) d_P_bring_4 rfl (fun _ => ?_) (fun h => (by omega : False).elim)
  refine lv_iload_n K.1 K.2.1 d_P_bring_17 rfl (lv_at hl 2 rfl) ?_
  refine psi K (c_isByteX (σ := σ) (x := y) l D cI a hO hy) (cw_P_74 K (Nat.le_of_ble_eq_true rfl) (Nat.le_of_ble_eq_true rfl)) hw rfl hl.1 rfl (Nat.le_of_ble_eq_true rfl) d_P_bring_18 ⟨Nat.zero_le _, Nat.zero_le _⟩ (fun H locs hw => ?_)
  refine nv_if_ne K (by omega) d_P_bring_21 rfl (fun h => (by omega : False).elim) (fun _ => ?_)
  exact pth (is := 80) (text := "the value is no byte") K hlk hnt hst hw hZ (by decide +kernel) hl.1 d_P_bring_24 d_P_bring_27 d_P_bring_28 d_P_bring_30 d_P_bring_33

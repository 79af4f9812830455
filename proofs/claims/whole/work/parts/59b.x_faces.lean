set_option maxHeartbeats 4000000 in
set_option maxRecDepth 100000 in
theorem x_set {σ : z_St} {x y : Int32} (l : Launch) (hst : l.stackTraces = false) (D : va_G) (cI : ClassId) (a : pAd) (hO : z_Ok σ) (hx : x < 0 ∨ nI 10 ≤ x) : pX l y_P_set w_P_set 6 82 D cI a [.ref a.1, .int x, .int y] σ := by
  refine px_of (cc := b_P_set) (maxL := 4) (ret := none) (by decide) rfl (Nat.le_of_ble_eq_true rfl) ?_
  intro p e s m below meth c ls K hlk hnt hl hw hZ
  have K : CallFix p m c b_P_set 4 s _ (_ :: T0) "PortProcessor" := K
  have hl : lv_has ls 4 [(0, .ref a.1), (1, .int x), (2, .int y)] := hl
  refine lv_iload_n K.1 K.2.1 d_P_set_0 rfl (lv_at hl 1 rfl) ?_
  refine lv_if_lt K.1 K.2.1 d_P_set_1 rfl (fun h1 => ?_) (fun h1 => ?_)
  · exact pth (is := 94) (text := "no register that can be set") K hlk hnt hst hw hZ (by decide +kernel) hl.1 d_P_set_16 d_P_set_19 d_P_set_20 d_P_set_22 d_P_set_25
  · refine lv_iload_n K.1 K.2.1 d_P_set_4 rfl (lv_at hl 1 rfl) ?_
    refine nv_bipush (v := 9) K d_P_set_5 (by decide) ?_
    refine lv_icmp_gt K.1 K.2.1 d_P_set_7 rfl (fun h2 => ?_) (fun h2 => (rw_c (by decide) hx h1 h2).elim)
    exact pth (is := 94) (text := "no register that can be set") K hlk hnt hst hw hZ (by decide +kernel) hl.1 d_P_set_16 d_P_set_19 d_P_set_20 d_P_set_22 d_P_set_25
set_option maxHeartbeats 4000000 in
set_option maxRecDepth 100000 in
theorem x_set6 {σ : z_St} {y : Int32} (l : Launch) (hst : l.stackTraces = false) (D : va_G) (cI : ClassId) (a : pAd) (hO : z_Ok σ) : pX l y_P_set w_P_set 6 82 D cI a [.ref a.1, .int (nI 6), .int y] σ := by
  refine px_of (cc := b_P_set) (maxL := 4) (ret := none) (by decide) rfl (Nat.le_of_ble_eq_true rfl) ?_
  intro p e s m below meth c ls K hlk hnt hl hw hZ
  have K : CallFix p m c b_P_set 4 s _ (_ :: T0) "PortProcessor" := K
  have hl : lv_has ls 4 [(0, .ref a.1), (1, .int (nI 6)), (2, .int y)] := hl
  refine lv_iload_n K.1 K.2.1 d_P_set_0 rfl (lv_at hl 1 rfl) ?_
  refine nv_if_lt K (by omega) d_P_set_1 rfl ?_
  refine lv_iload_n K.1 K.2.1 d_P_set_4 rfl (lv_at hl 1 rfl) ?_
  refine nv_bipush (v := 9) K d_P_set_5 (by decide) ?_
  refine nv_icmp_gt K (by omega) (by omega) d_P_set_7 rfl (fun h => (by omega : False).elim) (fun _ => ?_)
  refine lv_iload_n K.1 K.2.1 d_P_set_10 rfl (lv_at hl 1 rfl) ?_
  refine nv_bipush (v := 6) K d_P_set_11 (by decide) ?_
  refine nv_icmp_ne K (by omega) (by omega) d_P_set_13 rfl (fun h => (by omega : False).elim) (fun _ => ?_)
  exact pth (is := 94) (text := "no register that can be set") K hlk hnt hst hw hZ (by decide +kernel) hl.1 d_P_set_16 d_P_set_19 d_P_set_20 d_P_set_22 d_P_set_25
set_option maxHeartbeats 4000000 in
set_option maxRecDepth 100000 in
theorem x_set9 {σ : z_St} {y : Int32} (l : Launch) (hst : l.stackTraces = false) (D : va_G) (cI : ClassId) (a : pAd) (hO : z_Ok σ) (hy : y < 0 ∨ nI 65536 ≤ y) : pX l y_P_set w_P_set 6 82 D cI a [.ref a.1, .int (nI 9), .int y] σ := by
  refine px_of (cc := b_P_set) (maxL := 4) (ret := none) (by decide) rfl (Nat.le_of_ble_eq_true rfl) ?_
  intro p e s m below meth c ls K hlk hnt hl hw hZ
  have K : CallFix p m c b_P_set 4 s _ (_ :: T0) "PortProcessor" := K
  have hl : lv_has ls 4 [(0, .ref a.1), (1, .int (nI 9)), (2, .int y)] := hl
  refine lv_iload_n K.1 K.2.1 d_P_set_0 rfl (lv_at hl 1 rfl) ?_
  refine nv_if_lt K (by omega) d_P_set_1 rfl ?_
  refine lv_iload_n K.1 K.2.1 d_P_set_4 rfl (lv_at hl 1 rfl) ?_
  refine nv_bipush (v := 9) K d_P_set_5 (by decide) ?_
  refine nv_icmp_gt K (by omega) (by omega) d_P_set_7 rfl (fun h => (by omega : False).elim) (fun _ => ?_)
  refine lv_iload_n K.1 K.2.1 d_P_set_10 rfl (lv_at hl 1 rfl) ?_
  refine nv_bipush (v := 6) K d_P_set_11 (by decide) ?_
  refine nv_icmp_ne K (by omega) (by omega) d_P_set_13 rfl (fun _ => ?_) (fun h => (by omega : False).elim)
  refine lv_iload_n K.1 K.2.1 d_P_set_26 rfl (lv_at hl 1 rfl) ?_
  refine nv_bipush (v := 9) K d_P_set_27 (by decide) ?_
  refine nv_icmp_ne K (by omega) (by omega) d_P_set_29 rfl (fun h => (by omega : False).elim) (fun _ => ?_)
  refine nv_ldc (v := 65535) K d_P_set_32 (K.2.2.2.2 _ (List.mem_cons_of_mem _ m_constant_PortProcessor_56_65535)) ?_
  refine lv_goto K.1 K.2.1 d_P_set_34 rfl ?_
  refine lv_istore_n (lv' := [(3, .int (nI 65535)), (0, .ref a.1), (1, .int (nI 9)), (2, .int y)]) K.1 K.2.1 d_P_set_40 rfl hl (by decide) rfl (fun ls hl => ?_)
  refine lv_iload_n K.1 K.2.1 d_P_set_41 rfl (lv_at hl 3 rfl) ?_
  refine lv_if_lt K.1 K.2.1 d_P_set_42 rfl (fun h1 => ?_) (fun h1 => ?_)
  · exact pth (is := 96) (text := "the register cannot hold the value") K hlk hnt hst hw hZ (by decide +kernel) hl.1 d_P_set_50 d_P_set_53 d_P_set_54 d_P_set_56 d_P_set_59
  · refine lv_iload_n K.1 K.2.1 d_P_set_45 rfl (lv_at hl 3 rfl) ?_
    refine lv_iload_n K.1 K.2.1 d_P_set_46 rfl (lv_at hl 0 rfl) ?_
    refine lv_icmp_le K.1 K.2.1 d_P_set_47 rfl (fun h2 => (rw_b (by decide) hy h1 h2).elim) (fun h2 => ?_)
    exact pth (is := 96) (text := "the register cannot hold the value") K hlk hnt hst hw hZ (by decide +kernel) hl.1 d_P_set_50 d_P_set_53 d_P_set_54 d_P_set_56 d_P_set_59
set_option maxHeartbeats 4000000 in
set_option maxRecDepth 100000 in
theorem x_setY {σ : z_St} {x : Nat} {y : Int32} (l : Launch) (hst : l.stackTraces = false) (D : va_G) (cI : ClassId) (a : pAd) (hO : z_Ok σ) (hx : x < 10) (h6 : x ≠ 6) (h9 : x ≠ 9) (hy : y < 0 ∨ nI 256 ≤ y) : pX l y_P_set w_P_set 6 82 D cI a [.ref a.1, .int (nI x), .int y] σ := by
  refine px_of (cc := b_P_set) (maxL := 4) (ret := none) (by decide) rfl (Nat.le_of_ble_eq_true rfl) ?_
  intro p e s m below meth c ls K hlk hnt hl hw hZ
  have K : CallFix p m c b_P_set 4 s _ (_ :: T0) "PortProcessor" := K
  have hl : lv_has ls 4 [(0, .ref a.1), (1, .int (nI x)), (2, .int y)] := hl
  refine lv_iload_n K.1 K.2.1 d_P_set_0 rfl (lv_at hl 1 rfl) ?_
  refine nv_if_lt K (by omega) d_P_set_1 rfl ?_
  refine lv_iload_n K.1 K.2.1 d_P_set_4 rfl (lv_at hl 1 rfl) ?_
  refine nv_bipush (v := 9) K d_P_set_5 (by decide) ?_
  refine nv_icmp_gt K (by omega) (by omega) d_P_set_7 rfl (fun h => (by omega : False).elim) (fun _ => ?_)
  refine lv_iload_n K.1 K.2.1 d_P_set_10 rfl (lv_at hl 1 rfl) ?_
  refine nv_bipush (v := 6) K d_P_set_11 (by decide) ?_
  refine nv_icmp_ne K (by omega) (by omega) d_P_set_13 rfl (fun _ => ?_) (fun h => (by omega : False).elim)
  refine lv_iload_n K.1 K.2.1 d_P_set_26 rfl (lv_at hl 1 rfl) ?_
  refine nv_bipush (v := 9) K d_P_set_27 (by decide) ?_
  refine nv_icmp_ne K (by omega) (by omega) d_P_set_29 rfl (fun _ => ?_) (fun h => (by omega : False).elim)
  refine nv_sipush (v := 255) K d_P_set_37 (by decide) ?_
  refine lv_istore_n (lv' := [(3, .int (nI 255)), (0, .ref a.1), (1, .int (nI x)), (2, .int y)]) K.1 K.2.1 d_P_set_40 rfl hl (by decide) rfl (fun ls hl => ?_)
  refine lv_iload_n K.1 K.2.1 d_P_set_41 rfl (lv_at hl 3 rfl) ?_
  refine lv_if_lt K.1 K.2.1 d_P_set_42 rfl (fun h1 => ?_) (fun h1 => ?_)
  · exact pth (is := 96) (text := "the register cannot hold the value") K hlk hnt hst hw hZ (by decide +kernel) hl.1 d_P_set_50 d_P_set_53 d_P_set_54 d_P_set_56 d_P_set_59
  · refine lv_iload_n K.1 K.2.1 d_P_set_45 rfl (lv_at hl 3 rfl) ?_
    refine lv_iload_n K.1 K.2.1 d_P_set_46 rfl (lv_at hl 0 rfl) ?_
    refine lv_icmp_le K.1 K.2.1 d_P_set_47 rfl (fun h2 => (rw_b (by decide) hy h1 h2).elim) (fun h2 => ?_)
    exact pth (is := 96) (text := "the register cannot hold the value") K hlk hnt hst hw hZ (by decide +kernel) hl.1 d_P_set_50 d_P_set_53 d_P_set_54 d_P_set_56 d_P_set_59
set_option maxHeartbeats 4000000 in
set_option maxRecDepth 100000 in
theorem x_is {σ : z_St} {x : Int32} (l : Launch) (hst : l.stackTraces = false) (D : va_G) (cI : ClassId) (a : pAd) (hO : z_Ok σ) (hx : x < 0 ∨ nI 3 ≤ x) : pX l y_P_is w_P_is 6 82 D cI a [.ref a.1, .int x] σ := by
  refine px_of (cc := b_P_is) (maxL := 2) (ret := (some .boolean)) (by decide) rfl (Nat.le_of_ble_eq_true rfl) ?_
  intro p e s m below meth c ls K hlk hnt hl hw hZ
  have K : CallFix p m c b_P_is 2 s _ (_ :: T0) "PortProcessor" := K
  have hl : lv_has ls 2 [(0, .ref a.1), (1, .int x)] := hl
  refine lv_iload_n K.1 K.2.1 d_P_is_0 rfl (lv_at hl 1 rfl) ?_
  refine lv_tableOut K.1 K.2.1 d_P_is_1 (rw_t (by decide) hx) rfl ?_
  exact pth (is := 105) (text := "no such question") K hlk hnt hst hw hZ (by decide +kernel) hl.1 d_P_is_52 d_P_is_55 d_P_is_56 d_P_is_58 d_P_is_61
set_option maxHeartbeats 4000000 in
set_option maxRecDepth 100000 in
theorem x_load {σ : z_St} {d n : Int32} {b : Int64} (l : Launch) (hst : l.stackTraces = false) (D : va_G) (cI : ClassId) (a : pAd) (hO : z_Ok σ) (hn : n < nI 1 ∨ nI 9 ≤ n) : pX l y_P_load w_P_load 6 82 D cI a [.ref a.1, .int d, .long b, .int n] σ := by
  refine px_of (cc := b_P_load) (maxL := 6) (ret := none) (by decide) rfl (Nat.le_of_ble_eq_true rfl) ?_
  intro p e s m below meth c ls K hlk hnt hl hw hZ
  have K : CallFix p m c b_P_load 6 s _ (_ :: T0) "PortProcessor" := K
  have hl : lv_has ls 6 [(0, .ref a.1), (1, .int d), (2, .long b), (4, .int n)] := hl
  refine lv_iload K.1 K.2.1 d_P_load_0 (lv_at hl 3 rfl) ?_
  refine nv_iconst (v := 1) K d_P_load_2 (by decide) ?_
  refine lv_icmp_lt K.1 K.2.1 d_P_load_3 rfl (fun h1 => ?_) (fun h1 => ?_)
  · exact pth (is := 39) (text := "1 to 8 bytes can be loaded") K hlk hnt hst hw hZ (by decide +kernel) hl.1 d_P_load_13 d_P_load_16 d_P_load_17 d_P_load_19 d_P_load_22
  · refine lv_iload K.1 K.2.1 d_P_load_6 (lv_at hl 3 rfl) ?_
    refine nv_bipush (v := 8) K d_P_load_8 (by decide) ?_
    refine lv_icmp_le K.1 K.2.1 d_P_load_10 rfl (fun h2 => (rw_d (by decide) hn h1 h2).elim) (fun h2 => ?_)
    exact pth (is := 39) (text := "1 to 8 bytes can be loaded") K hlk hnt hst hw hZ (by decide +kernel) hl.1 d_P_load_13 d_P_load_16 d_P_load_17 d_P_load_19 d_P_load_22
set_option maxHeartbeats 4000000 in
set_option maxRecDepth 100000 in
theorem x_loadY {σ : z_St} {n : Nat} {d : Int32} {b : Int64} (l : Launch) (hst : l.stackTraces = false) (D : va_G) (cI : ClassId) (a : pAd) (hO : z_Ok σ) (h1 : 1 ≤ n) (h2 : n ≤ 8) (hd : d < 0 ∨ nI (1024 - n + 1) ≤ d) : pX l y_P_load w_P_load 6 82 D cI a [.ref a.1, .int d, .long b, .int (nI n)] σ := by
  refine px_of (cc := b_P_load) (maxL := 6) (ret := none) (by decide) rfl (Nat.le_of_ble_eq_true rfl) ?_
  intro p e s m below meth c ls K hlk hnt hl hw hZ
  have K : CallFix p m c b_P_load 6 s _ (_ :: T0) "PortProcessor" := K
  have hl : lv_has ls 6 [(0, .ref a.1), (1, .int d), (2, .long b), (4, .int (nI n))] := hl
  refine lv_iload K.1 K.2.1 d_P_load_0 (lv_at hl 3 rfl) ?_
  refine nv_iconst (v := 1) K d_P_load_2 (by decide) ?_
  refine nv_icmp_lt K (by omega) (by omega) d_P_load_3 rfl (fun h => (by omega : False).elim) (fun _ => ?_)
  refine lv_iload K.1 K.2.1 d_P_load_6 (lv_at hl 3 rfl) ?_
  refine nv_bipush (v := 8) K d_P_load_8 (by decide) ?_
  refine nv_icmp_le K (by omega) (by omega) d_P_load_10 rfl (fun _ => ?_) (fun h => (by omega : False).elim)
  refine lv_iload_n K.1 K.2.1 d_P_load_23 rfl (lv_at hl 1 rfl) ?_
  refine lv_if_lt K.1 K.2.1 d_P_load_24 rfl (fun h1 => ?_) (fun h1 => ?_)
  · exact pth (is := 44) (text := "not all of the bytes are in the memory") K hlk hnt hst hw hZ (by decide +kernel) hl.1 d_P_load_37 d_P_load_40 d_P_load_41 d_P_load_43 d_P_load_46
  · refine lv_iload_n K.1 K.2.1 d_P_load_27 rfl (lv_at hl 1 rfl) ?_
    refine nv_sipush (v := 1024) K d_P_load_28 (by decide) ?_
    refine lv_iload K.1 K.2.1 d_P_load_31 (lv_at hl 3 rfl) ?_
    refine nv_isub K (by omega) d_P_load_33 ?_
    refine lv_icmp_le K.1 K.2.1 d_P_load_34 rfl (fun h2 => (rw_b (by omega) hd h1 h2).elim) (fun h2 => ?_)
    exact pth (is := 44) (text := "not all of the bytes are in the memory") K hlk hnt hst hw hZ (by decide +kernel) hl.1 d_P_load_37 d_P_load_40 d_P_load_41 d_P_load_43 d_P_load_46

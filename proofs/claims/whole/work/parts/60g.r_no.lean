set_option maxHeartbeats 4000000 in
set_option maxRecDepth 100000 in
theorem r_runX {σ : z_St} {x : Int32} (l : Launch) (D : va_G) (cI : ClassId) (a : qAd) (hO : z_Ok σ) (hx : x < nI 1 ∨ nI 501 ≤ x) : qCi l y_R_run w_R_run 7 166 D cI a [.ref a.1, .int x] σ (z_s_th σ 1) (nI 0) := by
  refine qci_of (cc := b_R_run) (maxL := 4) (ret := (some .int)) (by decide) rfl (Nat.le_of_ble_eq_true rfl) ?_
  intro p e s m below meth c ls K hr hlk hl hw
  have K : CallFix p m c b_R_run 4 s _ (_ :: T0) "PortProcessorModel" := K
  have hl : lv_has ls 4 [(0, .ref a.1), (1, .int x)] := hl
  refine lv_aload_n K.1 K.2.1 d_R_run_0 rfl (lv_at hl 0 rfl) ?_
  refine lv_iload_n K.1 K.2.1 d_R_run_1 rfl (lv_at hl 1 rfl) ?_
  refine nv_iconst (v := 1) K d_R_run_2 (by decide) ?_
  refine lv_icmp_lt K.1 K.2.1 d_R_run_3 rfl (fun h1 => ?_) (fun h1 => ?_)
  · refine nv_iconst (v := 1) K d_R_run_13 (by decide) ?_
    refine lv_goto K.1 K.2.1 d_R_run_14 rfl ?_
    refine qp_thrown (v := 1) K hw d_R_run_18 (fun H locs hw => ?_)
    have hO2 : z_Ok (z_s_th σ 1) := z_ok_th hO
    refine nv_iconst (v := 0) K d_R_run_21 (by decide) ?_
    refine lv_istore_n (lv' := [(2, .int (nI 0)), (0, .ref a.1), (1, .int x)]) K.1 K.2.1 d_R_run_22 rfl hl (by decide) rfl (fun ls hl => ?_)
    refine nv_iconst (v := 0) K d_R_run_23 (by decide) ?_
    refine lv_istore_n (lv' := [(3, .int (nI 0)), (2, .int (nI 0)), (0, .ref a.1), (1, .int x)]) K.1 K.2.1 d_R_run_24 rfl hl (by decide) rfl (fun ls hl => ?_)
    refine lv_iload_n K.1 K.2.1 d_R_run_25 rfl (lv_at hl 0 rfl) ?_
    refine lv_iload_n K.1 K.2.1 d_R_run_26 rfl (lv_at hl 3 rfl) ?_
    refine lv_icmp_ge K.1 K.2.1 d_R_run_27 rfl (fun h3 => ?_) (fun h3 => ?_)
    · refine lv_iload_n K.1 K.2.1 d_R_run_58 rfl (lv_at hl 1 rfl) ?_
      exact qri K hr hlk hw (by rfl) (by rfl) d_R_run_59
    · refine lv_aload_n K.1 K.2.1 d_R_run_30 rfl (lv_at hl 2 rfl) ?_
      refine qg_thrown (v := 1) K hw rfl d_R_run_31 ?_
      refine nv_if_ne K (by omega) d_R_run_34 rfl (fun _ => ?_) (fun h => (by omega : False).elim)
      refine lv_iload_n K.1 K.2.1 d_R_run_58 rfl (lv_at hl 1 rfl) ?_
      exact qri K hr hlk hw (by rfl) (by rfl) d_R_run_59
  · refine lv_iload_n K.1 K.2.1 d_R_run_6 rfl (lv_at hl 1 rfl) ?_
    refine nv_sipush (v := 500) K d_R_run_7 (by decide) ?_
    refine lv_icmp_le K.1 K.2.1 d_R_run_10 rfl (fun h4 => (rw_d (by decide) hx h1 h4).elim) (fun h4 => ?_)
    refine nv_iconst (v := 1) K d_R_run_13 (by decide) ?_
    refine lv_goto K.1 K.2.1 d_R_run_14 rfl ?_
    refine qp_thrown (v := 1) K hw d_R_run_18 (fun H locs hw => ?_)
    have hO5 : z_Ok (z_s_th σ 1) := z_ok_th hO
    refine nv_iconst (v := 0) K d_R_run_21 (by decide) ?_
    refine lv_istore_n (lv' := [(2, .int (nI 0)), (0, .ref a.1), (1, .int x)]) K.1 K.2.1 d_R_run_22 rfl hl (by decide) rfl (fun ls hl => ?_)
    refine nv_iconst (v := 0) K d_R_run_23 (by decide) ?_
    refine lv_istore_n (lv' := [(3, .int (nI 0)), (2, .int (nI 0)), (0, .ref a.1), (1, .int x)]) K.1 K.2.1 d_R_run_24 rfl hl (by decide) rfl (fun ls hl => ?_)
    refine lv_iload_n K.1 K.2.1 d_R_run_25 rfl (lv_at hl 0 rfl) ?_
    refine lv_iload_n K.1 K.2.1 d_R_run_26 rfl (lv_at hl 3 rfl) ?_
    refine lv_icmp_ge K.1 K.2.1 d_R_run_27 rfl (fun h6 => ?_) (fun h6 => ?_)
    · refine lv_iload_n K.1 K.2.1 d_R_run_58 rfl (lv_at hl 1 rfl) ?_
      exact qri K hr hlk hw (by rfl) (by rfl) d_R_run_59
    · refine lv_aload_n K.1 K.2.1 d_R_run_30 rfl (lv_at hl 2 rfl) ?_
      refine qg_thrown (v := 1) K hw rfl d_R_run_31 ?_
      refine nv_if_ne K (by omega) d_R_run_34 rfl (fun _ => ?_) (fun h => (by omega : False).elim)
      refine lv_iload_n K.1 K.2.1 d_R_run_58 rfl (lv_at hl 1 rfl) ?_
      exact qri K hr hlk hw (by rfl) (by rfl) d_R_run_59
set_option maxHeartbeats 4000000 in
set_option maxRecDepth 100000 in
theorem r_loadX {σ : z_St} {d n : Int32} {b : Int64} (l : Launch) (D : va_G) (cI : ClassId) (a : qAd) (hO : z_Ok σ) (hn : n < nI 1 ∨ nI 9 ≤ n) : qCv l y_R_load w_R_load 0 0 D cI a [.ref a.1, .int d, .long b, .int n] σ (z_s_th σ 1) := by
  refine qcv_of (cc := b_R_load) (maxL := 6) (ret := none) (by decide) rfl (Nat.le_of_ble_eq_true rfl) ?_
  intro p e s m below meth c ls K hr hlk hl hw
  have K : CallFix p m c b_R_load 6 s _ (_ :: T0) "PortProcessorModel" := K
  have hl : lv_has ls 6 [(0, .ref a.1), (1, .int d), (2, .long b), (4, .int n)] := hl
  refine lv_aload_n K.1 K.2.1 d_R_load_0 rfl (lv_at hl 0 rfl) ?_
  refine lv_iload K.1 K.2.1 d_R_load_1 (lv_at hl 3 rfl) ?_
  refine nv_iconst (v := 1) K d_R_load_3 (by decide) ?_
  refine lv_icmp_lt K.1 K.2.1 d_R_load_4 rfl (fun h1 => ?_) (fun h1 => ?_)
  · refine nv_iconst (v := 1) K d_R_load_28 (by decide) ?_
    refine lv_goto K.1 K.2.1 d_R_load_29 rfl ?_
    refine qp_thrown (v := 1) K hw d_R_load_33 (fun H locs hw => ?_)
    have hO2 : z_Ok (z_s_th σ 1) := z_ok_th hO
    refine nv_iconst (v := 0) K d_R_load_36 (by decide) ?_
    refine lv_istore (lv' := [(5, .int (nI 0)), (0, .ref a.1), (1, .int d), (2, .long b), (4, .int n)]) K.1 K.2.1 d_R_load_37 hl (by decide) rfl (fun ls hl => ?_)
    refine lv_iload K.1 K.2.1 d_R_load_39 (lv_at hl 0 rfl) ?_
    refine lv_iload K.1 K.2.1 d_R_load_41 (lv_at hl 4 rfl) ?_
    refine lv_icmp_ge K.1 K.2.1 d_R_load_43 rfl (fun h3 => ?_) (fun h3 => ?_)
    · exact qrv K hr hlk hw (by rfl) d_R_load_85
    · refine lv_aload_n K.1 K.2.1 d_R_load_46 rfl (lv_at hl 1 rfl) ?_
      refine qg_thrown (v := 1) K hw rfl d_R_load_47 ?_
      refine nv_if_ne K (by omega) d_R_load_50 rfl (fun _ => ?_) (fun h => (by omega : False).elim)
      exact qrv K hr hlk hw (by rfl) d_R_load_85
  · refine lv_iload K.1 K.2.1 d_R_load_7 (lv_at hl 3 rfl) ?_
    refine nv_bipush (v := 8) K d_R_load_9 (by decide) ?_
    refine lv_icmp_gt K.1 K.2.1 d_R_load_11 rfl (fun h4 => ?_) (fun h4 => (rw_e (by decide) hn h1 h4).elim)
    refine nv_iconst (v := 1) K d_R_load_28 (by decide) ?_
    refine lv_goto K.1 K.2.1 d_R_load_29 rfl ?_
    refine qp_thrown (v := 1) K hw d_R_load_33 (fun H locs hw => ?_)
    have hO5 : z_Ok (z_s_th σ 1) := z_ok_th hO
    refine nv_iconst (v := 0) K d_R_load_36 (by decide) ?_
    refine lv_istore (lv' := [(5, .int (nI 0)), (0, .ref a.1), (1, .int d), (2, .long b), (4, .int n)]) K.1 K.2.1 d_R_load_37 hl (by decide) rfl (fun ls hl => ?_)
    refine lv_iload K.1 K.2.1 d_R_load_39 (lv_at hl 0 rfl) ?_
    refine lv_iload K.1 K.2.1 d_R_load_41 (lv_at hl 4 rfl) ?_
    refine lv_icmp_ge K.1 K.2.1 d_R_load_43 rfl (fun h6 => ?_) (fun h6 => ?_)
    · exact qrv K hr hlk hw (by rfl) d_R_load_85
    · refine lv_aload_n K.1 K.2.1 d_R_load_46 rfl (lv_at hl 1 rfl) ?_
      refine qg_thrown (v := 1) K hw rfl d_R_load_47 ?_
      refine nv_if_ne K (by omega) d_R_load_50 rfl (fun _ => ?_) (fun h => (by omega : False).elim)
      exact qrv K hr hlk hw (by rfl) d_R_load_85
set_option maxHeartbeats 4000000 in
set_option maxRecDepth 100000 in
theorem r_loadY {σ : z_St} {n : Nat} {d : Int32} {b : Int64} (l : Launch) (D : va_G) (cI : ClassId) (a : qAd) (hO : z_Ok σ) (h1 : 1 ≤ n) (h2 : n ≤ 8) (hd : d < 0 ∨ nI (1024 - n + 1) ≤ d) : qCv l y_R_load w_R_load 0 0 D cI a [.ref a.1, .int d, .long b, .int (nI n)] σ (z_s_th σ 1) := by
  refine qcv_of (cc := b_R_load) (maxL := 6) (ret := none) (by decide) rfl (Nat.le_of_ble_eq_true rfl) ?_
  intro p e s m below meth c ls K hr hlk hl hw
  have K : CallFix p m c b_R_load 6 s _ (_ :: T0) "PortProcessorModel" := K
  have hl : lv_has ls 6 [(0, .ref a.1), (1, .int d), (2, .long b), (4, .int (nI n))] := hl
  refine lv_aload_n K.1 K.2.1 d_R_load_0 rfl (lv_at hl 0 rfl) ?_
  refine lv_iload K.1 K.2.1 d_R_load_1 (lv_at hl 3 rfl) ?_
  refine nv_iconst (v := 1) K d_R_load_3 (by decide) ?_
  refine nv_icmp_lt K (by omega) (by omega) d_R_load_4 rfl (fun h => (by omega : False).elim) (fun _ => ?_)
  refine lv_iload K.1 K.2.1 d_R_load_7 (lv_at hl 3 rfl) ?_
  refine nv_bipush (v := 8) K d_R_load_9 (by decide) ?_
  refine nv_icmp_gt K (by omega) (by omega) d_R_load_11 rfl (fun h => (by omega : False).elim) (fun _ => ?_)
  refine lv_iload_n K.1 K.2.1 d_R_load_14 rfl (lv_at hl 1 rfl) ?_
  refine lv_if_lt K.1 K.2.1 d_R_load_15 rfl (fun h1 => ?_) (fun h1 => ?_)
  · refine nv_iconst (v := 1) K d_R_load_28 (by decide) ?_
    refine lv_goto K.1 K.2.1 d_R_load_29 rfl ?_
    refine qp_thrown (v := 1) K hw d_R_load_33 (fun H locs hw => ?_)
    have hO2 : z_Ok (z_s_th σ 1) := z_ok_th hO
    refine nv_iconst (v := 0) K d_R_load_36 (by decide) ?_
    refine lv_istore (lv' := [(5, .int (nI 0)), (0, .ref a.1), (1, .int d), (2, .long b), (4, .int (nI n))]) K.1 K.2.1 d_R_load_37 hl (by decide) rfl (fun ls hl => ?_)
    refine lv_iload K.1 K.2.1 d_R_load_39 (lv_at hl 0 rfl) ?_
    refine lv_iload K.1 K.2.1 d_R_load_41 (lv_at hl 4 rfl) ?_
    refine nv_icmp_ge K (by omega) (by omega) d_R_load_43 rfl (fun h => (by omega : False).elim) (fun _ => ?_)
    refine lv_aload_n K.1 K.2.1 d_R_load_46 rfl (lv_at hl 1 rfl) ?_
    refine qg_thrown (v := 1) K hw rfl d_R_load_47 ?_
    refine nv_if_ne K (by omega) d_R_load_50 rfl (fun _ => ?_) (fun h => (by omega : False).elim)
    exact qrv K hr hlk hw (by rfl) d_R_load_85
  · refine lv_iload_n K.1 K.2.1 d_R_load_18 rfl (lv_at hl 1 rfl) ?_
    refine nv_sipush (v := 1024) K d_R_load_19 (by decide) ?_
    refine lv_iload K.1 K.2.1 d_R_load_22 (lv_at hl 3 rfl) ?_
    refine nv_isub K (by omega) d_R_load_24 ?_
    refine lv_icmp_le K.1 K.2.1 d_R_load_25 rfl (fun h3 => (rw_b (by omega) hd h1 h3).elim) (fun h3 => ?_)
    refine nv_iconst (v := 1) K d_R_load_28 (by decide) ?_
    refine lv_goto K.1 K.2.1 d_R_load_29 rfl ?_
    refine qp_thrown (v := 1) K hw d_R_load_33 (fun H locs hw => ?_)
    have hO4 : z_Ok (z_s_th σ 1) := z_ok_th hO
    refine nv_iconst (v := 0) K d_R_load_36 (by decide) ?_
    refine lv_istore (lv' := [(5, .int (nI 0)), (0, .ref a.1), (1, .int d), (2, .long b), (4, .int (nI n))]) K.1 K.2.1 d_R_load_37 hl (by decide) rfl (fun ls hl => ?_)
    refine lv_iload K.1 K.2.1 d_R_load_39 (lv_at hl 0 rfl) ?_
    refine lv_iload K.1 K.2.1 d_R_load_41 (lv_at hl 4 rfl) ?_
    refine nv_icmp_ge K (by omega) (by omega) d_R_load_43 rfl (fun h => (by omega : False).elim) (fun _ => ?_)
    refine lv_aload_n K.1 K.2.1 d_R_load_46 rfl (lv_at hl 1 rfl) ?_
    refine qg_thrown (v := 1) K hw rfl d_R_load_47 ?_
    refine nv_if_ne K (by omega) d_R_load_50 rfl (fun _ => ?_) (fun h => (by omega : False).elim)
    exact qrv K hr hlk hw (by rfl) d_R_load_85

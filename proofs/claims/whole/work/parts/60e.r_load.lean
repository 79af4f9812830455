set_option maxHeartbeats 4000000 in
set_option maxRecDepth 100000 in
theorem r_load {σ : z_St} {d n : Nat} {b : Int64} (l : Launch) (D : va_G) (cI : ClassId) (a : qAd) (hO : z_Ok σ) (h1 : 1 ≤ n) (h2 : n ≤ 8) (hd : d + n ≤ 1024) : qCv l y_R_load w_R_load 0 0 D cI a [.ref a.1, .int (nI d), .long b, .int (nI n)] σ (z_s_mem (z_s_th σ 0) (zl_A (z_x_mem σ) d n b n)) := by
  refine qcv_of (cc := b_R_load) (maxL := 6) (ret := none) (by decide) rfl (Nat.le_of_ble_eq_true rfl) ?_
  intro p e s m below meth c ls K hr hlk hl hw
  have K : CallFix p m c b_R_load 6 s _ (_ :: T0) "PortProcessorModel" := K
  have hl : lv_has ls 6 [(0, .ref a.1), (1, .int (nI d)), (2, .long b), (4, .int (nI n))] := hl
  refine lv_aload_n K.1 K.2.1 d_R_load_0 rfl (lv_at hl 0 rfl) ?_
  refine lv_iload K.1 K.2.1 d_R_load_1 (lv_at hl 3 rfl) ?_
  refine nv_iconst (v := 1) K d_R_load_3 (by decide) ?_
  refine nv_icmp_lt K (by omega) (by omega) d_R_load_4 rfl (fun h => (by omega : False).elim) (fun _ => ?_)
  refine lv_iload K.1 K.2.1 d_R_load_7 (lv_at hl 3 rfl) ?_
  refine nv_bipush (v := 8) K d_R_load_9 (by decide) ?_
  refine nv_icmp_gt K (by omega) (by omega) d_R_load_11 rfl (fun h => (by omega : False).elim) (fun _ => ?_)
  refine lv_iload_n K.1 K.2.1 d_R_load_14 rfl (lv_at hl 1 rfl) ?_
  refine nv_if_lt K (by omega) d_R_load_15 rfl ?_
  refine lv_iload_n K.1 K.2.1 d_R_load_18 rfl (lv_at hl 1 rfl) ?_
  refine nv_sipush (v := 1024) K d_R_load_19 (by decide) ?_
  refine lv_iload K.1 K.2.1 d_R_load_22 (lv_at hl 3 rfl) ?_
  refine nv_isub K (by omega) d_R_load_24 ?_
  refine nv_icmp_le K (by omega) (by omega) d_R_load_25 rfl (fun _ => ?_) (fun h => (by omega : False).elim)
  refine nv_iconst (v := 0) K d_R_load_32 (by decide) ?_
  refine qp_thrown (v := 0) K hw d_R_load_33 (fun H locs hw => ?_)
  have hO1 : z_Ok (z_s_th σ 0) := z_ok_th hO
  refine nv_iconst (v := 0) K d_R_load_36 (by decide) ?_
  refine lv_istore (lv' := [(5, .int (nI 0)), (0, .ref a.1), (1, .int (nI d)), (2, .long b), (4, .int (nI n))]) K.1 K.2.1 d_R_load_37 hl (by decide) rfl (fun ls hl => ?_)
  have hw : qW D cI (qA a s.heap.size) a (z_s_mem (z_s_th σ 0) (zl_B (z_x_mem σ) d n b 0)) s H locs := by
    have e0 : z_s_mem (z_s_th σ 0) (z_x_mem σ) = z_s_th σ 0 := sx_mem (z_s_th σ 0)
    rw [zl_B0, e0]
    exact hw
  suffices loop : ∀ (j i : Nat) (H : Heap) (locs : List Loc) (ls : Array Slot), i + j = n → qW D cI (qA a s.heap.size) a (z_s_mem (z_s_th σ 0) (zl_B (z_x_mem σ) d n b i)) s H locs → lv_has ls 6 [(5, .int (nI i)), (0, .ref a.1), (1, .int (nI d)), (2, .long b), (4, .int (nI n))] → W p l e (rmz 0 0) s m ([.ref a.1, .int (nI d), .long b, .int (nI n)] : List Value).toArray below meth c H locs 0 0 (MQ below (qQv D cI a (z_s_mem (z_s_th σ 0) (zl_A (z_x_mem σ) d n b n)) s.heap.size) ([.ref a.1, .int (nI d), .long b, .int (nI n)] : List Value).toArray s 0 0 (qA a s.heap.size)) (F0 m 39 ls []) from loop n 0 _ _ ls (by omega) hw hl
  intro j
  induction j with
  | zero =>
    intro i H locs ls hij hw hl
    obtain rfl : n = i := by omega
    have hOt : z_Ok (z_s_mem (z_s_th σ 0) (zl_B (z_x_mem σ) d n b n)) := z_ok_mem (z_ok_th hO) (zl_Blt (z_k_mem hO) _ _ _ _)
    refine lv_iload K.1 K.2.1 d_R_load_39 (lv_at hl 0 rfl) ?_
    refine lv_iload K.1 K.2.1 d_R_load_41 (lv_at hl 4 rfl) ?_
    refine nv_icmp_ge K (by omega) (by omega) d_R_load_43 rfl (fun _ => ?_) (fun h => (by omega : False).elim)
    exact qrv K hr hlk hw (by rw [zl_AB]) d_R_load_85
  | succ j ih =>
    intro i H locs ls hij hw hl
    have hOt : z_Ok (z_s_mem (z_s_th σ 0) (zl_B (z_x_mem σ) d n b i)) := z_ok_mem (z_ok_th hO) (zl_Blt (z_k_mem hO) _ _ _ _)
    refine lv_iload K.1 K.2.1 d_R_load_39 (lv_at hl 0 rfl) ?_
    refine lv_iload K.1 K.2.1 d_R_load_41 (lv_at hl 4 rfl) ?_
    refine nv_icmp_ge K (by omega) (by omega) d_R_load_43 rfl (fun h => (by omega : False).elim) (fun _ => ?_)
    refine lv_aload_n K.1 K.2.1 d_R_load_46 rfl (lv_at hl 1 rfl) ?_
    refine qg_thrown (v := 0) K hw rfl d_R_load_47 ?_
    refine nv_if_ne K (by omega) d_R_load_50 rfl (fun h => (by omega : False).elim) (fun _ => ?_)
    refine lv_aload_n K.1 K.2.1 d_R_load_53 rfl (lv_at hl 1 rfl) ?_
    refine qg_memory K hw d_R_load_54 ?_
    refine lv_iload_n K.1 K.2.1 d_R_load_57 rfl (lv_at hl 2 rfl) ?_
    refine lv_iload K.1 K.2.1 d_R_load_58 (lv_at hl 4 rfl) ?_
    refine nv_iadd K d_R_load_60 ?_
    refine nv_iconst (v := 1) K d_R_load_61 (by decide) ?_
    refine nv_isub K (by omega) d_R_load_62 ?_
    refine lv_iload K.1 K.2.1 d_R_load_63 (lv_at hl 0 rfl) ?_
    refine nv_isub K (by omega) d_R_load_65 ?_
    refine lv_lload_n K.1 K.2.1 d_R_load_66 rfl (lv_at hl 3 rfl) ?_
    refine nv_bipush (v := 8) K d_R_load_67 (by decide) ?_
    refine lv_iload K.1 K.2.1 d_R_load_69 (lv_at hl 0 rfl) ?_
    refine nv_imul K d_R_load_71 ?_
    refine lv_lshr K.1 K.2.1 d_R_load_72 rfl ?_
    refine lv_ldc2 (v := lN 255) K.1 K.2.1 K.2.2.2.1 (K.2.2.2.2 _ (List.mem_cons_of_mem _ m_constantLong_PortProcessorModel_152_255)) d_R_load_73 ?_
    refine lv_land K.1 K.2.1 d_R_load_76 ?_
    refine lv_l2i K.1 K.2.1 d_R_load_77 rfl ?_
    refine nv_as K (byt_r b (by omega)) ?_
    have hb2 : byt b i < 256 := byt_lt _ _
    refine qs_mem (i := ((d + n) - 1) - i) (v := byt b i) K hw (by omega) d_R_load_78 (fun H locs hw => ?_)
    have hO3 : z_Ok (z_s_mem (z_s_mem (z_s_th σ 0) (zl_B (z_x_mem σ) d n b i)) (z_fs (zl_B (z_x_mem σ) d n b i) (((d + n) - 1) - i) (byt b i))) := z_ok_mem hOt (z_fs_lt (z_k_mem hOt) (by omega))
    refine lv_iinc (k := 0) (v := nI (i + 1)) (lv' := [(5, .int (nI (i + 1))), (0, .ref a.1), (1, .int (nI d)), (2, .long b), (4, .int (nI n))]) K.1 K.2.1 d_R_load_79 hl rfl (nI_add _ _) (by decide) rfl (fun ls hl => ?_)
    refine lv_goto K.1 K.2.1 d_R_load_82 rfl ?_
    rw [ss_mem, xmem_self, zl_Bs _ b (by omega)] at hw
    exact ih (i + 1) H locs ls (by omega) hw hl

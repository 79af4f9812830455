set_option maxHeartbeats 4000000 in
set_option maxRecDepth 100000 in
theorem c_load {σ : z_St} {d n : Nat} {b : Int64} (l : Launch) (D : va_G) (cI : ClassId) (a : pAd) (hO : z_Ok σ) (h1 : 1 ≤ n) (h2 : n ≤ 8) (hd : d + n ≤ 1024) : pCv l y_P_load w_P_load 1 22 D cI a [.ref a.1, .int (nI d), .long b, .int (nI n)] σ (z_s_mem σ (zl_A (z_x_mem σ) d n b n)) := by
  refine pcv_of (cc := b_P_load) (maxL := 6) (ret := none) (by decide) rfl (Nat.le_of_ble_eq_true rfl) ?_
  intro p e s m below meth c ls K hr hlk hl hw
  have K : CallFix p m c b_P_load 6 s _ (_ :: T0) "PortProcessor" := K
  have hl : lv_has ls 6 [(0, .ref a.1), (1, .int (nI d)), (2, .long b), (4, .int (nI n))] := hl
  refine lv_iload K.1 K.2.1 d_P_load_0 (lv_at hl 3 rfl) ?_
  refine nv_iconst (v := 1) K d_P_load_2 (by decide) ?_
  refine nv_icmp_lt K (by omega) (by omega) d_P_load_3 rfl (fun h => (by omega : False).elim) (fun _ => ?_)
  refine lv_iload K.1 K.2.1 d_P_load_6 (lv_at hl 3 rfl) ?_
  refine nv_bipush (v := 8) K d_P_load_8 (by decide) ?_
  refine nv_icmp_le K (by omega) (by omega) d_P_load_10 rfl (fun _ => ?_) (fun h => (by omega : False).elim)
  refine lv_iload_n K.1 K.2.1 d_P_load_23 rfl (lv_at hl 1 rfl) ?_
  refine nv_if_lt K (by omega) d_P_load_24 rfl ?_
  refine lv_iload_n K.1 K.2.1 d_P_load_27 rfl (lv_at hl 1 rfl) ?_
  refine nv_sipush (v := 1024) K d_P_load_28 (by decide) ?_
  refine lv_iload K.1 K.2.1 d_P_load_31 (lv_at hl 3 rfl) ?_
  refine nv_isub K (by omega) d_P_load_33 ?_
  refine nv_icmp_le K (by omega) (by omega) d_P_load_34 rfl (fun _ => ?_) (fun h => (by omega : False).elim)
  refine nv_iconst (v := 0) K d_P_load_47 (by decide) ?_
  refine lv_istore (lv' := [(5, .int (nI 0)), (0, .ref a.1), (1, .int (nI d)), (2, .long b), (4, .int (nI n))]) K.1 K.2.1 d_P_load_48 hl (by decide) rfl (fun ls hl => ?_)
  have hw : pW D cI (pA a s.heap.size) a (z_s_mem σ (zl_A (z_x_mem σ) d n b 0)) s s.heap [] := by
    have e0 : z_s_mem σ (z_x_mem σ) = σ := sx_mem σ
    rw [zl_A0, e0]
    exact hw
  suffices loop : ∀ (j i : Nat) (H : Heap) (locs : List Loc) (ls : Array Slot), i + j = n → pW D cI (pA a s.heap.size) a (z_s_mem σ (zl_A (z_x_mem σ) d n b i)) s H locs → lv_has ls 6 [(5, .int (nI i)), (0, .ref a.1), (1, .int (nI d)), (2, .long b), (4, .int (nI n))] → W p l e (rmz 1 22) s m ([.ref a.1, .int (nI d), .long b, .int (nI n)] : List Value).toArray below meth c H locs 0 0 (MQ below (pQv D cI a (z_s_mem σ (zl_A (z_x_mem σ) d n b n)) s.heap.size) ([.ref a.1, .int (nI d), .long b, .int (nI n)] : List Value).toArray s 0 0 (pA a s.heap.size)) (F0 m 50 ls []) from loop n 0 _ _ ls (by omega) hw hl
  intro j
  induction j with
  | zero =>
    intro i H locs ls hij hw hl
    obtain rfl : n = i := by omega
    have hOt : z_Ok (z_s_mem σ (zl_A (z_x_mem σ) d n b n)) := z_ok_mem hO (zl_Alt (z_k_mem hO) _ _ _ _)
    refine lv_iload K.1 K.2.1 d_P_load_50 (lv_at hl 0 rfl) ?_
    refine lv_iload K.1 K.2.1 d_P_load_52 (lv_at hl 4 rfl) ?_
    refine nv_icmp_ge K (by omega) (by omega) d_P_load_54 rfl (fun _ => ?_) (fun h => (by omega : False).elim)
    exact prv K hr hlk hw (by rfl) d_P_load_91
  | succ j ih =>
    intro i H locs ls hij hw hl
    have hOt : z_Ok (z_s_mem σ (zl_A (z_x_mem σ) d n b i)) := z_ok_mem hO (zl_Alt (z_k_mem hO) _ _ _ _)
    refine lv_iload K.1 K.2.1 d_P_load_50 (lv_at hl 0 rfl) ?_
    refine lv_iload K.1 K.2.1 d_P_load_52 (lv_at hl 4 rfl) ?_
    refine nv_icmp_ge K (by omega) (by omega) d_P_load_54 rfl (fun h => (by omega : False).elim) (fun _ => ?_)
    refine lv_aload_n K.1 K.2.1 d_P_load_57 rfl (lv_at hl 1 rfl) ?_
    refine pg_memory K hw d_P_load_58 ?_
    refine lv_iload_n K.1 K.2.1 d_P_load_61 rfl (lv_at hl 2 rfl) ?_
    refine lv_iload K.1 K.2.1 d_P_load_62 (lv_at hl 0 rfl) ?_
    refine nv_iadd K d_P_load_64 ?_
    refine lv_lload_n K.1 K.2.1 d_P_load_65 rfl (lv_at hl 3 rfl) ?_
    refine nv_bipush (v := 8) K d_P_load_66 (by decide) ?_
    refine lv_iload K.1 K.2.1 d_P_load_68 (lv_at hl 4 rfl) ?_
    refine nv_iconst (v := 1) K d_P_load_70 (by decide) ?_
    refine nv_isub K (by omega) d_P_load_71 ?_
    refine lv_iload K.1 K.2.1 d_P_load_72 (lv_at hl 0 rfl) ?_
    refine nv_isub K (by omega) d_P_load_74 ?_
    refine nv_imul K d_P_load_75 ?_
    refine lv_lushr K.1 K.2.1 d_P_load_76 rfl ?_
    refine lv_l2i K.1 K.2.1 d_P_load_77 rfl ?_
    refine nv_sipush (v := 255) K d_P_load_78 (by decide) ?_
    refine lv_iand K.1 K.2.1 d_P_load_81 ?_
    refine nv_as K (byt_c b (by omega)) ?_
    have hb1 : byt b (n - 1 - i) < 256 := byt_lt _ _
    refine pkv K (c_write (σ := z_s_mem σ (zl_A (z_x_mem σ) d n b i)) (x := d + i) (v := byt b (n - 1 - i)) l D cI a hOt (by omega) (by omega)) (cw_P_46 K (Nat.le_of_ble_eq_true rfl) (Nat.le_of_ble_eq_true rfl)) hw (va_recv (ci := 1) (q0 := 1) hw.2.2.2.1 hw.1 rfl rfl) rfl hl.1 rfl (Nat.le_of_ble_eq_true rfl) d_P_load_82 ⟨Nat.zero_le _, Nat.zero_le _⟩ (fun H locs hw => ?_)
    have hO2 : z_Ok (z_wr (z_s_mem σ (zl_A (z_x_mem σ) d n b i)) (d + i) (byt b (n - 1 - i))) := z_ok_wr hOt _ (by omega)
    refine lv_iinc (k := 0) (v := nI (i + 1)) (lv' := [(5, .int (nI (i + 1))), (0, .ref a.1), (1, .int (nI d)), (2, .long b), (4, .int (nI n))]) K.1 K.2.1 d_P_load_85 hl rfl (nI_add _ _) (by decide) rfl (fun ls hl => ?_)
    refine lv_goto K.1 K.2.1 d_P_load_88 rfl ?_
    rw [zl_wr b (by omega) (by omega)] at hw
    exact ih (i + 1) H locs ls (by omega) hw hl

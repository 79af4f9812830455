set_option maxHeartbeats 4000000 in
set_option maxRecDepth 100000 in
theorem r_show {σ : z_St} {v : Nat} (l : Launch) (D : va_G) (cI : ClassId) (a : qAd) (hO : z_Ok σ) (hv : v < 256) : qCv l y_R_show w_R_show 0 0 D cI a [.ref a.1, .int (nI v)] σ (z_jd σ v) := by
  refine qcv_of (cc := b_R_show) (maxL := 3) (ret := none) (by decide) rfl (Nat.le_of_ble_eq_true rfl) ?_
  intro p e s m below meth c ls K hr hlk hl hw
  have K : CallFix p m c b_R_show 3 s _ (_ :: T0) "PortProcessorModel" := K
  have hl : lv_has ls 3 [(0, .ref a.1), (1, .int (nI v))] := hl
  refine lv_aload_n K.1 K.2.1 d_R_show_0 rfl (lv_at hl 0 rfl) ?_
  refine lv_iload_n K.1 K.2.1 d_R_show_1 rfl (lv_at hl 1 rfl) ?_
  refine nv_sipush (v := 128) K d_R_show_2 (by decide) ?_
  refine nv_idiv K (by omega) (by omega) (by omega) d_R_show_5 ?_
  refine qp_s (v := v / 128) K hw d_R_show_6 (fun H locs hw => ?_)
  have hO1 : z_Ok (z_s_sg σ (v / 128)) := z_ok_sg hO (by omega)
  refine lv_aload_n K.1 K.2.1 d_R_show_9 rfl (lv_at hl 0 rfl) ?_
  refine lv_iload_n K.1 K.2.1 d_R_show_10 rfl (lv_at hl 1 rfl) ?_
  refine nf_if_ne (u := 0) (v := 1) (Y := 19) K (by omega) d_R_show_11 rfl (fun _ k => nv_iconst (v := 0) K d_R_show_18 (by decide) k) (fun _ k => nv_iconst (v := 1) K d_R_show_14 (by decide) (lv_goto K.1 K.2.1 d_R_show_15 rfl k)) ?_
  have hb2 : (if v = 0 then 1 else 0) < 2 := z_ite_ltB _ (by omega) (by omega)
  refine qp_z (v := (if v = 0 then 1 else 0)) K hw d_R_show_19 (fun H locs hw => ?_)
  have hO3 : z_Ok (z_s_ze (z_s_sg σ (v / 128)) (if v = 0 then 1 else 0)) := z_ok_ze hO1 (by omega)
  refine lv_aload_n K.1 K.2.1 d_R_show_22 rfl (lv_at hl 0 rfl) ?_
  refine nv_iconst (v := 1) K d_R_show_23 (by decide) ?_
  refine qp_p (v := 1) K hw d_R_show_24 (fun H locs hw => ?_)
  have hO4 : z_Ok (z_s_pa (z_s_ze (z_s_sg σ (v / 128)) (if v = 0 then 1 else 0)) 1) := z_ok_pa hO3 (by omega)
  refine lv_iload_n K.1 K.2.1 d_R_show_27 rfl (lv_at hl 1 rfl) ?_
  refine lv_istore_n (lv' := [(2, .int (nI v)), (0, .ref a.1), (1, .int (nI v))]) K.1 K.2.1 d_R_show_28 rfl hl (by decide) rfl (fun ls hl => ?_)
  obtain ⟨T, hT⟩ : ∃ T, T = z_s_ze (z_s_sg σ (v / 128)) (if v = 0 then 1 else 0) := ⟨_, rfl⟩
  rw [← hT] at hw
  have hOT : z_Ok T := by rw [hT]; exact z_ok_ze (z_ok_sg hO (by omega)) (by omega)
  suffices loop : ∀ (n k q : Nat) (H : Heap) (locs : List Loc) (ls : Array Slot), k < 2 ^ n → q < 2 → z_pl n k q = z_par v → qW D cI (qA a s.heap.size) a (z_s_pa T q) s H locs → lv_has ls 3 [(2, .int (nI k)), (0, .ref a.1), (1, .int (nI v))] → k < 256 → W p l e (rmz 0 0) s m ([.ref a.1, .int (nI v)] : List Value).toArray below meth c H locs 0 0 (MQ below (qQv D cI a (z_jd σ v) s.heap.size) ([.ref a.1, .int (nI v)] : List Value).toArray s 0 0 (qA a s.heap.size)) (F0 m 29 ls []) from loop 8 v 1 H locs ls hv (by omega) (z_pl_par v hv) hw hl hv
  intro n
  induction n with
  | zero =>
    intro k q H locs ls hk hq hp hw hl hk2
    obtain rfl : k = 0 := by simpa using hk
    have hOq : z_Ok (z_s_pa T q) := z_ok_pa hOT hq
    refine lv_iload_n K.1 K.2.1 d_R_show_29 rfl (lv_at hl 0 rfl) ?_
    refine nv_if_le K (by omega) d_R_show_30 rfl (fun _ => ?_) (fun h => (by omega : False).elim)
    have hp : q = z_par v := by rw [← hp, z_pl_0]
    exact qrv K hr hlk hw (by rw [hp, hT]; rfl) d_R_show_64
  | succ n ih =>
    intro k q H locs ls hk hq hp hw hl hk2
    by_cases hk0 : k = 0
    · subst hk0
      have hOq : z_Ok (z_s_pa T q) := z_ok_pa hOT hq
      refine lv_iload_n K.1 K.2.1 d_R_show_29 rfl (lv_at hl 0 rfl) ?_
      refine nv_if_le K (by omega) d_R_show_30 rfl (fun _ => ?_) (fun h => (by omega : False).elim)
      have hp : q = z_par v := by rw [← hp, z_pl_0]
      exact qrv K hr hlk hw (by rw [hp, hT]; rfl) d_R_show_64
    · have hOq : z_Ok (z_s_pa T q) := z_ok_pa hOT hq
      refine lv_iload_n K.1 K.2.1 d_R_show_29 rfl (lv_at hl 0 rfl) ?_
      refine nv_if_le K (by omega) d_R_show_30 rfl (fun h => (by omega : False).elim) (fun _ => ?_)
      refine lv_aload_n K.1 K.2.1 d_R_show_33 rfl (lv_at hl 1 rfl) ?_
      refine lv_iload_n K.1 K.2.1 d_R_show_34 rfl (lv_at hl 0 rfl) ?_
      refine nv_iconst (v := 2) K d_R_show_35 (by decide) ?_
      refine nv_irem K (by omega) (by omega) (by omega) d_R_show_36 ?_
      refine nv_iconst (v := 1) K d_R_show_37 (by decide) ?_
      refine nf_icmp_ne (u := q) (v := 1 - q) (Y := 54) K (by omega) (by omega) d_R_show_38 rfl (fun _ k => lv_aload_n K.1 K.2.1 d_R_show_50 rfl (lv_at hl 1 rfl) (qg_p (v := q) K hw rfl d_R_show_51 k)) (fun _ k => nv_iconst (v := 1) K d_R_show_41 (by decide) (lv_aload_n K.1 K.2.1 d_R_show_42 rfl (lv_at hl 1 rfl) (qg_p (v := q) K hw rfl d_R_show_43 (nv_isub K (by omega) d_R_show_46 (lv_goto K.1 K.2.1 d_R_show_47 rfl k))))) ?_
      have hb5 : (if (k % 2) = 1 then 1 - q else q) < 2 := z_ite_ltB _ (by omega) (by omega)
      refine qp_p (v := (if (k % 2) = 1 then 1 - q else q)) K hw d_R_show_54 (fun H locs hw => ?_)
      have hO6 : z_Ok (z_s_pa (z_s_pa T q) (if (k % 2) = 1 then 1 - q else q)) := z_ok_pa hOq (by omega)
      refine lv_iload_n K.1 K.2.1 d_R_show_57 rfl (lv_at hl 0 rfl) ?_
      refine nv_iconst (v := 2) K d_R_show_58 (by decide) ?_
      refine nv_idiv K (by omega) (by omega) (by omega) d_R_show_59 ?_
      refine lv_istore_n (lv' := [(2, .int (nI (k / 2))), (0, .ref a.1), (1, .int (nI v))]) K.1 K.2.1 d_R_show_60 rfl hl (by decide) rfl (fun ls hl => ?_)
      refine lv_goto K.1 K.2.1 d_R_show_61 rfl ?_
      rw [ss_pa] at hw
      exact ih (k / 2) (if (k % 2) = 1 then (1 - q) else q) H locs ls (by rw [Nat.pow_succ] at hk; omega) (by omega) (by rw [← hp]; exact (z_pl_s hk0).symm) hw hl (by omega)

set_option maxHeartbeats 4000000 in
set_option maxRecDepth 100000 in
theorem c_sum {σ : z_St} {x y z : Nat} (l : Launch) (D : va_G) (cI : ClassId) (a : pAd) (hO : z_Ok σ) (hx : x < 256) (hy : y < 256) (hz : z < 2) : pCi l y_F_sum w_F_sum 0 0 D cI a [.ref a.2.2.1, .int (nI x), .int (nI y), .int (nI z)] σ (z_s_ca (z_s_au σ (z_g1 x y z)) (z_g2 x y z)) (nI ((x + y + z) % 256)) := by
  refine pci_of (cc := b_F_sum) (maxL := 5) (ret := (some .int)) (by decide) rfl (Nat.le_of_ble_eq_true rfl) ?_
  intro p e s m below meth c ls K hr hlk hl hw
  have K : CallFix p m c b_F_sum 5 s _ (_ :: T0) "PortProcessor$Flags" := K
  have hl : lv_has ls 5 [(0, .ref a.2.2.1), (1, .int (nI x)), (2, .int (nI y)), (3, .int (nI z))] := hl
  refine lv_iload_n K.1 K.2.1 d_F_sum_0 rfl (lv_at hl 1 rfl) ?_
  refine lv_iload_n K.1 K.2.1 d_F_sum_1 rfl (lv_at hl 2 rfl) ?_
  refine nv_iadd K d_F_sum_2 ?_
  refine lv_iload_n K.1 K.2.1 d_F_sum_3 rfl (lv_at hl 3 rfl) ?_
  refine nv_iadd K d_F_sum_4 ?_
  refine lv_istore (lv' := [(4, .int (nI ((x + y) + z))), (0, .ref a.2.2.1), (1, .int (nI x)), (2, .int (nI y)), (3, .int (nI z))]) K.1 K.2.1 d_F_sum_5 hl (by decide) rfl (fun ls hl => ?_)
  refine lv_aload_n K.1 K.2.1 d_F_sum_7 rfl (lv_at hl 1 rfl) ?_
  refine lv_iload_n K.1 K.2.1 d_F_sum_8 rfl (lv_at hl 2 rfl) ?_
  refine nv_bipush (v := 15) K d_F_sum_9 (by decide) ?_
  refine nv_mask (M := 16) K 4 rfl rfl d_F_sum_11 ?_
  refine lv_iload_n K.1 K.2.1 d_F_sum_12 rfl (lv_at hl 3 rfl) ?_
  refine nv_bipush (v := 15) K d_F_sum_13 (by decide) ?_
  refine nv_mask (M := 16) K 4 rfl rfl d_F_sum_15 ?_
  refine nv_iadd K d_F_sum_16 ?_
  refine lv_iload_n K.1 K.2.1 d_F_sum_17 rfl (lv_at hl 4 rfl) ?_
  refine nv_iadd K d_F_sum_18 ?_
  refine nv_bipush (v := 15) K d_F_sum_19 (by decide) ?_
  refine nf_icmp_le (u := 0) (v := 1) (Y := 29) K (by omega) (by omega) d_F_sum_21 rfl (fun _ k => nv_iconst (v := 0) K d_F_sum_28 (by decide) k) (fun _ k => nv_iconst (v := 1) K d_F_sum_24 (by decide) (lv_goto K.1 K.2.1 d_F_sum_25 rfl k)) ?_
  have hb1 : (if (((x % 16) + (y % 16)) + z) ≤ 15 then 0 else 1) < 2 := z_ite_ltB _ (by omega) (by omega)
  refine pp_F_auxiliary (v := (if (((x % 16) + (y % 16)) + z) ≤ 15 then 0 else 1)) K hw (by omega) d_F_sum_29 (fun H locs hw => ?_)
  have hO2 : z_Ok (z_s_au σ (if (((x % 16) + (y % 16)) + z) ≤ 15 then 0 else 1)) := z_ok_au hO (by omega)
  refine lv_aload_n K.1 K.2.1 d_F_sum_32 rfl (lv_at hl 1 rfl) ?_
  refine lv_iload K.1 K.2.1 d_F_sum_33 (lv_at hl 0 rfl) ?_
  refine nv_sipush (v := 255) K d_F_sum_35 (by decide) ?_
  refine nf_icmp_le (u := 0) (v := 1) (Y := 46) K (by omega) (by omega) d_F_sum_38 rfl (fun _ k => nv_iconst (v := 0) K d_F_sum_45 (by decide) k) (fun _ k => nv_iconst (v := 1) K d_F_sum_41 (by decide) (lv_goto K.1 K.2.1 d_F_sum_42 rfl k)) ?_
  have hb3 : (if ((x + y) + z) ≤ 255 then 0 else 1) < 2 := z_ite_ltB _ (by omega) (by omega)
  refine pp_F_carry (v := (if ((x + y) + z) ≤ 255 then 0 else 1)) K hw (by omega) d_F_sum_46 (fun H locs hw => ?_)
  have hO4 : z_Ok (z_s_ca (z_s_au σ (if (((x % 16) + (y % 16)) + z) ≤ 15 then 0 else 1)) (if ((x + y) + z) ≤ 255 then 0 else 1)) := z_ok_ca hO2 (by omega)
  refine lv_iload K.1 K.2.1 d_F_sum_49 (lv_at hl 0 rfl) ?_
  refine nv_sipush (v := 255) K d_F_sum_51 (by decide) ?_
  refine nv_mask (M := 256) K 8 rfl rfl d_F_sum_54 ?_
  exact pri K hr hlk hw (by rw [nz_if, nz_if]; rfl) (by first | rfl | (simp; done) | (congr 1; omega) | (simp; omega)) d_F_sum_55

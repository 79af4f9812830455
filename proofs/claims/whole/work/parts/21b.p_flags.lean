set_option maxHeartbeats 4000000 in
set_option maxRecDepth 100000 in
theorem c_takeByte {σ : z_St} {v : Nat} (l : Launch) (D : va_G) (cI : ClassId) (a : pAd) (hO : z_Ok σ) (hv : v < 256) : pCv l y_F_takeByte w_F_takeByte 0 0 D cI a [.ref a.2.2.1, .int (nI v)] σ (z_ff σ v) := by
  refine pcv_of (cc := b_F_takeByte) (maxL := 2) (ret := none) (by decide) rfl (Nat.le_of_ble_eq_true rfl) ?_
  intro p e s m below meth c ls K hr hlk hl hw
  have K : CallFix p m c b_F_takeByte 2 s _ (_ :: T0) "PortProcessor$Flags" := K
  have hl : lv_has ls 2 [(0, .ref a.2.2.1), (1, .int (nI v))] := hl
  refine lv_aload_n K.1 K.2.1 d_F_takeByte_0 rfl (lv_at hl 0 rfl) ?_
  refine lv_iload_n K.1 K.2.1 d_F_takeByte_1 rfl (lv_at hl 1 rfl) ?_
  refine nv_sipush (v := 128) K d_F_takeByte_2 (by decide) ?_
  refine nv_iand K d_F_takeByte_5 ?_
  have hb1 : v &&& 128 ≤ 128 := Nat.and_le_right
  refine nf_if_eq (u := 0) (v := 1) (Y := 14) K (by omega) d_F_takeByte_6 rfl (fun _ k => nv_iconst (v := 0) K d_F_takeByte_13 (by decide) k) (fun _ k => nv_iconst (v := 1) K d_F_takeByte_9 (by decide) (lv_goto K.1 K.2.1 d_F_takeByte_10 rfl k)) ?_
  have hb2 : (if (v &&& 128) = 0 then 0 else 1) < 2 := z_ite_ltB _ (by omega) (by omega)
  refine pp_F_sign (v := (if (v &&& 128) = 0 then 0 else 1)) K hw (by omega) d_F_takeByte_14 (fun H locs hw => ?_)
  have hO3 : z_Ok (z_s_sg σ (if (v &&& 128) = 0 then 0 else 1)) := z_ok_sg hO (by omega)
  refine lv_aload_n K.1 K.2.1 d_F_takeByte_17 rfl (lv_at hl 0 rfl) ?_
  refine lv_iload_n K.1 K.2.1 d_F_takeByte_18 rfl (lv_at hl 1 rfl) ?_
  refine nv_bipush (v := 64) K d_F_takeByte_19 (by decide) ?_
  refine nv_iand K d_F_takeByte_21 ?_
  have hb4 : v &&& 64 ≤ 64 := Nat.and_le_right
  refine nf_if_eq (u := 0) (v := 1) (Y := 30) K (by omega) d_F_takeByte_22 rfl (fun _ k => nv_iconst (v := 0) K d_F_takeByte_29 (by decide) k) (fun _ k => nv_iconst (v := 1) K d_F_takeByte_25 (by decide) (lv_goto K.1 K.2.1 d_F_takeByte_26 rfl k)) ?_
  have hb5 : (if (v &&& 64) = 0 then 0 else 1) < 2 := z_ite_ltB _ (by omega) (by omega)
  refine pp_F_zero (v := (if (v &&& 64) = 0 then 0 else 1)) K hw (by omega) d_F_takeByte_30 (fun H locs hw => ?_)
  have hO6 : z_Ok (z_s_ze (z_s_sg σ (if (v &&& 128) = 0 then 0 else 1)) (if (v &&& 64) = 0 then 0 else 1)) := z_ok_ze hO3 (by omega)
  refine lv_aload_n K.1 K.2.1 d_F_takeByte_33 rfl (lv_at hl 0 rfl) ?_
  refine lv_iload_n K.1 K.2.1 d_F_takeByte_34 rfl (lv_at hl 1 rfl) ?_
  refine nv_bipush (v := 16) K d_F_takeByte_35 (by decide) ?_
  refine nv_iand K d_F_takeByte_37 ?_
  have hb7 : v &&& 16 ≤ 16 := Nat.and_le_right
  refine nf_if_eq (u := 0) (v := 1) (Y := 46) K (by omega) d_F_takeByte_38 rfl (fun _ k => nv_iconst (v := 0) K d_F_takeByte_45 (by decide) k) (fun _ k => nv_iconst (v := 1) K d_F_takeByte_41 (by decide) (lv_goto K.1 K.2.1 d_F_takeByte_42 rfl k)) ?_
  have hb8 : (if (v &&& 16) = 0 then 0 else 1) < 2 := z_ite_ltB _ (by omega) (by omega)
  refine pp_F_auxiliary (v := (if (v &&& 16) = 0 then 0 else 1)) K hw (by omega) d_F_takeByte_46 (fun H locs hw => ?_)
  have hO9 : z_Ok (z_s_au (z_s_ze (z_s_sg σ (if (v &&& 128) = 0 then 0 else 1)) (if (v &&& 64) = 0 then 0 else 1)) (if (v &&& 16) = 0 then 0 else 1)) := z_ok_au hO6 (by omega)
  refine lv_aload_n K.1 K.2.1 d_F_takeByte_49 rfl (lv_at hl 0 rfl) ?_
  refine lv_iload_n K.1 K.2.1 d_F_takeByte_50 rfl (lv_at hl 1 rfl) ?_
  refine nv_iconst (v := 4) K d_F_takeByte_51 (by decide) ?_
  refine nv_iand K d_F_takeByte_52 ?_
  have hb10 : v &&& 4 ≤ 4 := Nat.and_le_right
  refine nf_if_eq (u := 0) (v := 1) (Y := 61) K (by omega) d_F_takeByte_53 rfl (fun _ k => nv_iconst (v := 0) K d_F_takeByte_60 (by decide) k) (fun _ k => nv_iconst (v := 1) K d_F_takeByte_56 (by decide) (lv_goto K.1 K.2.1 d_F_takeByte_57 rfl k)) ?_
  have hb11 : (if (v &&& 4) = 0 then 0 else 1) < 2 := z_ite_ltB _ (by omega) (by omega)
  refine pp_F_parity (v := (if (v &&& 4) = 0 then 0 else 1)) K hw (by omega) d_F_takeByte_61 (fun H locs hw => ?_)
  have hO12 : z_Ok (z_s_pa (z_s_au (z_s_ze (z_s_sg σ (if (v &&& 128) = 0 then 0 else 1)) (if (v &&& 64) = 0 then 0 else 1)) (if (v &&& 16) = 0 then 0 else 1)) (if (v &&& 4) = 0 then 0 else 1)) := z_ok_pa hO9 (by omega)
  refine lv_aload_n K.1 K.2.1 d_F_takeByte_64 rfl (lv_at hl 0 rfl) ?_
  refine lv_iload_n K.1 K.2.1 d_F_takeByte_65 rfl (lv_at hl 1 rfl) ?_
  refine nv_iconst (v := 1) K d_F_takeByte_66 (by decide) ?_
  refine nv_mask (M := 2) K 1 rfl rfl d_F_takeByte_67 ?_
  refine nf_if_eq (u := 0) (v := 1) (Y := 76) K (by omega) d_F_takeByte_68 rfl (fun _ k => nv_iconst (v := 0) K d_F_takeByte_75 (by decide) k) (fun _ k => nv_iconst (v := 1) K d_F_takeByte_71 (by decide) (lv_goto K.1 K.2.1 d_F_takeByte_72 rfl k)) ?_
  have hb13 : (if (v % 2) = 0 then 0 else 1) < 2 := z_ite_ltB _ (by omega) (by omega)
  refine pp_F_carry (v := (if (v % 2) = 0 then 0 else 1)) K hw (by omega) d_F_takeByte_76 (fun H locs hw => ?_)
  have hO14 : z_Ok (z_s_ca (z_s_pa (z_s_au (z_s_ze (z_s_sg σ (if (v &&& 128) = 0 then 0 else 1)) (if (v &&& 64) = 0 then 0 else 1)) (if (v &&& 16) = 0 then 0 else 1)) (if (v &&& 4) = 0 then 0 else 1)) (if (v % 2) = 0 then 0 else 1)) := z_ok_ca hO12 (by omega)
  exact prv K hr hlk hw (by rw [nz_b128 _ hv, nz_b64 _ hv, nz_b16 _ hv, nz_b4 _ hv, nz_b1 v]; rfl) d_F_takeByte_79

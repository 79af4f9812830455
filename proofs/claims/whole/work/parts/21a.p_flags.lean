set_option maxHeartbeats 4000000 in
set_option maxRecDepth 100000 in
theorem c_asByte {σ : z_St} (l : Launch) (D : va_G) (cI : ClassId) (a : pAd) (hO : z_Ok σ) : pCi l y_F_asByte w_F_asByte 0 0 D cI a [.ref a.2.2.1] σ σ (nI (z_fb σ)) := by
  refine pci_of (cc := b_F_asByte) (maxL := 1) (ret := (some .int)) (by decide) rfl (Nat.le_of_ble_eq_true rfl) ?_
  intro p e s m below meth c ls K hr hlk hl hw
  have K : CallFix p m c b_F_asByte 1 s _ (_ :: T0) "PortProcessor$Flags" := K
  have hl : lv_has ls 1 [(0, .ref a.2.2.1)] := hl
  refine nv_iconst (v := 2) K d_F_asByte_0 (by decide) ?_
  refine lv_aload_n K.1 K.2.1 d_F_asByte_1 rfl (lv_at hl 0 rfl) ?_
  refine pg_F_sign (v := z_x_sg σ) K hw rfl d_F_asByte_2 ?_
  have hb1 : z_x_sg σ < 2 := z_k_sg hO
  refine nf_if_eq (u := 0) (v := 128) (Y := 15) K (by omega) d_F_asByte_5 rfl (fun _ k => nv_iconst (v := 0) K d_F_asByte_14 (by decide) k) (fun _ k => nv_sipush (v := 128) K d_F_asByte_8 (by decide) (lv_goto K.1 K.2.1 d_F_asByte_11 rfl k)) ?_
  have hb2 : (if (z_x_sg σ) = 0 then 0 else 128) < 129 := z_ite_ltB _ (by omega) (by omega)
  refine nv_ior K d_F_asByte_15 ?_
  refine lv_aload_n K.1 K.2.1 d_F_asByte_16 rfl (lv_at hl 0 rfl) ?_
  refine pg_F_zero (v := z_x_ze σ) K hw rfl d_F_asByte_17 ?_
  have hb3 : z_x_ze σ < 2 := z_k_ze hO
  refine nf_if_eq (u := 0) (v := 64) (Y := 29) K (by omega) d_F_asByte_20 rfl (fun _ k => nv_iconst (v := 0) K d_F_asByte_28 (by decide) k) (fun _ k => nv_bipush (v := 64) K d_F_asByte_23 (by decide) (lv_goto K.1 K.2.1 d_F_asByte_25 rfl k)) ?_
  have hb4 : (if (z_x_ze σ) = 0 then 0 else 64) < 65 := z_ite_ltB _ (by omega) (by omega)
  refine nv_ior K d_F_asByte_29 ?_
  refine lv_aload_n K.1 K.2.1 d_F_asByte_30 rfl (lv_at hl 0 rfl) ?_
  refine pg_F_auxiliary (v := z_x_au σ) K hw rfl d_F_asByte_31 ?_
  have hb5 : z_x_au σ < 2 := z_k_au hO
  refine nf_if_eq (u := 0) (v := 16) (Y := 43) K (by omega) d_F_asByte_34 rfl (fun _ k => nv_iconst (v := 0) K d_F_asByte_42 (by decide) k) (fun _ k => nv_bipush (v := 16) K d_F_asByte_37 (by decide) (lv_goto K.1 K.2.1 d_F_asByte_39 rfl k)) ?_
  have hb6 : (if (z_x_au σ) = 0 then 0 else 16) < 17 := z_ite_ltB _ (by omega) (by omega)
  refine nv_ior K d_F_asByte_43 ?_
  refine lv_aload_n K.1 K.2.1 d_F_asByte_44 rfl (lv_at hl 0 rfl) ?_
  refine pg_F_parity (v := z_x_pa σ) K hw rfl d_F_asByte_45 ?_
  have hb7 : z_x_pa σ < 2 := z_k_pa hO
  refine nf_if_eq (u := 0) (v := 4) (Y := 56) K (by omega) d_F_asByte_48 rfl (fun _ k => nv_iconst (v := 0) K d_F_asByte_55 (by decide) k) (fun _ k => nv_iconst (v := 4) K d_F_asByte_51 (by decide) (lv_goto K.1 K.2.1 d_F_asByte_52 rfl k)) ?_
  have hb8 : (if (z_x_pa σ) = 0 then 0 else 4) < 5 := z_ite_ltB _ (by omega) (by omega)
  refine nv_ior K d_F_asByte_56 ?_
  refine lv_aload_n K.1 K.2.1 d_F_asByte_57 rfl (lv_at hl 0 rfl) ?_
  refine pg_F_carry (v := z_x_ca σ) K hw rfl d_F_asByte_58 ?_
  have hb9 : z_x_ca σ < 2 := z_k_ca hO
  refine nf_if_eq (u := 0) (v := 1) (Y := 69) K (by omega) d_F_asByte_61 rfl (fun _ k => nv_iconst (v := 0) K d_F_asByte_68 (by decide) k) (fun _ k => nv_iconst (v := 1) K d_F_asByte_64 (by decide) (lv_goto K.1 K.2.1 d_F_asByte_65 rfl k)) ?_
  have hb10 : (if (z_x_ca σ) = 0 then 0 else 1) < 2 := z_ite_ltB _ (by omega) (by omega)
  refine nv_ior K d_F_asByte_69 ?_
  exact pri K hr hlk hw (by first | rfl | (simp; done) | (skip; rfl)) (nz_fb hO) d_F_asByte_70

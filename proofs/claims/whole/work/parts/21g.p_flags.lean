set_option maxHeartbeats 4000000 in
set_option maxRecDepth 100000 in
theorem c_raised {σ : z_St} {v : Nat} (l : Launch) (D : va_G) (cI : ClassId) (a : pAd) (hO : z_Ok σ) (hv : v < 256) : pCi l y_F_raised w_F_raised 2 41 D cI a [.ref a.2.2.1, .int (nI v)] σ (z_up σ v) (nI ((v + 1) % 256)) := by
  refine pci_of (cc := b_F_raised) (maxL := 3) (ret := (some .int)) (by decide) rfl (Nat.le_of_ble_eq_true rfl) ?_
  intro p e s m below meth c ls K hr hlk hl hw
  have K : CallFix p m c b_F_raised 3 s _ (_ :: T0) "PortProcessor$Flags" := K
  have hl : lv_has ls 3 [(0, .ref a.2.2.1), (1, .int (nI v))] := hl
  refine lv_iload_n K.1 K.2.1 d_F_raised_0 rfl (lv_at hl 1 rfl) ?_
  refine nv_iconst (v := 1) K d_F_raised_1 (by decide) ?_
  refine nv_iadd K d_F_raised_2 ?_
  refine nv_sipush (v := 255) K d_F_raised_3 (by decide) ?_
  refine nv_mask (M := 256) K 8 rfl rfl d_F_raised_6 ?_
  refine lv_istore_n (lv' := [(2, .int (nI ((v + 1) % 256))), (0, .ref a.2.2.1), (1, .int (nI v))]) K.1 K.2.1 d_F_raised_7 rfl hl (by decide) rfl (fun ls hl => ?_)
  refine lv_aload_n K.1 K.2.1 d_F_raised_8 rfl (lv_at hl 1 rfl) ?_
  refine lv_iload_n K.1 K.2.1 d_F_raised_9 rfl (lv_at hl 0 rfl) ?_
  refine nv_bipush (v := 15) K d_F_raised_10 (by decide) ?_
  refine nv_mask (M := 16) K 4 rfl rfl d_F_raised_12 ?_
  refine nf_if_ne (u := 0) (v := 1) (Y := 21) K (by omega) d_F_raised_13 rfl (fun _ k => nv_iconst (v := 0) K d_F_raised_20 (by decide) k) (fun _ k => nv_iconst (v := 1) K d_F_raised_16 (by decide) (lv_goto K.1 K.2.1 d_F_raised_17 rfl k)) ?_
  have hb1 : (if (((v + 1) % 256) % 16) = 0 then 1 else 0) < 2 := z_ite_ltB _ (by omega) (by omega)
  refine pp_F_auxiliary (v := (if (((v + 1) % 256) % 16) = 0 then 1 else 0)) K hw (by omega) d_F_raised_21 (fun H locs hw => ?_)
  have hO2 : z_Ok (z_s_au σ (if (((v + 1) % 256) % 16) = 0 then 1 else 0)) := z_ok_au hO (by omega)
  refine lv_aload_n K.1 K.2.1 d_F_raised_24 rfl (lv_at hl 1 rfl) ?_
  refine lv_iload_n K.1 K.2.1 d_F_raised_25 rfl (lv_at hl 0 rfl) ?_
  refine pkv K (c_judge (σ := z_s_au σ (if (((v + 1) % 256) % 16) = 0 then 1 else 0)) (v := (v + 1) % 256) l D cI a hO2 (by omega)) (cw_F_46 K (Nat.le_of_ble_eq_true rfl) (Nat.le_of_ble_eq_true rfl)) hw (va_recv (ci := 2) (q0 := 2) hw.2.2.2.1 hw.1 rfl rfl) rfl hl.1 rfl (Nat.le_of_ble_eq_true rfl) d_F_raised_26 ⟨Nat.zero_le _, Nat.zero_le _⟩ (fun H locs hw => ?_)
  have hO3 : z_Ok (z_jd (z_s_au σ (if (((v + 1) % 256) % 16) = 0 then 1 else 0)) ((v + 1) % 256)) := z_ok_jd hO2 (by omega)
  refine lv_iload_n K.1 K.2.1 d_F_raised_29 rfl (lv_at hl 0 rfl) ?_
  exact pri K hr hlk hw (by first | rfl | (simp [z_up]; done) | (simp only [z_up]; rfl)) (by first | rfl | (simp [z_up]; done) | (congr 1; omega) | (simp [z_up]; omega)) d_F_raised_30
set_option maxHeartbeats 4000000 in
set_option maxRecDepth 100000 in
theorem c_lowered {σ : z_St} {v : Nat} (l : Launch) (D : va_G) (cI : ClassId) (a : pAd) (hO : z_Ok σ) (hv : v < 256) : pCi l y_F_lowered w_F_lowered 2 41 D cI a [.ref a.2.2.1, .int (nI v)] σ (z_dn σ v) (nI ((v + 255) % 256)) := by
  refine pci_of (cc := b_F_lowered) (maxL := 3) (ret := (some .int)) (by decide) rfl (Nat.le_of_ble_eq_true rfl) ?_
  intro p e s m below meth c ls K hr hlk hl hw
  have K : CallFix p m c b_F_lowered 3 s _ (_ :: T0) "PortProcessor$Flags" := K
  have hl : lv_has ls 3 [(0, .ref a.2.2.1), (1, .int (nI v))] := hl
  refine lv_iload_n K.1 K.2.1 d_F_lowered_0 rfl (lv_at hl 1 rfl) ?_
  refine nv_iconst (v := 1) K d_F_lowered_1 (by decide) ?_
  refine lv_isub K.1 K.2.1 d_F_lowered_2 ?_
  refine nv_sipush (v := 255) K d_F_lowered_3 (by decide) ?_
  refine lv_iand K.1 K.2.1 d_F_lowered_6 (nv_as K (nz_dec8 (by omega)) ?_)
  refine lv_istore_n (lv' := [(2, .int (nI ((v + 255) % 256))), (0, .ref a.2.2.1), (1, .int (nI v))]) K.1 K.2.1 d_F_lowered_7 rfl hl (by decide) rfl (fun ls hl => ?_)
  refine lv_aload_n K.1 K.2.1 d_F_lowered_8 rfl (lv_at hl 1 rfl) ?_
  refine lv_iload_n K.1 K.2.1 d_F_lowered_9 rfl (lv_at hl 0 rfl) ?_
  refine nv_bipush (v := 15) K d_F_lowered_10 (by decide) ?_
  refine nv_mask (M := 16) K 4 rfl rfl d_F_lowered_12 ?_
  refine nv_bipush (v := 15) K d_F_lowered_13 (by decide) ?_
  refine nf_icmp_eq (u := 0) (v := 1) (Y := 23) K (by omega) (by omega) d_F_lowered_15 rfl (fun _ k => nv_iconst (v := 0) K d_F_lowered_22 (by decide) k) (fun _ k => nv_iconst (v := 1) K d_F_lowered_18 (by decide) (lv_goto K.1 K.2.1 d_F_lowered_19 rfl k)) ?_
  have hb1 : (if (((v + 255) % 256) % 16) = 15 then 0 else 1) < 2 := z_ite_ltB _ (by omega) (by omega)
  refine pp_F_auxiliary (v := (if (((v + 255) % 256) % 16) = 15 then 0 else 1)) K hw (by omega) d_F_lowered_23 (fun H locs hw => ?_)
  have hO2 : z_Ok (z_s_au σ (if (((v + 255) % 256) % 16) = 15 then 0 else 1)) := z_ok_au hO (by omega)
  refine lv_aload_n K.1 K.2.1 d_F_lowered_26 rfl (lv_at hl 1 rfl) ?_
  refine lv_iload_n K.1 K.2.1 d_F_lowered_27 rfl (lv_at hl 0 rfl) ?_
  refine pkv K (c_judge (σ := z_s_au σ (if (((v + 255) % 256) % 16) = 15 then 0 else 1)) (v := (v + 255) % 256) l D cI a hO2 (by omega)) (cw_F_46 K (Nat.le_of_ble_eq_true rfl) (Nat.le_of_ble_eq_true rfl)) hw (va_recv (ci := 2) (q0 := 2) hw.2.2.2.1 hw.1 rfl rfl) rfl hl.1 rfl (Nat.le_of_ble_eq_true rfl) d_F_lowered_28 ⟨Nat.zero_le _, Nat.zero_le _⟩ (fun H locs hw => ?_)
  have hO3 : z_Ok (z_jd (z_s_au σ (if (((v + 255) % 256) % 16) = 15 then 0 else 1)) ((v + 255) % 256)) := z_ok_jd hO2 (by omega)
  refine lv_iload_n K.1 K.2.1 d_F_lowered_31 rfl (lv_at hl 0 rfl) ?_
  exact pri K hr hlk hw (by first | rfl | (simp [z_dn]; done) | (simp only [z_dn]; rfl)) (by first | rfl | (simp [z_dn]; done) | (congr 1; omega) | (simp [z_dn]; omega)) d_F_lowered_32
set_option maxHeartbeats 4000000 in
set_option maxRecDepth 100000 in
theorem c_turnedLeft {σ : z_St} {v z : Nat} (l : Launch) (D : va_G) (cI : ClassId) (a : pAd) (hO : z_Ok σ) (hv : v < 256) (hz : z < 2) : pCi l y_F_turnedLeft w_F_turnedLeft 0 0 D cI a [.ref a.2.2.1, .int (nI v), .int (nI z)] σ (z_s_ca σ (v / 128)) (nI (v % 128 * 2 + z)) := by
  refine pci_of (cc := b_F_turnedLeft) (maxL := 3) (ret := (some .int)) (by decide) rfl (Nat.le_of_ble_eq_true rfl) ?_
  intro p e s m below meth c ls K hr hlk hl hw
  have K : CallFix p m c b_F_turnedLeft 3 s _ (_ :: T0) "PortProcessor$Flags" := K
  have hl : lv_has ls 3 [(0, .ref a.2.2.1), (1, .int (nI v)), (2, .int (nI z))] := hl
  refine lv_aload_n K.1 K.2.1 d_F_turnedLeft_0 rfl (lv_at hl 0 rfl) ?_
  refine lv_iload_n K.1 K.2.1 d_F_turnedLeft_1 rfl (lv_at hl 1 rfl) ?_
  refine nv_sipush (v := 128) K d_F_turnedLeft_2 (by decide) ?_
  refine nv_iand K d_F_turnedLeft_5 ?_
  have hb1 : v &&& 128 ≤ 128 := Nat.and_le_right
  refine nf_if_eq (u := 0) (v := 1) (Y := 14) K (by omega) d_F_turnedLeft_6 rfl (fun _ k => nv_iconst (v := 0) K d_F_turnedLeft_13 (by decide) k) (fun _ k => nv_iconst (v := 1) K d_F_turnedLeft_9 (by decide) (lv_goto K.1 K.2.1 d_F_turnedLeft_10 rfl k)) ?_
  have hb2 : (if (v &&& 128) = 0 then 0 else 1) < 2 := z_ite_ltB _ (by omega) (by omega)
  refine pp_F_carry (v := (if (v &&& 128) = 0 then 0 else 1)) K hw (by omega) d_F_turnedLeft_14 (fun H locs hw => ?_)
  have hO3 : z_Ok (z_s_ca σ (if (v &&& 128) = 0 then 0 else 1)) := z_ok_ca hO (by omega)
  refine lv_iload_n K.1 K.2.1 d_F_turnedLeft_17 rfl (lv_at hl 1 rfl) ?_
  refine nv_iconst (v := 1) K d_F_turnedLeft_18 (by decide) ?_
  refine nv_ishl (M := 2) K (by omega) rfl (by omega) d_F_turnedLeft_19 ?_
  refine lv_iload_n K.1 K.2.1 d_F_turnedLeft_20 rfl (lv_at hl 2 rfl) ?_
  refine nv_ior K d_F_turnedLeft_21 ?_
  refine nv_sipush (v := 255) K d_F_turnedLeft_22 (by decide) ?_
  refine nv_mask (M := 256) K 8 rfl rfl d_F_turnedLeft_25 ?_
  exact pri K hr hlk hw (by rw [nz_s128 _ hv]) (congrArg nI (nz_left _ hv _ hz)) d_F_turnedLeft_26
set_option maxHeartbeats 4000000 in
set_option maxRecDepth 100000 in
theorem c_turnedRight {σ : z_St} {v z : Nat} (l : Launch) (D : va_G) (cI : ClassId) (a : pAd) (hO : z_Ok σ) (hv : v < 256) (hz : z < 2) : pCi l y_F_turnedRight w_F_turnedRight 0 0 D cI a [.ref a.2.2.1, .int (nI v), .int (nI z)] σ (z_s_ca σ (v % 2)) (nI (v / 2 + z * 128)) := by
  refine pci_of (cc := b_F_turnedRight) (maxL := 3) (ret := (some .int)) (by decide) rfl (Nat.le_of_ble_eq_true rfl) ?_
  intro p e s m below meth c ls K hr hlk hl hw
  have K : CallFix p m c b_F_turnedRight 3 s _ (_ :: T0) "PortProcessor$Flags" := K
  have hl : lv_has ls 3 [(0, .ref a.2.2.1), (1, .int (nI v)), (2, .int (nI z))] := hl
  refine lv_aload_n K.1 K.2.1 d_F_turnedRight_0 rfl (lv_at hl 0 rfl) ?_
  refine lv_iload_n K.1 K.2.1 d_F_turnedRight_1 rfl (lv_at hl 1 rfl) ?_
  refine nv_iconst (v := 1) K d_F_turnedRight_2 (by decide) ?_
  refine nv_mask (M := 2) K 1 rfl rfl d_F_turnedRight_3 ?_
  refine nf_if_eq (u := 0) (v := 1) (Y := 12) K (by omega) d_F_turnedRight_4 rfl (fun _ k => nv_iconst (v := 0) K d_F_turnedRight_11 (by decide) k) (fun _ k => nv_iconst (v := 1) K d_F_turnedRight_7 (by decide) (lv_goto K.1 K.2.1 d_F_turnedRight_8 rfl k)) ?_
  have hb1 : (if (v % 2) = 0 then 0 else 1) < 2 := z_ite_ltB _ (by omega) (by omega)
  refine pp_F_carry (v := (if (v % 2) = 0 then 0 else 1)) K hw (by omega) d_F_turnedRight_12 (fun H locs hw => ?_)
  have hO2 : z_Ok (z_s_ca σ (if (v % 2) = 0 then 0 else 1)) := z_ok_ca hO (by omega)
  refine lv_iload_n K.1 K.2.1 d_F_turnedRight_15 rfl (lv_at hl 1 rfl) ?_
  refine nv_iconst (v := 1) K d_F_turnedRight_16 (by decide) ?_
  refine nv_ishr (M := 2) K (by omega) rfl (by omega) d_F_turnedRight_17 ?_
  refine lv_iload_n K.1 K.2.1 d_F_turnedRight_18 rfl (lv_at hl 2 rfl) ?_
  refine nv_bipush (v := 7) K d_F_turnedRight_19 (by decide) ?_
  refine nv_ishl (M := 128) K (by omega) rfl (by omega) d_F_turnedRight_21 ?_
  refine nv_ior K d_F_turnedRight_22 ?_
  exact pri K hr hlk hw (by rw [nz_b1 v]) (congrArg nI (nz_right _ hv _ hz)) d_F_turnedRight_23

set_option maxHeartbeats 4000000 in
set_option maxRecDepth 100000 in
theorem c_asByte {σ : z_St} (l : Launch) (D : va_G) (cI : ClassId) (a : pAd) (hO : z_Ok σ) : pCi l y_F_asByte w_F_asByte 0 0 D cI a [.ref a.2.2.1] σ σ (nI (z_fb σ)) := by
  refine pci_of (cc := b_F_asByte) (maxL := 1) (ret := (some .int)) (by decide) rfl (Nat.le_of_ble_eq_true rfl) ?_
  intro p e s m below meth c ls K hr hlk hl hw
  have K : CallFix p m c b_F_asByte 1 s _ (_ :: T0) "PortProcessor$Flags" := K
  have hl : lv_has ls 1 [(0, .ref a.2.2.1)] := hl
  refine nv_iconst (v := 2) K d_F_asByte_0 (by decide) ?_
  refine lv_aload_n K.1 K.2.1 d_F_asByte_1 rfl (lv_at hl 0 rfl) ?_
  refine pg_F_sign (v := z_x_sg σ) K hw rfl d_F_asByte_2 ?_
  have hb1 : z_x_sg σ < 2 := z_k_sg hO
  refine nf_if_eq (u := 0) (v := 128) (Y := 15) K (by omega) d_F_asByte_5 rfl (fun _ k => nv_iconst (v := 0) K d_F_asByte_14 (by decide) k) (fun _ k => nv_sipush (v := 128) K d_F_asByte_8 (by decide) (lv_goto K.1 K.2.1 d_F_asByte_11 rfl k)) ?_
  have hb2 : (if (z_x_sg σ) = 0 then 0 else 128) < 129 := z_ite_ltB _ (by omega) (by omega)
  refine nv_ior K d_F_asByte_15 ?_
  refine lv_aload_n K.1 K.2.1 d_F_asByte_16 rfl (lv_at hl 0 rfl) ?_
  refine pg_F_zero (v := z_x_ze σ) K hw rfl d_F_asByte_17 ?_
  have hb3 : z_x_ze σ < 2 := z_k_ze hO
  refine nf_if_eq (u := 0) (v := 64) (Y := 29) K (by omega) d_F_asByte_20 rfl (fun _ k => nv_iconst (v := 0) K d_F_asByte_28 (by decide) k) (fun _ k => nv_bipush (v := 64) K d_F_asByte_23 (by decide) (lv_goto K.1 K.2.1 d_F_asByte_25 rfl k)) ?_
  have hb4 : (if (z_x_ze σ) = 0 then 0 else 64) < 65 := z_ite_ltB _ (by omega) (by omega)
  refine nv_ior K d_F_asByte_29 ?_
  refine lv_aload_n K.1 K.2.1 d_F_asByte_30 rfl (lv_at hl 0 rfl) ?_
  refine pg_F_auxiliary (v := z_x_au σ) K hw rfl d_F_asByte_31 ?_
  have hb5 : z_x_au σ < 2 := z_k_au hO
  refine nf_if_eq (u := 0) (v := 16) (Y := 43) K (by omega) d_F_asByte_34 rfl (fun _ k => nv_iconst (v := 0) K d_F_asByte_42 (by decide) k) (fun _ k => nv_bipush (v := 16) K d_F_asByte_37 (by decide) (lv_goto K.1 K.2.1 d_F_asByte_39 rfl k)) ?_
  have hb6 : (if (z_x_au σ) = 0 then 0 else 16) < 17 := z_ite_ltB _ (by omega) (by omega)
  refine nv_ior K d_F_asByte_43 ?_
  refine lv_aload_n K.1 K.2.1 d_F_asByte_44 rfl (lv_at hl 0 rfl) ?_
  refine pg_F_parity (v := z_x_pa σ) K hw rfl d_F_asByte_45 ?_
  have hb7 : z_x_pa σ < 2 := z_k_pa hO
  refine nf_if_eq (u := 0) (v := 4) (Y := 56) K (by omega) d_F_asByte_48 rfl (fun _ k => nv_iconst (v := 0) K d_F_asByte_55 (by decide) k) (fun _ k => nv_iconst (v := 4) K d_F_asByte_51 (by decide) (lv_goto K.1 K.2.1 d_F_asByte_52 rfl k)) ?_
  have hb8 : (if (z_x_pa σ) = 0 then 0 else 4) < 5 := z_ite_ltB _ (by omega) (by omega)
  refine nv_ior K d_F_asByte_56 ?_
  refine lv_aload_n K.1 K.2.1 d_F_asByte_57 rfl (lv_at hl 0 rfl) ?_
  refine pg_F_carry (v := z_x_ca σ) K hw rfl d_F_asByte_58 ?_
  have hb9 : z_x_ca σ < 2 := z_k_ca hO
  refine nf_if_eq (u := 0) (v := 1) (Y := 69) K (by omega) d_F_asByte_61 rfl (fun _ k => nv_iconst (v := 0) K d_F_asByte_68 (by decide) k) (fun _ k => nv_iconst (v := 1) K d_F_asByte_64 (by decide) (lv_goto K.1 K.2.1 d_F_asByte_65 rfl k)) ?_
  have hb10 : (if (z_x_ca σ) = 0 then 0 else 1) < 2 := z_ite_ltB _ (by omega) (by omega)
  refine nv_ior K d_F_asByte_69 ?_
  exact pri K hr hlk hw (by first | rfl | (simp; done) | (skip; rfl)) (nz_fb hO) d_F_asByte_70
set_option maxHeartbeats 4000000 in
set_option maxRecDepth 100000 in
theorem c_takeByte {σ : z_St} {v : Nat} (l : Launch) (D : va_G) (cI : ClassId) (a : pAd) (hO : z_Ok σ) (hv : v < 256) : pCv l y_F_takeByte w_F_takeByte 0 0 D cI a [.ref a.2.2.1, .int (nI v)] σ (z_ff σ v) := by
  refine pcv_of (cc := b_F_takeByte) (maxL := 2) (ret := none) (by decide) rfl (Nat.le_of_ble_eq_true rfl) ?_
  intro p e s m below meth c ls K hr hlk hl hw
  have K : CallFix p m c b_F_takeByte 2 s _ (_ :: T0) "PortProcessor$Flags" := K
  have hl : lv_has ls 2 [(0, .ref a.2.2.1), (1, .int (nI v))] := hl
  refine lv_aload_n K.1 K.2.1 d_F_takeByte_0 rfl (lv_at hl 0 rfl) ?_
  refine lv_iload_n K.1 K.2.1 d_F_takeByte_1 rfl (lv_at hl 1 rfl) ?_
  refine nv_sipush (v := 128) K d_F_takeByte_2 (by decide) ?_
  refine nv_iand K d_F_takeByte_5 ?_
  refine nf_if_eq (u := 0) (v := 1) (Y := 14) K (by omega) d_F_takeByte_6 rfl (fun _ k => nv_iconst (v := 0) K d_F_takeByte_13 (by decide) k) (fun _ k => nv_iconst (v := 1) K d_F_takeByte_9 (by decide) (lv_goto K.1 K.2.1 d_F_takeByte_10 rfl k)) ?_
  have hb1 : (if (v &&& 128) = 0 then 0 else 1) < 2 := z_ite_ltB _ (by omega) (by omega)
  refine pp_F_sign (v := (if (v &&& 128) = 0 then 0 else 1)) K hw (by omega) d_F_takeByte_14 (fun H locs hw => ?_)
  have hO2 : z_Ok (z_s_sg σ (if (v &&& 128) = 0 then 0 else 1)) := z_ok_sg hO (by omega)
  refine lv_aload_n K.1 K.2.1 d_F_takeByte_17 rfl (lv_at hl 0 rfl) ?_
  refine lv_iload_n K.1 K.2.1 d_F_takeByte_18 rfl (lv_at hl 1 rfl) ?_
  refine nv_bipush (v := 64) K d_F_takeByte_19 (by decide) ?_
  refine nv_iand K d_F_takeByte_21 ?_
  refine nf_if_eq (u := 0) (v := 1) (Y := 30) K (by omega) d_F_takeByte_22 rfl (fun _ k => nv_iconst (v := 0) K d_F_takeByte_29 (by decide) k) (fun _ k => nv_iconst (v := 1) K d_F_takeByte_25 (by decide) (lv_goto K.1 K.2.1 d_F_takeByte_26 rfl k)) ?_
  have hb3 : (if (v &&& 64) = 0 then 0 else 1) < 2 := z_ite_ltB _ (by omega) (by omega)
  refine pp_F_zero (v := (if (v &&& 64) = 0 then 0 else 1)) K hw (by omega) d_F_takeByte_30 (fun H locs hw => ?_)
  have hO4 : z_Ok (z_s_ze (z_s_sg σ (if (v &&& 128) = 0 then 0 else 1)) (if (v &&& 64) = 0 then 0 else 1)) := z_ok_ze hO2 (by omega)
  refine lv_aload_n K.1 K.2.1 d_F_takeByte_33 rfl (lv_at hl 0 rfl) ?_
  refine lv_iload_n K.1 K.2.1 d_F_takeByte_34 rfl (lv_at hl 1 rfl) ?_
  refine nv_bipush (v := 16) K d_F_takeByte_35 (by decide) ?_
  refine nv_iand K d_F_takeByte_37 ?_
  refine nf_if_eq (u := 0) (v := 1) (Y := 46) K (by omega) d_F_takeByte_38 rfl (fun _ k => nv_iconst (v := 0) K d_F_takeByte_45 (by decide) k) (fun _ k => nv_iconst (v := 1) K d_F_takeByte_41 (by decide) (lv_goto K.1 K.2.1 d_F_takeByte_42 rfl k)) ?_
  have hb5 : (if (v &&& 16) = 0 then 0 else 1) < 2 := z_ite_ltB _ (by omega) (by omega)
  refine pp_F_auxiliary (v := (if (v &&& 16) = 0 then 0 else 1)) K hw (by omega) d_F_takeByte_46 (fun H locs hw => ?_)
  have hO6 : z_Ok (z_s_au (z_s_ze (z_s_sg σ (if (v &&& 128) = 0 then 0 else 1)) (if (v &&& 64) = 0 then 0 else 1)) (if (v &&& 16) = 0 then 0 else 1)) := z_ok_au hO4 (by omega)
  refine lv_aload_n K.1 K.2.1 d_F_takeByte_49 rfl (lv_at hl 0 rfl) ?_
  refine lv_iload_n K.1 K.2.1 d_F_takeByte_50 rfl (lv_at hl 1 rfl) ?_
  refine nv_iconst (v := 4) K d_F_takeByte_51 (by decide) ?_
  refine nv_iand K d_F_takeByte_52 ?_
  refine nf_if_eq (u := 0) (v := 1) (Y := 61) K (by omega) d_F_takeByte_53 rfl (fun _ k => nv_iconst (v := 0) K d_F_takeByte_60 (by decide) k) (fun _ k => nv_iconst (v := 1) K d_F_takeByte_56 (by decide) (lv_goto K.1 K.2.1 d_F_takeByte_57 rfl k)) ?_
  have hb7 : (if (v &&& 4) = 0 then 0 else 1) < 2 := z_ite_ltB _ (by omega) (by omega)
  refine pp_F_parity (v := (if (v &&& 4) = 0 then 0 else 1)) K hw (by omega) d_F_takeByte_61 (fun H locs hw => ?_)
  have hO8 : z_Ok (z_s_pa (z_s_au (z_s_ze (z_s_sg σ (if (v &&& 128) = 0 then 0 else 1)) (if (v &&& 64) = 0 then 0 else 1)) (if (v &&& 16) = 0 then 0 else 1)) (if (v &&& 4) = 0 then 0 else 1)) := z_ok_pa hO6 (by omega)
  refine lv_aload_n K.1 K.2.1 d_F_takeByte_64 rfl (lv_at hl 0 rfl) ?_
  refine lv_iload_n K.1 K.2.1 d_F_takeByte_65 rfl (lv_at hl 1 rfl) ?_
  refine nv_iconst (v := 1) K d_F_takeByte_66 (by decide) ?_
  refine nv_mask (M := 2) K 1 rfl rfl d_F_takeByte_67 ?_
  refine nf_if_eq (u := 0) (v := 1) (Y := 76) K (by omega) d_F_takeByte_68 rfl (fun _ k => nv_iconst (v := 0) K d_F_takeByte_75 (by decide) k) (fun _ k => nv_iconst (v := 1) K d_F_takeByte_71 (by decide) (lv_goto K.1 K.2.1 d_F_takeByte_72 rfl k)) ?_
  have hb9 : (if (v % 2) = 0 then 0 else 1) < 2 := z_ite_ltB _ (by omega) (by omega)
  refine pp_F_carry (v := (if (v % 2) = 0 then 0 else 1)) K hw (by omega) d_F_takeByte_76 (fun H locs hw => ?_)
  have hO10 : z_Ok (z_s_ca (z_s_pa (z_s_au (z_s_ze (z_s_sg σ (if (v &&& 128) = 0 then 0 else 1)) (if (v &&& 64) = 0 then 0 else 1)) (if (v &&& 16) = 0 then 0 else 1)) (if (v &&& 4) = 0 then 0 else 1)) (if (v % 2) = 0 then 0 else 1)) := z_ok_ca hO8 (by omega)
  exact prv K hr hlk hw (by rw [nz_b128 _ hv, nz_b64 _ hv, nz_b16 _ hv, nz_b4 _ hv, nz_b1 v]; rfl) d_F_takeByte_79
set_option maxHeartbeats 4000000 in
set_option maxRecDepth 100000 in
theorem c_carryBit {σ : z_St} (l : Launch) (D : va_G) (cI : ClassId) (a : pAd) (hO : z_Ok σ) : pCi l y_F_carryBit w_F_carryBit 0 0 D cI a [.ref a.2.2.1] σ σ (nI (z_x_ca σ)) := by
  refine pci_of (cc := b_F_carryBit) (maxL := 1) (ret := (some .int)) (by decide) rfl (Nat.le_of_ble_eq_true rfl) ?_
  intro p e s m below meth c ls K hr hlk hl hw
  have K : CallFix p m c b_F_carryBit 1 s _ (_ :: T0) "PortProcessor$Flags" := K
  have hl : lv_has ls 1 [(0, .ref a.2.2.1)] := hl
  refine lv_aload_n K.1 K.2.1 d_F_carryBit_0 rfl (lv_at hl 0 rfl) ?_
  refine pg_F_carry (v := z_x_ca σ) K hw rfl d_F_carryBit_1 ?_
  have hb1 : z_x_ca σ < 2 := z_k_ca hO
  refine nf_if_eq (u := 0) (v := 1) (Y := 12) K (by omega) d_F_carryBit_4 rfl (fun _ k => nv_iconst (v := 0) K d_F_carryBit_11 (by decide) k) (fun _ k => nv_iconst (v := 1) K d_F_carryBit_7 (by decide) (lv_goto K.1 K.2.1 d_F_carryBit_8 rfl k)) ?_
  have hb2 : (if (z_x_ca σ) = 0 then 0 else 1) < 2 := z_ite_ltB _ (by omega) (by omega)
  exact pri K hr hlk hw (by first | rfl | (simp; done) | (skip; rfl)) (congrArg nI (nz_bit (z_k_ca hO))) d_F_carryBit_12
set_option maxHeartbeats 4000000 in
set_option maxRecDepth 100000 in
theorem c_takeCarry {σ : z_St} {v : Nat} (l : Launch) (D : va_G) (cI : ClassId) (a : pAd) (hO : z_Ok σ) (hv : v < 2) : pCv l y_F_takeCarry w_F_takeCarry 0 0 D cI a [.ref a.2.2.1, .int (nI v)] σ (z_s_ca σ v) := by
  refine pcv_of (cc := b_F_takeCarry) (maxL := 2) (ret := none) (by decide) rfl (Nat.le_of_ble_eq_true rfl) ?_
  intro p e s m below meth c ls K hr hlk hl hw
  have K : CallFix p m c b_F_takeCarry 2 s _ (_ :: T0) "PortProcessor$Flags" := K
  have hl : lv_has ls 2 [(0, .ref a.2.2.1), (1, .int (nI v))] := hl
  refine lv_aload_n K.1 K.2.1 d_F_takeCarry_0 rfl (lv_at hl 0 rfl) ?_
  refine lv_iload_n K.1 K.2.1 d_F_takeCarry_1 rfl (lv_at hl 1 rfl) ?_
  refine pp_F_carry (v := v) K hw (by omega) d_F_takeCarry_2 (fun H locs hw => ?_)
  have hO1 : z_Ok (z_s_ca σ v) := z_ok_ca hO (by omega)
  exact prv K hr hlk hw (by first | rfl | (simp; done) | (skip; rfl)) d_F_takeCarry_5
set_option maxHeartbeats 4000000 in
set_option maxRecDepth 100000 in
theorem c_flagOf {σ : z_St} {k : Nat} (l : Launch) (D : va_G) (cI : ClassId) (a : pAd) (hO : z_Ok σ) (hk : k < 4) : pCi l y_F_flagOfCondition w_F_flagOfCondition 0 0 D cI a [.ref a.2.2.1, .int (nI k)] σ σ (nI (z_fo σ k)) := by
  refine pci_of (cc := b_F_flagOfCondition) (maxL := 2) (ret := (some .boolean)) (by decide) rfl (Nat.le_of_ble_eq_true rfl) ?_
  intro p e s m below meth c ls K hr hlk hl hw
  have K : CallFix p m c b_F_flagOfCondition 2 s _ (_ :: T0) "PortProcessor$Flags" := K
  have hl : lv_has ls 2 [(0, .ref a.2.2.1), (1, .int (nI k))] := hl
  refine lv_iload_n K.1 K.2.1 d_F_flagOfCondition_0 rfl (lv_at hl 1 rfl) ?_
  rcases (by omega : k = 0 ∨ k = 1 ∨ k = 2 ∨ k = 3) with h1 | h1 | h1 | h1
  · refine nv_as K (congrArg nI h1) ?_
    refine nv_tabIn (a := 0) (tgt := 28) K d_F_flagOfCondition_1 (by decide) (by decide) (by decide) rfl rfl ?_
    refine lv_aload_n K.1 K.2.1 d_F_flagOfCondition_28 rfl (lv_at hl 0 rfl) ?_
    refine pg_F_zero (v := z_x_ze σ) K hw rfl d_F_flagOfCondition_29 ?_
    have hb2 : z_x_ze σ < 2 := z_k_ze hO
    exact prz K hr hlk hw (by first | rfl | (simp [h1]; done) | (simp only [h1]; rfl)) (by omega) (by rw [h1]; rfl) d_F_flagOfCondition_32
  · refine nv_as K (congrArg nI h1) ?_
    refine nv_tabIn (a := 1) (tgt := 33) K d_F_flagOfCondition_1 (by decide) (by decide) (by decide) rfl rfl ?_
    refine lv_aload_n K.1 K.2.1 d_F_flagOfCondition_33 rfl (lv_at hl 0 rfl) ?_
    refine pg_F_carry (v := z_x_ca σ) K hw rfl d_F_flagOfCondition_34 ?_
    have hb3 : z_x_ca σ < 2 := z_k_ca hO
    exact prz K hr hlk hw (by first | rfl | (simp [h1]; done) | (simp only [h1]; rfl)) (by omega) (by rw [h1]; rfl) d_F_flagOfCondition_37
  · refine nv_as K (congrArg nI h1) ?_
    refine nv_tabIn (a := 2) (tgt := 38) K d_F_flagOfCondition_1 (by decide) (by decide) (by decide) rfl rfl ?_
    refine lv_aload_n K.1 K.2.1 d_F_flagOfCondition_38 rfl (lv_at hl 0 rfl) ?_
    refine pg_F_parity (v := z_x_pa σ) K hw rfl d_F_flagOfCondition_39 ?_
    have hb4 : z_x_pa σ < 2 := z_k_pa hO
    exact prz K hr hlk hw (by first | rfl | (simp [h1]; done) | (simp only [h1]; rfl)) (by omega) (by rw [h1]; rfl) d_F_flagOfCondition_42
  · refine nv_as K (congrArg nI h1) ?_
    refine nv_tabOut (a := 3) (tgt := 43) K d_F_flagOfCondition_1 (by decide) (by decide) rfl ?_
    refine lv_aload_n K.1 K.2.1 d_F_flagOfCondition_43 rfl (lv_at hl 0 rfl) ?_
    refine pg_F_sign (v := z_x_sg σ) K hw rfl d_F_flagOfCondition_44 ?_
    have hb5 : z_x_sg σ < 2 := z_k_sg hO
    exact prz K hr hlk hw (by first | rfl | (simp [h1]; done) | (simp only [h1]; rfl)) (by omega) (by rw [h1]; rfl) d_F_flagOfCondition_47
set_option maxHeartbeats 4000000 in
set_option maxRecDepth 100000 in
theorem c_meet {σ : z_St} {k : Nat} (l : Launch) (D : va_G) (cI : ClassId) (a : pAd) (hO : z_Ok σ) (hk : k < 8) : pCi l y_F_meet w_F_meet 1 21 D cI a [.ref a.2.2.1, .int (nI k)] σ σ (nI (z_hold σ k)) := by
  refine pci_of (cc := b_F_meet) (maxL := 2) (ret := (some .boolean)) (by decide) rfl (Nat.le_of_ble_eq_true rfl) ?_
  intro p e s m below meth c ls K hr hlk hl hw
  have K : CallFix p m c b_F_meet 2 s _ (_ :: T0) "PortProcessor$Flags" := K
  have hl : lv_has ls 2 [(0, .ref a.2.2.1), (1, .int (nI k))] := hl
  refine lv_aload_n K.1 K.2.1 d_F_meet_0 rfl (lv_at hl 0 rfl) ?_
  refine lv_iload_n K.1 K.2.1 d_F_meet_1 rfl (lv_at hl 1 rfl) ?_
  refine nv_iconst (v := 1) K d_F_meet_2 (by decide) ?_
  refine nv_ishr (M := 2) K (by omega) rfl (by omega) d_F_meet_3 ?_
  refine pki K (c_flagOf (σ := σ) (k := k / 2) l D cI a hO (by omega)) (cw_F_27 K (Nat.le_of_ble_eq_true rfl) (Nat.le_of_ble_eq_true rfl)) hw (va_recv (ci := 2) (q0 := 2) hw.2.2.2.1 hw.1 rfl rfl) rfl hl.1 rfl (Nat.le_of_ble_eq_true rfl) d_F_meet_4 ⟨Nat.zero_le _, Nat.zero_le _⟩ (fun H locs hw => ?_)
  have hb1 : z_fo σ (k / 2) < 2 := z_fo_lt hO _
  refine lv_iload_n K.1 K.2.1 d_F_meet_7 rfl (lv_at hl 1 rfl) ?_
  refine nv_iconst (v := 1) K d_F_meet_8 (by decide) ?_
  refine nv_mask (M := 2) K 1 rfl rfl d_F_meet_9 ?_
  refine nv_iconst (v := 1) K d_F_meet_10 (by decide) ?_
  refine nf_icmp_ne (u := 0) (v := 1) (Y := 19) K (by omega) (by omega) d_F_meet_11 rfl (fun _ k => nv_iconst (v := 0) K d_F_meet_18 (by decide) k) (fun _ k => nv_iconst (v := 1) K d_F_meet_14 (by decide) (lv_goto K.1 K.2.1 d_F_meet_15 rfl k)) ?_
  have hb2 : (if (k % 2) = 1 then 1 else 0) < 2 := z_ite_ltB _ (by omega) (by omega)
  refine nf_icmp_ne (u := 0) (v := 1) (Y := 27) K (by omega) (by omega) d_F_meet_19 rfl (fun _ k => nv_iconst (v := 0) K d_F_meet_26 (by decide) k) (fun _ k => nv_iconst (v := 1) K d_F_meet_22 (by decide) (lv_goto K.1 K.2.1 d_F_meet_23 rfl k)) ?_
  have hb3 : (if (z_fo σ (k / 2)) = (if (k % 2) = 1 then 1 else 0) then 1 else 0) < 2 := z_ite_ltB _ (by omega) (by omega)
  exact prz K hr hlk hw (by first | rfl | (simp; done) | (skip; rfl)) (by omega) (by rw [nz_m1]; rfl) d_F_meet_27
-- bitCount: to come
set_option maxHeartbeats 4000000 in
set_option maxRecDepth 100000 in
theorem c_judge {σ : z_St} {v : Nat} (l : Launch) (D : va_G) (cI : ClassId) (a : pAd) (hO : z_Ok σ) (hv : v < 256) : pCv l y_F_judge w_F_judge 1 20 D cI a [.ref a.2.2.1, .int (nI v)] σ (z_jd σ v) := by
  refine pcv_of (cc := b_F_judge) (maxL := 2) (ret := none) (by decide) rfl (Nat.le_of_ble_eq_true rfl) ?_
  intro p e s m below meth c ls K hr hlk hl hw
  have K : CallFix p m c b_F_judge 2 s _ (_ :: T0) "PortProcessor$Flags" := K
  have hl : lv_has ls 2 [(0, .ref a.2.2.1), (1, .int (nI v))] := hl
  refine lv_aload_n K.1 K.2.1 d_F_judge_0 rfl (lv_at hl 0 rfl) ?_
  refine lv_iload_n K.1 K.2.1 d_F_judge_1 rfl (lv_at hl 1 rfl) ?_
  refine nv_sipush (v := 128) K d_F_judge_2 (by decide) ?_
  refine nv_iand K d_F_judge_5 ?_
  refine nf_if_eq (u := 0) (v := 1) (Y := 14) K (by omega) d_F_judge_6 rfl (fun _ k => nv_iconst (v := 0) K d_F_judge_13 (by decide) k) (fun _ k => nv_iconst (v := 1) K d_F_judge_9 (by decide) (lv_goto K.1 K.2.1 d_F_judge_10 rfl k)) ?_
  have hb1 : (if (v &&& 128) = 0 then 0 else 1) < 2 := z_ite_ltB _ (by omega) (by omega)
  refine pp_F_sign (v := (if (v &&& 128) = 0 then 0 else 1)) K hw (by omega) d_F_judge_14 (fun H locs hw => ?_)
  have hO2 : z_Ok (z_s_sg σ (if (v &&& 128) = 0 then 0 else 1)) := z_ok_sg hO (by omega)
  refine lv_aload_n K.1 K.2.1 d_F_judge_17 rfl (lv_at hl 0 rfl) ?_
  refine lv_iload_n K.1 K.2.1 d_F_judge_18 rfl (lv_at hl 1 rfl) ?_
  refine nf_if_ne (u := 0) (v := 1) (Y := 27) K (by omega) d_F_judge_19 rfl (fun _ k => nv_iconst (v := 0) K d_F_judge_26 (by decide) k) (fun _ k => nv_iconst (v := 1) K d_F_judge_22 (by decide) (lv_goto K.1 K.2.1 d_F_judge_23 rfl k)) ?_
  have hb3 : (if v = 0 then 1 else 0) < 2 := z_ite_ltB _ (by omega) (by omega)
  refine pp_F_zero (v := (if v = 0 then 1 else 0)) K hw (by omega) d_F_judge_27 (fun H locs hw => ?_)
  have hO4 : z_Ok (z_s_ze (z_s_sg σ (if (v &&& 128) = 0 then 0 else 1)) (if v = 0 then 1 else 0)) := z_ok_ze hO2 (by omega)
  refine lv_aload_n K.1 K.2.1 d_F_judge_30 rfl (lv_at hl 0 rfl) ?_
  refine lv_iload_n K.1 K.2.1 d_F_judge_31 rfl (lv_at hl 1 rfl) ?_
  refine psi K (c_bitCount (σ := z_s_ze (z_s_sg σ (if (v &&& 128) = 0 then 0 else 1)) (if v = 0 then 1 else 0)) (v := v) l D cI a hO4 (by omega)) (cw_F_50 K (Nat.le_of_ble_eq_true rfl) (Nat.le_of_ble_eq_true rfl)) hw rfl hl.1 rfl (Nat.le_of_ble_eq_true rfl) d_F_judge_32 ⟨Nat.zero_le _, Nat.zero_le _⟩ (fun H locs hw => ?_)
  have hb5 : z_pc_ v < 9 := z_pc_lt _
  refine nv_iconst (v := 1) K d_F_judge_35 (by decide) ?_
  refine nv_mask (M := 2) K 1 rfl rfl d_F_judge_36 ?_
  refine nf_if_ne (u := 0) (v := 1) (Y := 45) K (by omega) d_F_judge_37 rfl (fun _ k => nv_iconst (v := 0) K d_F_judge_44 (by decide) k) (fun _ k => nv_iconst (v := 1) K d_F_judge_40 (by decide) (lv_goto K.1 K.2.1 d_F_judge_41 rfl k)) ?_
  have hb6 : (if ((z_pc_ v) % 2) = 0 then 1 else 0) < 2 := z_ite_ltB _ (by omega) (by omega)
  refine pp_F_parity (v := (if ((z_pc_ v) % 2) = 0 then 1 else 0)) K hw (by omega) d_F_judge_45 (fun H locs hw => ?_)
  have hO7 : z_Ok (z_s_pa (z_s_ze (z_s_sg σ (if (v &&& 128) = 0 then 0 else 1)) (if v = 0 then 1 else 0)) (if ((z_pc_ v) % 2) = 0 then 1 else 0)) := z_ok_pa hO4 (by omega)
  exact prv K hr hlk hw (by rw [nz_s128 _ hv, nz_par _ hv]; rfl) d_F_judge_48
set_option maxHeartbeats 4000000 in
set_option maxRecDepth 100000 in
theorem c_sum {σ : z_St} {x y z : Nat} (l : Launch) (D : va_G) (cI : ClassId) (a : pAd) (hO : z_Ok σ) (hx : x < 256) (hy : y < 256) (hz : z < 2) : pCi l y_F_sum w_F_sum 0 0 D cI a [.ref a.2.2.1, .int (nI x), .int (nI y), .int (nI z)] σ (z_s_ca (z_s_au σ (z_g1 x y z)) (z_g2 x y z)) (nI ((x + y + z) % 256)) := by
  refine pci_of (cc := b_F_sum) (maxL := 5) (ret := (some .int)) (by decide) rfl (Nat.le_of_ble_eq_true rfl) ?_
  intro p e s m below meth c ls K hr hlk hl hw
  have K : CallFix p m c b_F_sum 5 s _ (_ :: T0) "PortProcessor$Flags" := K
  have hl : lv_has ls 5 [(0, .ref a.2.2.1), (1, .int (nI x)), (2, .int (nI y)), (3, .int (nI z))] := hl
  refine lv_iload_n K.1 K.2.1 d_F_sum_0 rfl (lv_at hl 1 rfl) ?_
  refine lv_iload_n K.1 K.2.1 d_F_sum_1 rfl (lv_at hl 2 rfl) ?_
  refine nv_iadd K d_F_sum_2 ?_
  refine lv_iload_n K.1 K.2.1 d_F_sum_3 rfl (lv_at hl 3 rfl) ?_
  refine nv_iadd K d_F_sum_4 ?_
  refine lv_istore (lv' := [(4, .int (nI ((x + y) + z))), (0, .ref a.2.2.1), (1, .int (nI x)), (2, .int (nI y)), (3, .int (nI z))]) K.1 K.2.1 d_F_sum_5 hl (by decide) rfl (fun ls hl => ?_)
  refine lv_aload_n K.1 K.2.1 d_F_sum_7 rfl (lv_at hl 1 rfl) ?_
  refine lv_iload_n K.1 K.2.1 d_F_sum_8 rfl (lv_at hl 2 rfl) ?_
  refine nv_bipush (v := 15) K d_F_sum_9 (by decide) ?_
  refine nv_mask (M := 16) K 4 rfl rfl d_F_sum_11 ?_
  refine lv_iload_n K.1 K.2.1 d_F_sum_12 rfl (lv_at hl 3 rfl) ?_
  refine nv_bipush (v := 15) K d_F_sum_13 (by decide) ?_
  refine nv_mask (M := 16) K 4 rfl rfl d_F_sum_15 ?_
  refine nv_iadd K d_F_sum_16 ?_
  refine lv_iload_n K.1 K.2.1 d_F_sum_17 rfl (lv_at hl 4 rfl) ?_
  refine nv_iadd K d_F_sum_18 ?_
  refine nv_bipush (v := 15) K d_F_sum_19 (by decide) ?_
  refine nf_icmp_le (u := 0) (v := 1) (Y := 29) K (by omega) (by omega) d_F_sum_21 rfl (fun _ k => nv_iconst (v := 0) K d_F_sum_28 (by decide) k) (fun _ k => nv_iconst (v := 1) K d_F_sum_24 (by decide) (lv_goto K.1 K.2.1 d_F_sum_25 rfl k)) ?_
  have hb1 : (if (((x % 16) + (y % 16)) + z) ≤ 15 then 0 else 1) < 2 := z_ite_ltB _ (by omega) (by omega)
  refine pp_F_auxiliary (v := (if (((x % 16) + (y % 16)) + z) ≤ 15 then 0 else 1)) K hw (by omega) d_F_sum_29 (fun H locs hw => ?_)
  have hO2 : z_Ok (z_s_au σ (if (((x % 16) + (y % 16)) + z) ≤ 15 then 0 else 1)) := z_ok_au hO (by omega)
  refine lv_aload_n K.1 K.2.1 d_F_sum_32 rfl (lv_at hl 1 rfl) ?_
  refine lv_iload K.1 K.2.1 d_F_sum_33 (lv_at hl 0 rfl) ?_
  refine nv_sipush (v := 255) K d_F_sum_35 (by decide) ?_
  refine nf_icmp_le (u := 0) (v := 1) (Y := 46) K (by omega) (by omega) d_F_sum_38 rfl (fun _ k => nv_iconst (v := 0) K d_F_sum_45 (by decide) k) (fun _ k => nv_iconst (v := 1) K d_F_sum_41 (by decide) (lv_goto K.1 K.2.1 d_F_sum_42 rfl k)) ?_
  have hb3 : (if ((x + y) + z) ≤ 255 then 0 else 1) < 2 := z_ite_ltB _ (by omega) (by omega)
  refine pp_F_carry (v := (if ((x + y) + z) ≤ 255 then 0 else 1)) K hw (by omega) d_F_sum_46 (fun H locs hw => ?_)
  have hO4 : z_Ok (z_s_ca (z_s_au σ (if (((x % 16) + (y % 16)) + z) ≤ 15 then 0 else 1)) (if ((x + y) + z) ≤ 255 then 0 else 1)) := z_ok_ca hO2 (by omega)
  refine lv_iload K.1 K.2.1 d_F_sum_49 (lv_at hl 0 rfl) ?_
  refine nv_sipush (v := 255) K d_F_sum_51 (by decide) ?_
  refine nv_mask (M := 256) K 8 rfl rfl d_F_sum_54 ?_
  exact pri K hr hlk hw (by rw [nz_if, nz_if]; rfl) (by first | rfl | (simp; done) | (congr 1; omega) | (simp; omega)) d_F_sum_55
set_option maxHeartbeats 4000000 in
set_option maxRecDepth 100000 in
theorem c_difference {σ : z_St} {x y z : Nat} (l : Launch) (D : va_G) (cI : ClassId) (a : pAd) (hO : z_Ok σ) (hx : x < 256) (hy : y < 256) (hz : z < 2) : pCi l y_F_difference w_F_difference 1 24 D cI a [.ref a.2.2.1, .int (nI x), .int (nI y), .int (nI z)] σ (z_s_ca (z_s_au σ (z_g1 x (255 - y) (1 - z))) (1 - z_g2 x (255 - y) (1 - z))) (nI ((x + (255 - y) + (1 - z)) % 256)) := by
  refine pci_of (cc := b_F_difference) (maxL := 5) (ret := (some .int)) (by decide) rfl (Nat.le_of_ble_eq_true rfl) ?_
  intro p e s m below meth c ls K hr hlk hl hw
  have K : CallFix p m c b_F_difference 5 s _ (_ :: T0) "PortProcessor$Flags" := K
  have hl : lv_has ls 5 [(0, .ref a.2.2.1), (1, .int (nI x)), (2, .int (nI y)), (3, .int (nI z))] := hl
  refine lv_aload_n K.1 K.2.1 d_F_difference_0 rfl (lv_at hl 0 rfl) ?_
  refine lv_iload_n K.1 K.2.1 d_F_difference_1 rfl (lv_at hl 1 rfl) ?_
  refine nv_sipush (v := 255) K d_F_difference_2 (by decide) ?_
  refine lv_iload_n K.1 K.2.1 d_F_difference_5 rfl (lv_at hl 2 rfl) ?_
  refine nv_isub K (by omega) d_F_difference_6 ?_
  refine nv_iconst (v := 1) K d_F_difference_7 (by decide) ?_
  refine lv_iload_n K.1 K.2.1 d_F_difference_8 rfl (lv_at hl 3 rfl) ?_
  refine nv_isub K (by omega) d_F_difference_9 ?_
  refine pki K (c_sum (σ := σ) (x := x) (y := 255 - y) (z := 1 - z) l D cI a hO (by omega) (by omega) (by omega)) (cw_F_31 K (Nat.le_of_ble_eq_true rfl) (Nat.le_of_ble_eq_true rfl)) hw (va_recv (ci := 2) (q0 := 2) hw.2.2.2.1 hw.1 rfl rfl) rfl hl.1 rfl (Nat.le_of_ble_eq_true rfl) d_F_difference_10 ⟨Nat.zero_le _, Nat.zero_le _⟩ (fun H locs hw => ?_)
  have hO1 : z_Ok (z_s_ca (z_s_au σ (z_g1 x (255 - y) (1 - z))) (z_g2 x (255 - y) (1 - z))) := z_ok_ca (z_ok_au hO (z_g1_lt _ _ _)) (z_g2_lt _ _ _)
  refine lv_istore (lv' := [(4, .int (nI ((x + (255 - y) + (1 - z)) % 256))), (0, .ref a.2.2.1), (1, .int (nI x)), (2, .int (nI y)), (3, .int (nI z))]) K.1 K.2.1 d_F_difference_13 hl (by decide) rfl (fun ls hl => ?_)
  refine lv_aload_n K.1 K.2.1 d_F_difference_15 rfl (lv_at hl 1 rfl) ?_
  refine lv_aload_n K.1 K.2.1 d_F_difference_16 rfl (lv_at hl 1 rfl) ?_
  refine pg_F_carry (v := z_g2 x (255 - y) (1 - z)) K hw rfl d_F_difference_17 ?_
  have hb2 : z_g2 x (255 - y) (1 - z) < 2 := z_k_ca hO1
  refine nf_if_ne (u := 0) (v := 1) (Y := 28) K (by omega) d_F_difference_20 rfl (fun _ k => nv_iconst (v := 0) K d_F_difference_27 (by decide) k) (fun _ k => nv_iconst (v := 1) K d_F_difference_23 (by decide) (lv_goto K.1 K.2.1 d_F_difference_24 rfl k)) ?_
  have hb3 : (if (z_g2 x (255 - y) (1 - z)) = 0 then 1 else 0) < 2 := z_ite_ltB _ (by omega) (by omega)
  refine pp_F_carry (v := (if (z_g2 x (255 - y) (1 - z)) = 0 then 1 else 0)) K hw (by omega) d_F_difference_28 (fun H locs hw => ?_)
  have hO4 : z_Ok (z_s_ca (z_s_ca (z_s_au σ (z_g1 x (255 - y) (1 - z))) (z_g2 x (255 - y) (1 - z))) (if (z_g2 x (255 - y) (1 - z)) = 0 then 1 else 0)) := z_ok_ca hO1 (by omega)
  refine lv_iload K.1 K.2.1 d_F_difference_31 (lv_at hl 0 rfl) ?_
  exact pri K hr hlk hw (by rw [nz_not (z_g2_lt _ _ _)]; rfl) (by first | rfl | (simp; done) | (congr 1; omega) | (simp; omega)) d_F_difference_33
set_option maxHeartbeats 4000000 in
set_option maxRecDepth 100000 in
theorem c_logical {σ : z_St} {x z : Nat} (l : Launch) (D : va_G) (cI : ClassId) (a : pAd) (hO : z_Ok σ) (hx : x < 256) (hz : z < 2) : pCi l y_F_logical w_F_logical 0 0 D cI a [.ref a.2.2.1, .int (nI x), .int (nI z)] σ (z_s_ca (z_s_au σ z) 0) (nI x) := by
  refine pci_of (cc := b_F_logical) (maxL := 3) (ret := (some .int)) (by decide) rfl (Nat.le_of_ble_eq_true rfl) ?_
  intro p e s m below meth c ls K hr hlk hl hw
  have K : CallFix p m c b_F_logical 3 s _ (_ :: T0) "PortProcessor$Flags" := K
  have hl : lv_has ls 3 [(0, .ref a.2.2.1), (1, .int (nI x)), (2, .int (nI z))] := hl
  refine lv_aload_n K.1 K.2.1 d_F_logical_0 rfl (lv_at hl 0 rfl) ?_
  refine lv_iload_n K.1 K.2.1 d_F_logical_1 rfl (lv_at hl 2 rfl) ?_
  refine pp_F_auxiliary (v := z) K hw (by omega) d_F_logical_2 (fun H locs hw => ?_)
  have hO1 : z_Ok (z_s_au σ z) := z_ok_au hO (by omega)
  refine lv_aload_n K.1 K.2.1 d_F_logical_5 rfl (lv_at hl 0 rfl) ?_
  refine nv_iconst (v := 0) K d_F_logical_6 (by decide) ?_
  refine pp_F_carry (v := 0) K hw (by omega) d_F_logical_7 (fun H locs hw => ?_)
  have hO2 : z_Ok (z_s_ca (z_s_au σ z) 0) := z_ok_ca hO1 (by omega)
  refine lv_iload_n K.1 K.2.1 d_F_logical_10 rfl (lv_at hl 1 rfl) ?_
  exact pri K hr hlk hw (by first | rfl | (simp; done) | (skip; rfl)) (by first | rfl | (simp; done) | (congr 1; omega) | (simp; omega)) d_F_logical_11
set_option maxHeartbeats 4000000 in
set_option maxRecDepth 100000 in
theorem c_combined {σ : z_St} {k x y : Nat} (l : Launch) (D : va_G) (cI : ClassId) (a : pAd) (hO : z_Ok σ) (hk : k < 8) (hx : x < 256) (hy : y < 256) : pCi l y_F_combined w_F_combined 2 48 D cI a [.ref a.2.2.1, .int (nI k), .int (nI x), .int (nI y)] σ (z_cm σ k x y) (nI (z_cv σ k x y)) := by
  refine pci_of (cc := b_F_combined) (maxL := 5) (ret := (some .int)) (by decide) rfl (Nat.le_of_ble_eq_true rfl) ?_
  intro p e s m below meth c ls K hr hlk hl hw
  have K : CallFix p m c b_F_combined 5 s _ (_ :: T0) "PortProcessor$Flags" := K
  have hl : lv_has ls 5 [(0, .ref a.2.2.1), (1, .int (nI k)), (2, .int (nI x)), (3, .int (nI y))] := hl
  refine lv_iload_n K.1 K.2.1 d_F_combined_0 rfl (lv_at hl 1 rfl) ?_
  rcases (by omega : k = 0 ∨ k = 1 ∨ k = 2 ∨ k = 3 ∨ k = 4 ∨ k = 5 ∨ k = 6 ∨ k = 7) with h1 | h1 | h1 | h1 | h1 | h1 | h1 | h1
  · refine nv_as K (congrArg nI h1) ?_
    refine nv_tabIn (a := 0) (tgt := 44) K d_F_combined_1 (by decide) (by decide) (by decide) rfl rfl ?_
    refine lv_aload_n K.1 K.2.1 d_F_combined_44 rfl (lv_at hl 0 rfl) ?_
    refine lv_iload_n K.1 K.2.1 d_F_combined_45 rfl (lv_at hl 2 rfl) ?_
    refine lv_iload_n K.1 K.2.1 d_F_combined_46 rfl (lv_at hl 3 rfl) ?_
    refine nv_iconst (v := 0) K d_F_combined_47 (by decide) ?_
    refine pki K (c_sum (σ := σ) (x := x) (y := y) (z := 0) l D cI a hO (by omega) (by omega) (by omega)) (cw_F_31 K (Nat.le_of_ble_eq_true rfl) (Nat.le_of_ble_eq_true rfl)) hw (va_recv (ci := 2) (q0 := 2) hw.2.2.2.1 hw.1 rfl rfl) rfl hl.1 rfl (Nat.le_of_ble_eq_true rfl) d_F_combined_48 ⟨Nat.zero_le _, Nat.zero_le _⟩ (fun H locs hw => ?_)
    have hO2 : z_Ok (z_s_ca (z_s_au σ (z_g1 x y 0)) (z_g2 x y 0)) := z_ok_ca (z_ok_au hO (z_g1_lt _ _ _)) (z_g2_lt _ _ _)
    refine lv_istore (lv' := [(4, .int (nI ((x + y + 0) % 256))), (0, .ref a.2.2.1), (1, .int (nI k)), (2, .int (nI x)), (3, .int (nI y))]) K.1 K.2.1 d_F_combined_51 hl (by decide) rfl (fun ls hl => ?_)
    refine lv_goto K.1 K.2.1 d_F_combined_53 rfl ?_
    refine lv_aload_n K.1 K.2.1 d_F_combined_147 rfl (lv_at hl 1 rfl) ?_
    refine lv_iload K.1 K.2.1 d_F_combined_148 (lv_at hl 0 rfl) ?_
    refine pkv K (c_judge (σ := z_s_ca (z_s_au σ (z_g1 x y 0)) (z_g2 x y 0)) (v := (x + y + 0) % 256) l D cI a hO2 (by omega)) (cw_F_46 K (Nat.le_of_ble_eq_true rfl) (Nat.le_of_ble_eq_true rfl)) hw (va_recv (ci := 2) (q0 := 2) hw.2.2.2.1 hw.1 rfl rfl) rfl hl.1 rfl (Nat.le_of_ble_eq_true rfl) d_F_combined_150 ⟨Nat.zero_le _, Nat.zero_le _⟩ (fun H locs hw => ?_)
    have hO3 : z_Ok (z_jd (z_s_ca (z_s_au σ (z_g1 x y 0)) (z_g2 x y 0)) ((x + y + 0) % 256)) := z_ok_jd hO2 (by omega)
    refine lv_iload_n K.1 K.2.1 d_F_combined_153 rfl (lv_at hl 2 rfl) ?_
    refine nv_bipush (v := 7) K d_F_combined_154 (by decide) ?_
    refine nf_icmp_ne (u := (x + y + 0) % 256) (v := x) (Y := 165) K (by omega) (by omega) d_F_combined_156 rfl (fun _ k => lv_iload K.1 K.2.1 d_F_combined_163 (lv_at hl 0 rfl) k) (fun _ k => lv_iload_n K.1 K.2.1 d_F_combined_159 rfl (lv_at hl 3 rfl) (lv_goto K.1 K.2.1 d_F_combined_160 rfl k)) ?_
    exact pri K hr hlk hw (by first | (rw [h1]; rfl) | (subst h1; rfl) | (subst h1; rw [nz_a8 hx hy]; rfl)) (by first | (rw [h1]; rfl) | (subst h1; rfl)) d_F_combined_165
  · refine nv_as K (congrArg nI h1) ?_
    refine nv_tabIn (a := 1) (tgt := 56) K d_F_combined_1 (by decide) (by decide) (by decide) rfl rfl ?_
    refine lv_aload_n K.1 K.2.1 d_F_combined_56 rfl (lv_at hl 0 rfl) ?_
    refine lv_iload_n K.1 K.2.1 d_F_combined_57 rfl (lv_at hl 2 rfl) ?_
    refine lv_iload_n K.1 K.2.1 d_F_combined_58 rfl (lv_at hl 3 rfl) ?_
    refine lv_aload_n K.1 K.2.1 d_F_combined_59 rfl (lv_at hl 0 rfl) ?_
    refine pki K (c_carryBit (σ := σ) l D cI a hO) (cw_F_35 K (Nat.le_of_ble_eq_true rfl) (Nat.le_of_ble_eq_true rfl)) hw (va_recv (ci := 2) (q0 := 2) hw.2.2.2.1 hw.1 rfl rfl) rfl hl.1 rfl (Nat.le_of_ble_eq_true rfl) d_F_combined_60 ⟨Nat.zero_le _, Nat.zero_le _⟩ (fun H locs hw => ?_)
    have hb4 : z_x_ca σ < 2 := z_k_ca hO
    refine pki K (c_sum (σ := σ) (x := x) (y := y) (z := z_x_ca σ) l D cI a hO (by omega) (by omega) (by omega)) (cw_F_31 K (Nat.le_of_ble_eq_true rfl) (Nat.le_of_ble_eq_true rfl)) hw (va_recv (ci := 2) (q0 := 2) hw.2.2.2.1 hw.1 rfl rfl) rfl hl.1 rfl (Nat.le_of_ble_eq_true rfl) d_F_combined_63 ⟨Nat.zero_le _, Nat.zero_le _⟩ (fun H locs hw => ?_)
    have hO5 : z_Ok (z_s_ca (z_s_au σ (z_g1 x y (z_x_ca σ))) (z_g2 x y (z_x_ca σ))) := z_ok_ca (z_ok_au hO (z_g1_lt _ _ _)) (z_g2_lt _ _ _)
    refine lv_istore (lv' := [(4, .int (nI ((x + y + (z_x_ca σ)) % 256))), (0, .ref a.2.2.1), (1, .int (nI k)), (2, .int (nI x)), (3, .int (nI y))]) K.1 K.2.1 d_F_combined_66 hl (by decide) rfl (fun ls hl => ?_)
    refine lv_goto K.1 K.2.1 d_F_combined_68 rfl ?_
    refine lv_aload_n K.1 K.2.1 d_F_combined_147 rfl (lv_at hl 1 rfl) ?_
    refine lv_iload K.1 K.2.1 d_F_combined_148 (lv_at hl 0 rfl) ?_
    refine pkv K (c_judge (σ := z_s_ca (z_s_au σ (z_g1 x y (z_x_ca σ))) (z_g2 x y (z_x_ca σ))) (v := (x + y + (z_x_ca σ)) % 256) l D cI a hO5 (by omega)) (cw_F_46 K (Nat.le_of_ble_eq_true rfl) (Nat.le_of_ble_eq_true rfl)) hw (va_recv (ci := 2) (q0 := 2) hw.2.2.2.1 hw.1 rfl rfl) rfl hl.1 rfl (Nat.le_of_ble_eq_true rfl) d_F_combined_150 ⟨Nat.zero_le _, Nat.zero_le _⟩ (fun H locs hw => ?_)
    have hO6 : z_Ok (z_jd (z_s_ca (z_s_au σ (z_g1 x y (z_x_ca σ))) (z_g2 x y (z_x_ca σ))) ((x + y + (z_x_ca σ)) % 256)) := z_ok_jd hO5 (by omega)
    refine lv_iload_n K.1 K.2.1 d_F_combined_153 rfl (lv_at hl 2 rfl) ?_
    refine nv_bipush (v := 7) K d_F_combined_154 (by decide) ?_
    refine nf_icmp_ne (u := (x + y + (z_x_ca σ)) % 256) (v := x) (Y := 165) K (by omega) (by omega) d_F_combined_156 rfl (fun _ k => lv_iload K.1 K.2.1 d_F_combined_163 (lv_at hl 0 rfl) k) (fun _ k => lv_iload_n K.1 K.2.1 d_F_combined_159 rfl (lv_at hl 3 rfl) (lv_goto K.1 K.2.1 d_F_combined_160 rfl k)) ?_
    exact pri K hr hlk hw (by first | (rw [h1]; rfl) | (subst h1; rfl) | (subst h1; rw [nz_a8 hx hy]; rfl)) (by first | (rw [h1]; rfl) | (subst h1; rfl)) d_F_combined_165
  · refine nv_as K (congrArg nI h1) ?_
    refine nv_tabIn (a := 2) (tgt := 138) K d_F_combined_1 (by decide) (by decide) (by decide) rfl rfl ?_
    refine lv_aload_n K.1 K.2.1 d_F_combined_138 rfl (lv_at hl 0 rfl) ?_
    refine lv_iload_n K.1 K.2.1 d_F_combined_139 rfl (lv_at hl 2 rfl) ?_
    refine lv_iload_n K.1 K.2.1 d_F_combined_140 rfl (lv_at hl 3 rfl) ?_
    refine nv_iconst (v := 0) K d_F_combined_141 (by decide) ?_
    refine pki K (c_difference (σ := σ) (x := x) (y := y) (z := 0) l D cI a hO (by omega) (by omega) (by omega)) (cw_F_39 K (Nat.le_of_ble_eq_true rfl) (Nat.le_of_ble_eq_true rfl)) hw (va_recv (ci := 2) (q0 := 2) hw.2.2.2.1 hw.1 rfl rfl) rfl hl.1 rfl (Nat.le_of_ble_eq_true rfl) d_F_combined_142 ⟨Nat.zero_le _, Nat.zero_le _⟩ (fun H locs hw => ?_)
    have hO7 : z_Ok (z_s_ca (z_s_au σ (z_g1 x (255 - y) (1 - 0))) (1 - z_g2 x (255 - y) (1 - 0))) := z_ok_ca (z_ok_au hO (z_g1_lt _ _ _)) (by omega)
    refine lv_istore (lv' := [(4, .int (nI ((x + (255 - y) + (1 - 0)) % 256))), (0, .ref a.2.2.1), (1, .int (nI k)), (2, .int (nI x)), (3, .int (nI y))]) K.1 K.2.1 d_F_combined_145 hl (by decide) rfl (fun ls hl => ?_)
    refine lv_aload_n K.1 K.2.1 d_F_combined_147 rfl (lv_at hl 1 rfl) ?_
    refine lv_iload K.1 K.2.1 d_F_combined_148 (lv_at hl 0 rfl) ?_
    refine pkv K (c_judge (σ := z_s_ca (z_s_au σ (z_g1 x (255 - y) (1 - 0))) (1 - z_g2 x (255 - y) (1 - 0))) (v := (x + (255 - y) + (1 - 0)) % 256) l D cI a hO7 (by omega)) (cw_F_46 K (Nat.le_of_ble_eq_true rfl) (Nat.le_of_ble_eq_true rfl)) hw (va_recv (ci := 2) (q0 := 2) hw.2.2.2.1 hw.1 rfl rfl) rfl hl.1 rfl (Nat.le_of_ble_eq_true rfl) d_F_combined_150 ⟨Nat.zero_le _, Nat.zero_le _⟩ (fun H locs hw => ?_)
    have hO8 : z_Ok (z_jd (z_s_ca (z_s_au σ (z_g1 x (255 - y) (1 - 0))) (1 - z_g2 x (255 - y) (1 - 0))) ((x + (255 - y) + (1 - 0)) % 256)) := z_ok_jd hO7 (by omega)
    refine lv_iload_n K.1 K.2.1 d_F_combined_153 rfl (lv_at hl 2 rfl) ?_
    refine nv_bipush (v := 7) K d_F_combined_154 (by decide) ?_
    refine nf_icmp_ne (u := (x + (255 - y) + (1 - 0)) % 256) (v := x) (Y := 165) K (by omega) (by omega) d_F_combined_156 rfl (fun _ k => lv_iload K.1 K.2.1 d_F_combined_163 (lv_at hl 0 rfl) k) (fun _ k => lv_iload_n K.1 K.2.1 d_F_combined_159 rfl (lv_at hl 3 rfl) (lv_goto K.1 K.2.1 d_F_combined_160 rfl k)) ?_
    exact pri K hr hlk hw (by first | (rw [h1]; rfl) | (subst h1; rfl) | (subst h1; rw [nz_a8 hx hy]; rfl)) (by first | (rw [h1]; rfl) | (subst h1; rfl)) d_F_combined_165
  · refine nv_as K (congrArg nI h1) ?_
    refine nv_tabIn (a := 3) (tgt := 71) K d_F_combined_1 (by decide) (by decide) (by decide) rfl rfl ?_
    refine lv_aload_n K.1 K.2.1 d_F_combined_71 rfl (lv_at hl 0 rfl) ?_
    refine lv_iload_n K.1 K.2.1 d_F_combined_72 rfl (lv_at hl 2 rfl) ?_
    refine lv_iload_n K.1 K.2.1 d_F_combined_73 rfl (lv_at hl 3 rfl) ?_
    refine lv_aload_n K.1 K.2.1 d_F_combined_74 rfl (lv_at hl 0 rfl) ?_
    refine pki K (c_carryBit (σ := σ) l D cI a hO) (cw_F_35 K (Nat.le_of_ble_eq_true rfl) (Nat.le_of_ble_eq_true rfl)) hw (va_recv (ci := 2) (q0 := 2) hw.2.2.2.1 hw.1 rfl rfl) rfl hl.1 rfl (Nat.le_of_ble_eq_true rfl) d_F_combined_75 ⟨Nat.zero_le _, Nat.zero_le _⟩ (fun H locs hw => ?_)
    have hb9 : z_x_ca σ < 2 := z_k_ca hO
    refine pki K (c_difference (σ := σ) (x := x) (y := y) (z := z_x_ca σ) l D cI a hO (by omega) (by omega) (by omega)) (cw_F_39 K (Nat.le_of_ble_eq_true rfl) (Nat.le_of_ble_eq_true rfl)) hw (va_recv (ci := 2) (q0 := 2) hw.2.2.2.1 hw.1 rfl rfl) rfl hl.1 rfl (Nat.le_of_ble_eq_true rfl) d_F_combined_78 ⟨Nat.zero_le _, Nat.zero_le _⟩ (fun H locs hw => ?_)
    have hO10 : z_Ok (z_s_ca (z_s_au σ (z_g1 x (255 - y) (1 - (z_x_ca σ)))) (1 - z_g2 x (255 - y) (1 - (z_x_ca σ)))) := z_ok_ca (z_ok_au hO (z_g1_lt _ _ _)) (by omega)
    refine lv_istore (lv' := [(4, .int (nI ((x + (255 - y) + (1 - (z_x_ca σ))) % 256))), (0, .ref a.2.2.1), (1, .int (nI k)), (2, .int (nI x)), (3, .int (nI y))]) K.1 K.2.1 d_F_combined_81 hl (by decide) rfl (fun ls hl => ?_)
    refine lv_goto K.1 K.2.1 d_F_combined_83 rfl ?_
    refine lv_aload_n K.1 K.2.1 d_F_combined_147 rfl (lv_at hl 1 rfl) ?_
    refine lv_iload K.1 K.2.1 d_F_combined_148 (lv_at hl 0 rfl) ?_
    refine pkv K (c_judge (σ := z_s_ca (z_s_au σ (z_g1 x (255 - y) (1 - (z_x_ca σ)))) (1 - z_g2 x (255 - y) (1 - (z_x_ca σ)))) (v := (x + (255 - y) + (1 - (z_x_ca σ))) % 256) l D cI a hO10 (by omega)) (cw_F_46 K (Nat.le_of_ble_eq_true rfl) (Nat.le_of_ble_eq_true rfl)) hw (va_recv (ci := 2) (q0 := 2) hw.2.2.2.1 hw.1 rfl rfl) rfl hl.1 rfl (Nat.le_of_ble_eq_true rfl) d_F_combined_150 ⟨Nat.zero_le _, Nat.zero_le _⟩ (fun H locs hw => ?_)
    have hO11 : z_Ok (z_jd (z_s_ca (z_s_au σ (z_g1 x (255 - y) (1 - (z_x_ca σ)))) (1 - z_g2 x (255 - y) (1 - (z_x_ca σ)))) ((x + (255 - y) + (1 - (z_x_ca σ))) % 256)) := z_ok_jd hO10 (by omega)
    refine lv_iload_n K.1 K.2.1 d_F_combined_153 rfl (lv_at hl 2 rfl) ?_
    refine nv_bipush (v := 7) K d_F_combined_154 (by decide) ?_
    refine nf_icmp_ne (u := (x + (255 - y) + (1 - (z_x_ca σ))) % 256) (v := x) (Y := 165) K (by omega) (by omega) d_F_combined_156 rfl (fun _ k => lv_iload K.1 K.2.1 d_F_combined_163 (lv_at hl 0 rfl) k) (fun _ k => lv_iload_n K.1 K.2.1 d_F_combined_159 rfl (lv_at hl 3 rfl) (lv_goto K.1 K.2.1 d_F_combined_160 rfl k)) ?_
    exact pri K hr hlk hw (by first | (rw [h1]; rfl) | (subst h1; rfl) | (subst h1; rw [nz_a8 hx hy]; rfl)) (by first | (rw [h1]; rfl) | (subst h1; rfl)) d_F_combined_165
  · refine nv_as K (congrArg nI h1) ?_
    refine nv_tabIn (a := 4) (tgt := 86) K d_F_combined_1 (by decide) (by decide) (by decide) rfl rfl ?_
    refine lv_aload_n K.1 K.2.1 d_F_combined_86 rfl (lv_at hl 0 rfl) ?_
    refine lv_iload_n K.1 K.2.1 d_F_combined_87 rfl (lv_at hl 2 rfl) ?_
    refine lv_iload_n K.1 K.2.1 d_F_combined_88 rfl (lv_at hl 3 rfl) ?_
    refine nv_iand K d_F_combined_89 ?_
    refine lv_iload_n K.1 K.2.1 d_F_combined_90 rfl (lv_at hl 2 rfl) ?_
    refine lv_iload_n K.1 K.2.1 d_F_combined_91 rfl (lv_at hl 3 rfl) ?_
    refine nv_ior K d_F_combined_92 ?_
    refine nv_bipush (v := 8) K d_F_combined_93 (by decide) ?_
    refine nv_iand K d_F_combined_95 ?_
    refine nf_if_eq (u := 0) (v := 1) (Y := 104) K (by omega) d_F_combined_96 rfl (fun _ k => nv_iconst (v := 0) K d_F_combined_103 (by decide) k) (fun _ k => nv_iconst (v := 1) K d_F_combined_99 (by decide) (lv_goto K.1 K.2.1 d_F_combined_100 rfl k)) ?_
    have hb12 : (if ((x ||| y) &&& 8) = 0 then 0 else 1) < 2 := z_ite_ltB _ (by omega) (by omega)
    refine pki K (c_logical (σ := σ) (x := x &&& y) (z := (if ((x ||| y) &&& 8) = 0 then 0 else 1)) l D cI a hO (by omega) (by omega)) (cw_F_42 K (Nat.le_of_ble_eq_true rfl) (Nat.le_of_ble_eq_true rfl)) hw (va_recv (ci := 2) (q0 := 2) hw.2.2.2.1 hw.1 rfl rfl) rfl hl.1 rfl (Nat.le_of_ble_eq_true rfl) d_F_combined_104 ⟨Nat.zero_le _, Nat.zero_le _⟩ (fun H locs hw => ?_)
    have hO13 : z_Ok (z_s_ca (z_s_au σ (if ((x ||| y) &&& 8) = 0 then 0 else 1)) 0) := z_ok_ca (z_ok_au hO (by omega)) (by omega)
    refine lv_istore (lv' := [(4, .int (nI (x &&& y))), (0, .ref a.2.2.1), (1, .int (nI k)), (2, .int (nI x)), (3, .int (nI y))]) K.1 K.2.1 d_F_combined_107 hl (by decide) rfl (fun ls hl => ?_)
    refine lv_goto K.1 K.2.1 d_F_combined_109 rfl ?_
    refine lv_aload_n K.1 K.2.1 d_F_combined_147 rfl (lv_at hl 1 rfl) ?_
    refine lv_iload K.1 K.2.1 d_F_combined_148 (lv_at hl 0 rfl) ?_
    refine pkv K (c_judge (σ := z_s_ca (z_s_au σ (if ((x ||| y) &&& 8) = 0 then 0 else 1)) 0) (v := (x &&& y)) l D cI a hO13 (by omega)) (cw_F_46 K (Nat.le_of_ble_eq_true rfl) (Nat.le_of_ble_eq_true rfl)) hw (va_recv (ci := 2) (q0 := 2) hw.2.2.2.1 hw.1 rfl rfl) rfl hl.1 rfl (Nat.le_of_ble_eq_true rfl) d_F_combined_150 ⟨Nat.zero_le _, Nat.zero_le _⟩ (fun H locs hw => ?_)
    have hO14 : z_Ok (z_jd (z_s_ca (z_s_au σ (if ((x ||| y) &&& 8) = 0 then 0 else 1)) 0) (x &&& y)) := z_ok_jd hO13 (by omega)
    refine lv_iload_n K.1 K.2.1 d_F_combined_153 rfl (lv_at hl 2 rfl) ?_
    refine nv_bipush (v := 7) K d_F_combined_154 (by decide) ?_
    refine nf_icmp_ne (u := (x &&& y)) (v := x) (Y := 165) K (by omega) (by omega) d_F_combined_156 rfl (fun _ k => lv_iload K.1 K.2.1 d_F_combined_163 (lv_at hl 0 rfl) k) (fun _ k => lv_iload_n K.1 K.2.1 d_F_combined_159 rfl (lv_at hl 3 rfl) (lv_goto K.1 K.2.1 d_F_combined_160 rfl k)) ?_
    exact pri K hr hlk hw (by first | (rw [h1]; rfl) | (subst h1; rfl) | (subst h1; rw [nz_a8 hx hy]; rfl)) (by first | (rw [h1]; rfl) | (subst h1; rfl)) d_F_combined_165
  · refine nv_as K (congrArg nI h1) ?_
    refine nv_tabIn (a := 5) (tgt := 112) K d_F_combined_1 (by decide) (by decide) (by decide) rfl rfl ?_
    refine lv_aload_n K.1 K.2.1 d_F_combined_112 rfl (lv_at hl 0 rfl) ?_
    refine lv_iload_n K.1 K.2.1 d_F_combined_113 rfl (lv_at hl 2 rfl) ?_
    refine lv_iload_n K.1 K.2.1 d_F_combined_114 rfl (lv_at hl 3 rfl) ?_
    refine nv_ixor K d_F_combined_115 ?_
    refine nv_iconst (v := 0) K d_F_combined_116 (by decide) ?_
    refine pki K (c_logical (σ := σ) (x := x ^^^ y) (z := 0) l D cI a hO (by omega) (by omega)) (cw_F_42 K (Nat.le_of_ble_eq_true rfl) (Nat.le_of_ble_eq_true rfl)) hw (va_recv (ci := 2) (q0 := 2) hw.2.2.2.1 hw.1 rfl rfl) rfl hl.1 rfl (Nat.le_of_ble_eq_true rfl) d_F_combined_117 ⟨Nat.zero_le _, Nat.zero_le _⟩ (fun H locs hw => ?_)
    have hO15 : z_Ok (z_s_ca (z_s_au σ 0) 0) := z_ok_ca (z_ok_au hO (by omega)) (by omega)
    refine lv_istore (lv' := [(4, .int (nI (x ^^^ y))), (0, .ref a.2.2.1), (1, .int (nI k)), (2, .int (nI x)), (3, .int (nI y))]) K.1 K.2.1 d_F_combined_120 hl (by decide) rfl (fun ls hl => ?_)
    refine lv_goto K.1 K.2.1 d_F_combined_122 rfl ?_
    refine lv_aload_n K.1 K.2.1 d_F_combined_147 rfl (lv_at hl 1 rfl) ?_
    refine lv_iload K.1 K.2.1 d_F_combined_148 (lv_at hl 0 rfl) ?_
    refine pkv K (c_judge (σ := z_s_ca (z_s_au σ 0) 0) (v := (x ^^^ y)) l D cI a hO15 (by omega)) (cw_F_46 K (Nat.le_of_ble_eq_true rfl) (Nat.le_of_ble_eq_true rfl)) hw (va_recv (ci := 2) (q0 := 2) hw.2.2.2.1 hw.1 rfl rfl) rfl hl.1 rfl (Nat.le_of_ble_eq_true rfl) d_F_combined_150 ⟨Nat.zero_le _, Nat.zero_le _⟩ (fun H locs hw => ?_)
    have hO16 : z_Ok (z_jd (z_s_ca (z_s_au σ 0) 0) (x ^^^ y)) := z_ok_jd hO15 (by omega)
    refine lv_iload_n K.1 K.2.1 d_F_combined_153 rfl (lv_at hl 2 rfl) ?_
    refine nv_bipush (v := 7) K d_F_combined_154 (by decide) ?_
    refine nf_icmp_ne (u := (x ^^^ y)) (v := x) (Y := 165) K (by omega) (by omega) d_F_combined_156 rfl (fun _ k => lv_iload K.1 K.2.1 d_F_combined_163 (lv_at hl 0 rfl) k) (fun _ k => lv_iload_n K.1 K.2.1 d_F_combined_159 rfl (lv_at hl 3 rfl) (lv_goto K.1 K.2.1 d_F_combined_160 rfl k)) ?_
    exact pri K hr hlk hw (by first | (rw [h1]; rfl) | (subst h1; rfl) | (subst h1; rw [nz_a8 hx hy]; rfl)) (by first | (rw [h1]; rfl) | (subst h1; rfl)) d_F_combined_165
  · refine nv_as K (congrArg nI h1) ?_
    refine nv_tabIn (a := 6) (tgt := 125) K d_F_combined_1 (by decide) (by decide) (by decide) rfl rfl ?_
    refine lv_aload_n K.1 K.2.1 d_F_combined_125 rfl (lv_at hl 0 rfl) ?_
    refine lv_iload_n K.1 K.2.1 d_F_combined_126 rfl (lv_at hl 2 rfl) ?_
    refine lv_iload_n K.1 K.2.1 d_F_combined_127 rfl (lv_at hl 3 rfl) ?_
    refine nv_ior K d_F_combined_128 ?_
    refine nv_iconst (v := 0) K d_F_combined_129 (by decide) ?_
    refine pki K (c_logical (σ := σ) (x := x ||| y) (z := 0) l D cI a hO (by omega) (by omega)) (cw_F_42 K (Nat.le_of_ble_eq_true rfl) (Nat.le_of_ble_eq_true rfl)) hw (va_recv (ci := 2) (q0 := 2) hw.2.2.2.1 hw.1 rfl rfl) rfl hl.1 rfl (Nat.le_of_ble_eq_true rfl) d_F_combined_130 ⟨Nat.zero_le _, Nat.zero_le _⟩ (fun H locs hw => ?_)
    have hO17 : z_Ok (z_s_ca (z_s_au σ 0) 0) := z_ok_ca (z_ok_au hO (by omega)) (by omega)
    refine lv_istore (lv' := [(4, .int (nI (x ||| y))), (0, .ref a.2.2.1), (1, .int (nI k)), (2, .int (nI x)), (3, .int (nI y))]) K.1 K.2.1 d_F_combined_133 hl (by decide) rfl (fun ls hl => ?_)
    refine lv_goto K.1 K.2.1 d_F_combined_135 rfl ?_
    refine lv_aload_n K.1 K.2.1 d_F_combined_147 rfl (lv_at hl 1 rfl) ?_
    refine lv_iload K.1 K.2.1 d_F_combined_148 (lv_at hl 0 rfl) ?_
    refine pkv K (c_judge (σ := z_s_ca (z_s_au σ 0) 0) (v := (x ||| y)) l D cI a hO17 (by omega)) (cw_F_46 K (Nat.le_of_ble_eq_true rfl) (Nat.le_of_ble_eq_true rfl)) hw (va_recv (ci := 2) (q0 := 2) hw.2.2.2.1 hw.1 rfl rfl) rfl hl.1 rfl (Nat.le_of_ble_eq_true rfl) d_F_combined_150 ⟨Nat.zero_le _, Nat.zero_le _⟩ (fun H locs hw => ?_)
    have hO18 : z_Ok (z_jd (z_s_ca (z_s_au σ 0) 0) (x ||| y)) := z_ok_jd hO17 (by omega)
    refine lv_iload_n K.1 K.2.1 d_F_combined_153 rfl (lv_at hl 2 rfl) ?_
    refine nv_bipush (v := 7) K d_F_combined_154 (by decide) ?_
    refine nf_icmp_ne (u := (x ||| y)) (v := x) (Y := 165) K (by omega) (by omega) d_F_combined_156 rfl (fun _ k => lv_iload K.1 K.2.1 d_F_combined_163 (lv_at hl 0 rfl) k) (fun _ k => lv_iload_n K.1 K.2.1 d_F_combined_159 rfl (lv_at hl 3 rfl) (lv_goto K.1 K.2.1 d_F_combined_160 rfl k)) ?_
    exact pri K hr hlk hw (by first | (rw [h1]; rfl) | (subst h1; rfl) | (subst h1; rw [nz_a8 hx hy]; rfl)) (by first | (rw [h1]; rfl) | (subst h1; rfl)) d_F_combined_165
  · refine nv_as K (congrArg nI h1) ?_
    refine nv_tabOut (a := 7) (tgt := 138) K d_F_combined_1 (by decide) (by decide) rfl ?_
    refine lv_aload_n K.1 K.2.1 d_F_combined_138 rfl (lv_at hl 0 rfl) ?_
    refine lv_iload_n K.1 K.2.1 d_F_combined_139 rfl (lv_at hl 2 rfl) ?_
    refine lv_iload_n K.1 K.2.1 d_F_combined_140 rfl (lv_at hl 3 rfl) ?_
    refine nv_iconst (v := 0) K d_F_combined_141 (by decide) ?_
    refine pki K (c_difference (σ := σ) (x := x) (y := y) (z := 0) l D cI a hO (by omega) (by omega) (by omega)) (cw_F_39 K (Nat.le_of_ble_eq_true rfl) (Nat.le_of_ble_eq_true rfl)) hw (va_recv (ci := 2) (q0 := 2) hw.2.2.2.1 hw.1 rfl rfl) rfl hl.1 rfl (Nat.le_of_ble_eq_true rfl) d_F_combined_142 ⟨Nat.zero_le _, Nat.zero_le _⟩ (fun H locs hw => ?_)
    have hO19 : z_Ok (z_s_ca (z_s_au σ (z_g1 x (255 - y) (1 - 0))) (1 - z_g2 x (255 - y) (1 - 0))) := z_ok_ca (z_ok_au hO (z_g1_lt _ _ _)) (by omega)
    refine lv_istore (lv' := [(4, .int (nI ((x + (255 - y) + (1 - 0)) % 256))), (0, .ref a.2.2.1), (1, .int (nI k)), (2, .int (nI x)), (3, .int (nI y))]) K.1 K.2.1 d_F_combined_145 hl (by decide) rfl (fun ls hl => ?_)
    refine lv_aload_n K.1 K.2.1 d_F_combined_147 rfl (lv_at hl 1 rfl) ?_
    refine lv_iload K.1 K.2.1 d_F_combined_148 (lv_at hl 0 rfl) ?_
    refine pkv K (c_judge (σ := z_s_ca (z_s_au σ (z_g1 x (255 - y) (1 - 0))) (1 - z_g2 x (255 - y) (1 - 0))) (v := (x + (255 - y) + (1 - 0)) % 256) l D cI a hO19 (by omega)) (cw_F_46 K (Nat.le_of_ble_eq_true rfl) (Nat.le_of_ble_eq_true rfl)) hw (va_recv (ci := 2) (q0 := 2) hw.2.2.2.1 hw.1 rfl rfl) rfl hl.1 rfl (Nat.le_of_ble_eq_true rfl) d_F_combined_150 ⟨Nat.zero_le _, Nat.zero_le _⟩ (fun H locs hw => ?_)
    have hO20 : z_Ok (z_jd (z_s_ca (z_s_au σ (z_g1 x (255 - y) (1 - 0))) (1 - z_g2 x (255 - y) (1 - 0))) ((x + (255 - y) + (1 - 0)) % 256)) := z_ok_jd hO19 (by omega)
    refine lv_iload_n K.1 K.2.1 d_F_combined_153 rfl (lv_at hl 2 rfl) ?_
    refine nv_bipush (v := 7) K d_F_combined_154 (by decide) ?_
    refine nf_icmp_ne (u := (x + (255 - y) + (1 - 0)) % 256) (v := x) (Y := 165) K (by omega) (by omega) d_F_combined_156 rfl (fun _ k => lv_iload K.1 K.2.1 d_F_combined_163 (lv_at hl 0 rfl) k) (fun _ k => lv_iload_n K.1 K.2.1 d_F_combined_159 rfl (lv_at hl 3 rfl) (lv_goto K.1 K.2.1 d_F_combined_160 rfl k)) ?_
    exact pri K hr hlk hw (by first | (rw [h1]; rfl) | (subst h1; rfl) | (subst h1; rw [nz_a8 hx hy]; rfl)) (by first | (rw [h1]; rfl) | (subst h1; rfl)) d_F_combined_165
set_option maxHeartbeats 4000000 in
set_option maxRecDepth 100000 in
theorem c_raised {σ : z_St} {v : Nat} (l : Launch) (D : va_G) (cI : ClassId) (a : pAd) (hO : z_Ok σ) (hv : v < 256) : pCi l y_F_raised w_F_raised 2 41 D cI a [.ref a.2.2.1, .int (nI v)] σ (z_up σ v) (nI ((v + 1) % 256)) := by
  refine pci_of (cc := b_F_raised) (maxL := 3) (ret := (some .int)) (by decide) rfl (Nat.le_of_ble_eq_true rfl) ?_
  intro p e s m below meth c ls K hr hlk hl hw
  have K : CallFix p m c b_F_raised 3 s _ (_ :: T0) "PortProcessor$Flags" := K
  have hl : lv_has ls 3 [(0, .ref a.2.2.1), (1, .int (nI v))] := hl
  refine lv_iload_n K.1 K.2.1 d_F_raised_0 rfl (lv_at hl 1 rfl) ?_
  refine nv_iconst (v := 1) K d_F_raised_1 (by decide) ?_
  refine nv_iadd K d_F_raised_2 ?_
  refine nv_sipush (v := 255) K d_F_raised_3 (by decide) ?_
  refine nv_mask (M := 256) K 8 rfl rfl d_F_raised_6 ?_
  refine lv_istore_n (lv' := [(2, .int (nI ((v + 1) % 256))), (0, .ref a.2.2.1), (1, .int (nI v))]) K.1 K.2.1 d_F_raised_7 rfl hl (by decide) rfl (fun ls hl => ?_)
  refine lv_aload_n K.1 K.2.1 d_F_raised_8 rfl (lv_at hl 1 rfl) ?_
  refine lv_iload_n K.1 K.2.1 d_F_raised_9 rfl (lv_at hl 0 rfl) ?_
  refine nv_bipush (v := 15) K d_F_raised_10 (by decide) ?_
  refine nv_mask (M := 16) K 4 rfl rfl d_F_raised_12 ?_
  refine nf_if_ne (u := 0) (v := 1) (Y := 21) K (by omega) d_F_raised_13 rfl (fun _ k => nv_iconst (v := 0) K d_F_raised_20 (by decide) k) (fun _ k => nv_iconst (v := 1) K d_F_raised_16 (by decide) (lv_goto K.1 K.2.1 d_F_raised_17 rfl k)) ?_
  have hb1 : (if (((v + 1) % 256) % 16) = 0 then 1 else 0) < 2 := z_ite_ltB _ (by omega) (by omega)
  refine pp_F_auxiliary (v := (if (((v + 1) % 256) % 16) = 0 then 1 else 0)) K hw (by omega) d_F_raised_21 (fun H locs hw => ?_)
  have hO2 : z_Ok (z_s_au σ (if (((v + 1) % 256) % 16) = 0 then 1 else 0)) := z_ok_au hO (by omega)
  refine lv_aload_n K.1 K.2.1 d_F_raised_24 rfl (lv_at hl 1 rfl) ?_
  refine lv_iload_n K.1 K.2.1 d_F_raised_25 rfl (lv_at hl 0 rfl) ?_
  refine pkv K (c_judge (σ := z_s_au σ (if (((v + 1) % 256) % 16) = 0 then 1 else 0)) (v := (v + 1) % 256) l D cI a hO2 (by omega)) (cw_F_46 K (Nat.le_of_ble_eq_true rfl) (Nat.le_of_ble_eq_true rfl)) hw (va_recv (ci := 2) (q0 := 2) hw.2.2.2.1 hw.1 rfl rfl) rfl hl.1 rfl (Nat.le_of_ble_eq_true rfl) d_F_raised_26 ⟨Nat.zero_le _, Nat.zero_le _⟩ (fun H locs hw => ?_)
  have hO3 : z_Ok (z_jd (z_s_au σ (if (((v + 1) % 256) % 16) = 0 then 1 else 0)) ((v + 1) % 256)) := z_ok_jd hO2 (by omega)
  refine lv_iload_n K.1 K.2.1 d_F_raised_29 rfl (lv_at hl 0 rfl) ?_
  exact pri K hr hlk hw (by first | rfl | (simp; done) | (skip; rfl)) (by first | rfl | (simp; done) | (congr 1; omega) | (simp; omega)) d_F_raised_30
set_option maxHeartbeats 4000000 in
set_option maxRecDepth 100000 in
theorem c_lowered {σ : z_St} {v : Nat} (l : Launch) (D : va_G) (cI : ClassId) (a : pAd) (hO : z_Ok σ) (hv : v < 256) : pCi l y_F_lowered w_F_lowered 2 41 D cI a [.ref a.2.2.1, .int (nI v)] σ (z_dn σ v) (nI ((v + 255) % 256)) := by
  refine pci_of (cc := b_F_lowered) (maxL := 3) (ret := (some .int)) (by decide) rfl (Nat.le_of_ble_eq_true rfl) ?_
  intro p e s m below meth c ls K hr hlk hl hw
  have K : CallFix p m c b_F_lowered 3 s _ (_ :: T0) "PortProcessor$Flags" := K
  have hl : lv_has ls 3 [(0, .ref a.2.2.1), (1, .int (nI v))] := hl
  refine lv_iload_n K.1 K.2.1 d_F_lowered_0 rfl (lv_at hl 1 rfl) ?_
  refine nv_iconst (v := 1) K d_F_lowered_1 (by decide) ?_
  refine lv_isub K.1 K.2.1 d_F_lowered_2 ?_
  refine nv_sipush (v := 255) K d_F_lowered_3 (by decide) ?_
  refine lv_iand K.1 K.2.1 d_F_lowered_6 (nv_as K (nz_dec8 (by omega)) ?_)
  refine lv_istore_n (lv' := [(2, .int (nI ((v + 255) % 256))), (0, .ref a.2.2.1), (1, .int (nI v))]) K.1 K.2.1 d_F_lowered_7 rfl hl (by decide) rfl (fun ls hl => ?_)
  refine lv_aload_n K.1 K.2.1 d_F_lowered_8 rfl (lv_at hl 1 rfl) ?_
  refine lv_iload_n K.1 K.2.1 d_F_lowered_9 rfl (lv_at hl 0 rfl) ?_
  refine nv_bipush (v := 15) K d_F_lowered_10 (by decide) ?_
  refine nv_mask (M := 16) K 4 rfl rfl d_F_lowered_12 ?_
  refine nv_bipush (v := 15) K d_F_lowered_13 (by decide) ?_
  refine nf_icmp_eq (u := 0) (v := 1) (Y := 23) K (by omega) (by omega) d_F_lowered_15 rfl (fun _ k => nv_iconst (v := 0) K d_F_lowered_22 (by decide) k) (fun _ k => nv_iconst (v := 1) K d_F_lowered_18 (by decide) (lv_goto K.1 K.2.1 d_F_lowered_19 rfl k)) ?_
  have hb1 : (if (((v + 255) % 256) % 16) = 15 then 0 else 1) < 2 := z_ite_ltB _ (by omega) (by omega)
  refine pp_F_auxiliary (v := (if (((v + 255) % 256) % 16) = 15 then 0 else 1)) K hw (by omega) d_F_lowered_23 (fun H locs hw => ?_)
  have hO2 : z_Ok (z_s_au σ (if (((v + 255) % 256) % 16) = 15 then 0 else 1)) := z_ok_au hO (by omega)
  refine lv_aload_n K.1 K.2.1 d_F_lowered_26 rfl (lv_at hl 1 rfl) ?_
  refine lv_iload_n K.1 K.2.1 d_F_lowered_27 rfl (lv_at hl 0 rfl) ?_
  refine pkv K (c_judge (σ := z_s_au σ (if (((v + 255) % 256) % 16) = 15 then 0 else 1)) (v := (v + 255) % 256) l D cI a hO2 (by omega)) (cw_F_46 K (Nat.le_of_ble_eq_true rfl) (Nat.le_of_ble_eq_true rfl)) hw (va_recv (ci := 2) (q0 := 2) hw.2.2.2.1 hw.1 rfl rfl) rfl hl.1 rfl (Nat.le_of_ble_eq_true rfl) d_F_lowered_28 ⟨Nat.zero_le _, Nat.zero_le _⟩ (fun H locs hw => ?_)
  have hO3 : z_Ok (z_jd (z_s_au σ (if (((v + 255) % 256) % 16) = 15 then 0 else 1)) ((v + 255) % 256)) := z_ok_jd hO2 (by omega)
  refine lv_iload_n K.1 K.2.1 d_F_lowered_31 rfl (lv_at hl 0 rfl) ?_
  exact pri K hr hlk hw (by first | rfl | (simp; done) | (skip; rfl)) (by first | rfl | (simp; done) | (congr 1; omega) | (simp; omega)) d_F_lowered_32
set_option maxHeartbeats 4000000 in
set_option maxRecDepth 100000 in
theorem c_turnedLeft {σ : z_St} {v z : Nat} (l : Launch) (D : va_G) (cI : ClassId) (a : pAd) (hO : z_Ok σ) (hv : v < 256) (hz : z < 2) : pCi l y_F_turnedLeft w_F_turnedLeft 0 0 D cI a [.ref a.2.2.1, .int (nI v), .int (nI z)] σ (z_s_ca σ (v / 128)) (nI (v % 128 * 2 + z)) := by
  refine pci_of (cc := b_F_turnedLeft) (maxL := 3) (ret := (some .int)) (by decide) rfl (Nat.le_of_ble_eq_true rfl) ?_
  intro p e s m below meth c ls K hr hlk hl hw
  have K : CallFix p m c b_F_turnedLeft 3 s _ (_ :: T0) "PortProcessor$Flags" := K
  have hl : lv_has ls 3 [(0, .ref a.2.2.1), (1, .int (nI v)), (2, .int (nI z))] := hl
  refine lv_aload_n K.1 K.2.1 d_F_turnedLeft_0 rfl (lv_at hl 0 rfl) ?_
  refine lv_iload_n K.1 K.2.1 d_F_turnedLeft_1 rfl (lv_at hl 1 rfl) ?_
  refine nv_sipush (v := 128) K d_F_turnedLeft_2 (by decide) ?_
  refine nv_iand K d_F_turnedLeft_5 ?_
  refine nf_if_eq (u := 0) (v := 1) (Y := 14) K (by omega) d_F_turnedLeft_6 rfl (fun _ k => nv_iconst (v := 0) K d_F_turnedLeft_13 (by decide) k) (fun _ k => nv_iconst (v := 1) K d_F_turnedLeft_9 (by decide) (lv_goto K.1 K.2.1 d_F_turnedLeft_10 rfl k)) ?_
  have hb1 : (if (v &&& 128) = 0 then 0 else 1) < 2 := z_ite_ltB _ (by omega) (by omega)
  refine pp_F_carry (v := (if (v &&& 128) = 0 then 0 else 1)) K hw (by omega) d_F_turnedLeft_14 (fun H locs hw => ?_)
  have hO2 : z_Ok (z_s_ca σ (if (v &&& 128) = 0 then 0 else 1)) := z_ok_ca hO (by omega)
  refine lv_iload_n K.1 K.2.1 d_F_turnedLeft_17 rfl (lv_at hl 1 rfl) ?_
  refine nv_iconst (v := 1) K d_F_turnedLeft_18 (by decide) ?_
  refine nv_ishl (M := 2) K (by omega) rfl (by omega) d_F_turnedLeft_19 ?_
  refine lv_iload_n K.1 K.2.1 d_F_turnedLeft_20 rfl (lv_at hl 2 rfl) ?_
  refine nv_ior K d_F_turnedLeft_21 ?_
  refine nv_sipush (v := 255) K d_F_turnedLeft_22 (by decide) ?_
  refine nv_mask (M := 256) K 8 rfl rfl d_F_turnedLeft_25 ?_
  exact pri K hr hlk hw (by rw [nz_s128 _ hv]) (congrArg nI (nz_left _ hv _ hz)) d_F_turnedLeft_26
set_option maxHeartbeats 4000000 in
set_option maxRecDepth 100000 in
theorem c_turnedRight {σ : z_St} {v z : Nat} (l : Launch) (D : va_G) (cI : ClassId) (a : pAd) (hO : z_Ok σ) (hv : v < 256) (hz : z < 2) : pCi l y_F_turnedRight w_F_turnedRight 0 0 D cI a [.ref a.2.2.1, .int (nI v), .int (nI z)] σ (z_s_ca σ (v % 2)) (nI (v / 2 + z * 128)) := by
  refine pci_of (cc := b_F_turnedRight) (maxL := 3) (ret := (some .int)) (by decide) rfl (Nat.le_of_ble_eq_true rfl) ?_
  intro p e s m below meth c ls K hr hlk hl hw
  have K : CallFix p m c b_F_turnedRight 3 s _ (_ :: T0) "PortProcessor$Flags" := K
  have hl : lv_has ls 3 [(0, .ref a.2.2.1), (1, .int (nI v)), (2, .int (nI z))] := hl
  refine lv_aload_n K.1 K.2.1 d_F_turnedRight_0 rfl (lv_at hl 0 rfl) ?_
  refine lv_iload_n K.1 K.2.1 d_F_turnedRight_1 rfl (lv_at hl 1 rfl) ?_
  refine nv_iconst (v := 1) K d_F_turnedRight_2 (by decide) ?_
  refine nv_mask (M := 2) K 1 rfl rfl d_F_turnedRight_3 ?_
  refine nf_if_eq (u := 0) (v := 1) (Y := 12) K (by omega) d_F_turnedRight_4 rfl (fun _ k => nv_iconst (v := 0) K d_F_turnedRight_11 (by decide) k) (fun _ k => nv_iconst (v := 1) K d_F_turnedRight_7 (by decide) (lv_goto K.1 K.2.1 d_F_turnedRight_8 rfl k)) ?_
  have hb1 : (if (v % 2) = 0 then 0 else 1) < 2 := z_ite_ltB _ (by omega) (by omega)
  refine pp_F_carry (v := (if (v % 2) = 0 then 0 else 1)) K hw (by omega) d_F_turnedRight_12 (fun H locs hw => ?_)
  have hO2 : z_Ok (z_s_ca σ (if (v % 2) = 0 then 0 else 1)) := z_ok_ca hO (by omega)
  refine lv_iload_n K.1 K.2.1 d_F_turnedRight_15 rfl (lv_at hl 1 rfl) ?_
  refine nv_iconst (v := 1) K d_F_turnedRight_16 (by decide) ?_
  refine nv_ishr (M := 2) K (by omega) rfl (by omega) d_F_turnedRight_17 ?_
  refine lv_iload_n K.1 K.2.1 d_F_turnedRight_18 rfl (lv_at hl 2 rfl) ?_
  refine nv_bipush (v := 7) K d_F_turnedRight_19 (by decide) ?_
  refine nv_ishl (M := 128) K (by omega) rfl (by omega) d_F_turnedRight_21 ?_
  refine nv_ior K d_F_turnedRight_22 ?_
  exact pri K hr hlk hw (by rw [nz_b1 v]) (congrArg nI (nz_right _ hv _ hz)) d_F_turnedRight_23
set_option maxHeartbeats 4000000 in
set_option maxRecDepth 100000 in
theorem c_decimalOf {σ : z_St} {v : Nat} (l : Launch) (D : va_G) (cI : ClassId) (a : pAd) (hO : z_Ok σ) (hv : v < 256) : pCi l y_F_decimalOf w_F_decimalOf 2 41 D cI a [.ref a.2.2.1, .int (nI v)] σ (z_dd σ v) (nI (z_dv σ v)) := by
  refine pci_of (cc := b_F_decimalOf) (maxL := 5) (ret := (some .int)) (by decide) rfl (Nat.le_of_ble_eq_true rfl) ?_
  intro p e s m below meth c ls K hr hlk hl hw
  have K : CallFix p m c b_F_decimalOf 5 s _ (_ :: T0) "PortProcessor$Flags" := K
  have hl : lv_has ls 5 [(0, .ref a.2.2.1), (1, .int (nI v))] := hl
  refine lv_iload_n K.1 K.2.1 d_F_decimalOf_0 rfl (lv_at hl 1 rfl) ?_
  refine nv_bipush (v := 15) K d_F_decimalOf_1 (by decide) ?_
  refine nv_mask (M := 16) K 4 rfl rfl d_F_decimalOf_3 ?_
  refine nv_bipush (v := 9) K d_F_decimalOf_4 (by decide) ?_
  refine nv_icmp_gt K (by omega) (by omega) d_F_decimalOf_6 rfl (fun h1 => ?_) (fun h1 => ?_)
  · refine nv_iconst (v := 1) K d_F_decimalOf_16 (by decide) ?_
    refine lv_goto K.1 K.2.1 d_F_decimalOf_17 rfl ?_
    refine lv_istore_n (lv' := [(2, .int (nI 1)), (0, .ref a.2.2.1), (1, .int (nI v))]) K.1 K.2.1 d_F_decimalOf_21 rfl hl (by decide) rfl (fun ls hl => ?_)
    refine lv_iload_n K.1 K.2.1 d_F_decimalOf_22 rfl (lv_at hl 0 rfl) ?_
    refine nv_if_eq K (by omega) d_F_decimalOf_23 rfl (fun h => (by omega : False).elim) (fun _ => ?_)
    refine lv_iload_n K.1 K.2.1 d_F_decimalOf_26 rfl (lv_at hl 2 rfl) ?_
    refine nv_bipush (v := 6) K d_F_decimalOf_27 (by decide) ?_
    refine nv_iadd K d_F_decimalOf_29 ?_
    refine lv_goto K.1 K.2.1 d_F_decimalOf_30 rfl ?_
    refine lv_istore_n (lv' := [(3, .int (nI (v + 6))), (2, .int (nI 1)), (0, .ref a.2.2.1), (1, .int (nI v))]) K.1 K.2.1 d_F_decimalOf_34 rfl hl (by decide) rfl (fun ls hl => ?_)
    refine lv_aload_n K.1 K.2.1 d_F_decimalOf_35 rfl (lv_at hl 2 rfl) ?_
    refine lv_iload_n K.1 K.2.1 d_F_decimalOf_36 rfl (lv_at hl 1 rfl) ?_
    refine nv_if_eq K (by omega) d_F_decimalOf_37 rfl (fun h => (by omega : False).elim) (fun _ => ?_)
    refine lv_iload_n K.1 K.2.1 d_F_decimalOf_40 rfl (lv_at hl 3 rfl) ?_
    refine nv_bipush (v := 15) K d_F_decimalOf_41 (by decide) ?_
    refine nv_mask (M := 16) K 4 rfl rfl d_F_decimalOf_43 ?_
    refine nv_bipush (v := 6) K d_F_decimalOf_44 (by decide) ?_
    refine nv_iadd K d_F_decimalOf_46 ?_
    refine nv_bipush (v := 15) K d_F_decimalOf_47 (by decide) ?_
    refine nf_icmp_le (u := 0) (v := 1) (Y := 57) K (by omega) (by omega) d_F_decimalOf_49 rfl (fun _ k => nv_iconst (v := 0) K d_F_decimalOf_56 (by decide) k) (fun _ k => nv_iconst (v := 1) K d_F_decimalOf_52 (by decide) (lv_goto K.1 K.2.1 d_F_decimalOf_53 rfl k)) ?_
    have hb2 : (if ((v % 16) + 6) ≤ 15 then 0 else 1) < 2 := z_ite_ltB _ (by omega) (by omega)
    refine pp_F_auxiliary (v := (if ((v % 16) + 6) ≤ 15 then 0 else 1)) K hw (by omega) d_F_decimalOf_57 (fun H locs hw => ?_)
    have hO3 : z_Ok (z_s_au σ (if ((v % 16) + 6) ≤ 15 then 0 else 1)) := z_ok_au hO (by omega)
    refine lv_iload_n K.1 K.2.1 d_F_decimalOf_60 rfl (lv_at hl 0 rfl) ?_
    refine nv_sipush (v := 159) K d_F_decimalOf_61 (by decide) ?_
    refine nv_icmp_gt K (by omega) (by omega) d_F_decimalOf_64 rfl (fun h4 => ?_) (fun h4 => ?_)
    · refine lv_iinc (k := 0) (v := nI ((v + 6) + 96)) (lv' := [(3, .int (nI ((v + 6) + 96))), (2, .int (nI 1)), (0, .ref a.2.2.1), (1, .int (nI v))]) K.1 K.2.1 d_F_decimalOf_74 hl rfl (nI_add _ _) (by decide) rfl (fun ls hl => ?_)
      refine lv_aload_n K.1 K.2.1 d_F_decimalOf_77 rfl (lv_at hl 2 rfl) ?_
      refine nv_iconst (v := 1) K d_F_decimalOf_78 (by decide) ?_
      refine pp_F_carry (v := 1) K hw (by omega) d_F_decimalOf_79 (fun H locs hw => ?_)
      have hO5 : z_Ok (z_s_ca (z_s_au σ (if ((v % 16) + 6) ≤ 15 then 0 else 1)) 1) := z_ok_ca hO3 (by omega)
      refine lv_iload_n K.1 K.2.1 d_F_decimalOf_82 rfl (lv_at hl 0 rfl) ?_
      refine nv_sipush (v := 255) K d_F_decimalOf_83 (by decide) ?_
      refine nv_mask (M := 256) K 8 rfl rfl d_F_decimalOf_86 ?_
      refine lv_istore (lv' := [(4, .int (nI (((v + 6) + 96) % 256))), (3, .int (nI ((v + 6) + 96))), (2, .int (nI 1)), (0, .ref a.2.2.1), (1, .int (nI v))]) K.1 K.2.1 d_F_decimalOf_87 hl (by decide) rfl (fun ls hl => ?_)
      refine lv_aload_n K.1 K.2.1 d_F_decimalOf_89 rfl (lv_at hl 3 rfl) ?_
      refine lv_iload K.1 K.2.1 d_F_decimalOf_90 (lv_at hl 0 rfl) ?_
      refine pkv K (c_judge (σ := z_s_ca (z_s_au σ (if ((v % 16) + 6) ≤ 15 then 0 else 1)) 1) (v := ((v + 6) + 96) % 256) l D cI a hO5 (by omega)) (cw_F_46 K (Nat.le_of_ble_eq_true rfl) (Nat.le_of_ble_eq_true rfl)) hw (va_recv (ci := 2) (q0 := 2) hw.2.2.2.1 hw.1 rfl rfl) rfl hl.1 rfl (Nat.le_of_ble_eq_true rfl) d_F_decimalOf_92 ⟨Nat.zero_le _, Nat.zero_le _⟩ (fun H locs hw => ?_)
      have hO6 : z_Ok (z_jd (z_s_ca (z_s_au σ (if ((v % 16) + 6) ≤ 15 then 0 else 1)) 1) (((v + 6) + 96) % 256)) := z_ok_jd hO5 (by omega)
      refine lv_iload K.1 K.2.1 d_F_decimalOf_95 (lv_at hl 0 rfl) ?_
      exact pri K hr hlk hw (by first | rfl | (simp [h1, h4]; done) | (simp only [h1, h4]; rfl)) (by first | rfl | (simp [h1, h4]; done) | (congr 1; omega) | (simp [h1, h4]; omega)) d_F_decimalOf_97
    · refine lv_aload_n K.1 K.2.1 d_F_decimalOf_67 rfl (lv_at hl 2 rfl) ?_
      refine pg_F_carry (v := z_x_ca σ) K hw rfl d_F_decimalOf_68 ?_
      have hb7 : z_x_ca σ < 2 := z_k_ca hO3
      refine nv_if_eq K (by omega) d_F_decimalOf_71 rfl (fun h8 => ?_) (fun h8 => ?_)
      · refine lv_iload_n K.1 K.2.1 d_F_decimalOf_82 rfl (lv_at hl 0 rfl) ?_
        refine nv_sipush (v := 255) K d_F_decimalOf_83 (by decide) ?_
        refine nv_mask (M := 256) K 8 rfl rfl d_F_decimalOf_86 ?_
        refine lv_istore (lv' := [(4, .int (nI ((v + 6) % 256))), (3, .int (nI (v + 6))), (2, .int (nI 1)), (0, .ref a.2.2.1), (1, .int (nI v))]) K.1 K.2.1 d_F_decimalOf_87 hl (by decide) rfl (fun ls hl => ?_)
        refine lv_aload_n K.1 K.2.1 d_F_decimalOf_89 rfl (lv_at hl 3 rfl) ?_
        refine lv_iload K.1 K.2.1 d_F_decimalOf_90 (lv_at hl 0 rfl) ?_
        refine pkv K (c_judge (σ := z_s_au σ (if ((v % 16) + 6) ≤ 15 then 0 else 1)) (v := (v + 6) % 256) l D cI a hO3 (by omega)) (cw_F_46 K (Nat.le_of_ble_eq_true rfl) (Nat.le_of_ble_eq_true rfl)) hw (va_recv (ci := 2) (q0 := 2) hw.2.2.2.1 hw.1 rfl rfl) rfl hl.1 rfl (Nat.le_of_ble_eq_true rfl) d_F_decimalOf_92 ⟨Nat.zero_le _, Nat.zero_le _⟩ (fun H locs hw => ?_)
        have hO9 : z_Ok (z_jd (z_s_au σ (if ((v % 16) + 6) ≤ 15 then 0 else 1)) ((v + 6) % 256)) := z_ok_jd hO3 (by omega)
        refine lv_iload K.1 K.2.1 d_F_decimalOf_95 (lv_at hl 0 rfl) ?_
        exact pri K hr hlk hw (by first | rfl | (simp [h1, h4, h8]; done) | (simp only [h1, h4, h8]; rfl)) (by first | rfl | (simp [h1, h4, h8]; done) | (congr 1; omega) | (simp [h1, h4, h8]; omega)) d_F_decimalOf_97
      · refine lv_iinc (k := 0) (v := nI ((v + 6) + 96)) (lv' := [(3, .int (nI ((v + 6) + 96))), (2, .int (nI 1)), (0, .ref a.2.2.1), (1, .int (nI v))]) K.1 K.2.1 d_F_decimalOf_74 hl rfl (nI_add _ _) (by decide) rfl (fun ls hl => ?_)
        refine lv_aload_n K.1 K.2.1 d_F_decimalOf_77 rfl (lv_at hl 2 rfl) ?_
        refine nv_iconst (v := 1) K d_F_decimalOf_78 (by decide) ?_
        refine pp_F_carry (v := 1) K hw (by omega) d_F_decimalOf_79 (fun H locs hw => ?_)
        have hO10 : z_Ok (z_s_ca (z_s_au σ (if ((v % 16) + 6) ≤ 15 then 0 else 1)) 1) := z_ok_ca hO3 (by omega)
        refine lv_iload_n K.1 K.2.1 d_F_decimalOf_82 rfl (lv_at hl 0 rfl) ?_
        refine nv_sipush (v := 255) K d_F_decimalOf_83 (by decide) ?_
        refine nv_mask (M := 256) K 8 rfl rfl d_F_decimalOf_86 ?_
        refine lv_istore (lv' := [(4, .int (nI (((v + 6) + 96) % 256))), (3, .int (nI ((v + 6) + 96))), (2, .int (nI 1)), (0, .ref a.2.2.1), (1, .int (nI v))]) K.1 K.2.1 d_F_decimalOf_87 hl (by decide) rfl (fun ls hl => ?_)
        refine lv_aload_n K.1 K.2.1 d_F_decimalOf_89 rfl (lv_at hl 3 rfl) ?_
        refine lv_iload K.1 K.2.1 d_F_decimalOf_90 (lv_at hl 0 rfl) ?_
        refine pkv K (c_judge (σ := z_s_ca (z_s_au σ (if ((v % 16) + 6) ≤ 15 then 0 else 1)) 1) (v := ((v + 6) + 96) % 256) l D cI a hO10 (by omega)) (cw_F_46 K (Nat.le_of_ble_eq_true rfl) (Nat.le_of_ble_eq_true rfl)) hw (va_recv (ci := 2) (q0 := 2) hw.2.2.2.1 hw.1 rfl rfl) rfl hl.1 rfl (Nat.le_of_ble_eq_true rfl) d_F_decimalOf_92 ⟨Nat.zero_le _, Nat.zero_le _⟩ (fun H locs hw => ?_)
        have hO11 : z_Ok (z_jd (z_s_ca (z_s_au σ (if ((v % 16) + 6) ≤ 15 then 0 else 1)) 1) (((v + 6) + 96) % 256)) := z_ok_jd hO10 (by omega)
        refine lv_iload K.1 K.2.1 d_F_decimalOf_95 (lv_at hl 0 rfl) ?_
        exact pri K hr hlk hw (by first | rfl | (simp [h1, h4, h8]; done) | (simp only [h1, h4, h8]; rfl)) (by first | rfl | (simp [h1, h4, h8]; done) | (congr 1; omega) | (simp [h1, h4, h8]; omega)) d_F_decimalOf_97
  · refine lv_aload_n K.1 K.2.1 d_F_decimalOf_9 rfl (lv_at hl 0 rfl) ?_
    refine pg_F_auxiliary (v := z_x_au σ) K hw rfl d_F_decimalOf_10 ?_
    have hb12 : z_x_au σ < 2 := z_k_au hO
    refine nf_if_eq (u := 0) (v := 1) (Y := 21) K (by omega) d_F_decimalOf_13 rfl (fun _ k => nv_iconst (v := 0) K d_F_decimalOf_20 (by decide) k) (fun _ k => nv_iconst (v := 1) K d_F_decimalOf_16 (by decide) (lv_goto K.1 K.2.1 d_F_decimalOf_17 rfl k)) ?_
    have hb13 : (if (z_x_au σ) = 0 then 0 else 1) < 2 := z_ite_ltB _ (by omega) (by omega)
    refine lv_istore_n (lv' := [(2, .int (nI (if (z_x_au σ) = 0 then 0 else 1))), (0, .ref a.2.2.1), (1, .int (nI v))]) K.1 K.2.1 d_F_decimalOf_21 rfl hl (by decide) rfl (fun ls hl => ?_)
    refine lv_iload_n K.1 K.2.1 d_F_decimalOf_22 rfl (lv_at hl 0 rfl) ?_
    refine nf_if_eq (u := v) (v := v + 6) (Y := 34) K (by omega) d_F_decimalOf_23 rfl (fun _ k => lv_iload_n K.1 K.2.1 d_F_decimalOf_33 rfl (lv_at hl 2 rfl) k) (fun _ k => lv_iload_n K.1 K.2.1 d_F_decimalOf_26 rfl (lv_at hl 2 rfl) (nv_bipush (v := 6) K d_F_decimalOf_27 (by decide) (nv_iadd K d_F_decimalOf_29 (lv_goto K.1 K.2.1 d_F_decimalOf_30 rfl k)))) ?_
    refine lv_istore_n (lv' := [(3, .int (nI (if (if (z_x_au σ) = 0 then 0 else 1) = 0 then v else v + 6))), (2, .int (nI (if (z_x_au σ) = 0 then 0 else 1))), (0, .ref a.2.2.1), (1, .int (nI v))]) K.1 K.2.1 d_F_decimalOf_34 rfl hl (by decide) rfl (fun ls hl => ?_)
    refine lv_aload_n K.1 K.2.1 d_F_decimalOf_35 rfl (lv_at hl 2 rfl) ?_
    refine lv_iload_n K.1 K.2.1 d_F_decimalOf_36 rfl (lv_at hl 1 rfl) ?_
    refine nv_if_eq K (by omega) d_F_decimalOf_37 rfl (fun h14 => ?_) (fun h14 => ?_)
    · refine nv_iconst (v := 0) K d_F_decimalOf_56 (by decide) ?_
      refine pp_F_auxiliary (v := 0) K hw (by omega) d_F_decimalOf_57 (fun H locs hw => ?_)
      have hO15 : z_Ok (z_s_au σ 0) := z_ok_au hO (by omega)
      refine lv_iload_n K.1 K.2.1 d_F_decimalOf_60 rfl (lv_at hl 0 rfl) ?_
      refine nv_sipush (v := 159) K d_F_decimalOf_61 (by decide) ?_
      refine nv_icmp_gt K (by omega) (by omega) d_F_decimalOf_64 rfl (fun h16 => ?_) (fun h16 => ?_)
      · refine lv_iinc (k := 0) (v := nI ((if (if (z_x_au σ) = 0 then 0 else 1) = 0 then v else v + 6) + 96)) (lv' := [(3, .int (nI ((if (if (z_x_au σ) = 0 then 0 else 1) = 0 then v else v + 6) + 96))), (2, .int (nI (if (z_x_au σ) = 0 then 0 else 1))), (0, .ref a.2.2.1), (1, .int (nI v))]) K.1 K.2.1 d_F_decimalOf_74 hl rfl (nI_add _ _) (by decide) rfl (fun ls hl => ?_)
        refine lv_aload_n K.1 K.2.1 d_F_decimalOf_77 rfl (lv_at hl 2 rfl) ?_
        refine nv_iconst (v := 1) K d_F_decimalOf_78 (by decide) ?_
        refine pp_F_carry (v := 1) K hw (by omega) d_F_decimalOf_79 (fun H locs hw => ?_)
        have hO17 : z_Ok (z_s_ca (z_s_au σ 0) 1) := z_ok_ca hO15 (by omega)
        refine lv_iload_n K.1 K.2.1 d_F_decimalOf_82 rfl (lv_at hl 0 rfl) ?_
        refine nv_sipush (v := 255) K d_F_decimalOf_83 (by decide) ?_
        refine nv_mask (M := 256) K 8 rfl rfl d_F_decimalOf_86 ?_
        refine lv_istore (lv' := [(4, .int (nI (((if (if (z_x_au σ) = 0 then 0 else 1) = 0 then v else v + 6) + 96) % 256))), (3, .int (nI ((if (if (z_x_au σ) = 0 then 0 else 1) = 0 then v else v + 6) + 96))), (2, .int (nI (if (z_x_au σ) = 0 then 0 else 1))), (0, .ref a.2.2.1), (1, .int (nI v))]) K.1 K.2.1 d_F_decimalOf_87 hl (by decide) rfl (fun ls hl => ?_)
        refine lv_aload_n K.1 K.2.1 d_F_decimalOf_89 rfl (lv_at hl 3 rfl) ?_
        refine lv_iload K.1 K.2.1 d_F_decimalOf_90 (lv_at hl 0 rfl) ?_
        refine pkv K (c_judge (σ := z_s_ca (z_s_au σ 0) 1) (v := ((if (if (z_x_au σ) = 0 then 0 else 1) = 0 then v else v + 6) + 96) % 256) l D cI a hO17 (by omega)) (cw_F_46 K (Nat.le_of_ble_eq_true rfl) (Nat.le_of_ble_eq_true rfl)) hw (va_recv (ci := 2) (q0 := 2) hw.2.2.2.1 hw.1 rfl rfl) rfl hl.1 rfl (Nat.le_of_ble_eq_true rfl) d_F_decimalOf_92 ⟨Nat.zero_le _, Nat.zero_le _⟩ (fun H locs hw => ?_)
        have hO18 : z_Ok (z_jd (z_s_ca (z_s_au σ 0) 1) (((if (if (z_x_au σ) = 0 then 0 else 1) = 0 then v else v + 6) + 96) % 256)) := z_ok_jd hO17 (by omega)
        refine lv_iload K.1 K.2.1 d_F_decimalOf_95 (lv_at hl 0 rfl) ?_
        exact pri K hr hlk hw (by first | rfl | (simp [h1, h14, h16]; done) | (simp only [h1, h14, h16]; rfl)) (by first | rfl | (simp [h1, h14, h16]; done) | (congr 1; omega) | (simp [h1, h14, h16]; omega)) d_F_decimalOf_97
      · refine lv_aload_n K.1 K.2.1 d_F_decimalOf_67 rfl (lv_at hl 2 rfl) ?_
        refine pg_F_carry (v := z_x_ca σ) K hw rfl d_F_decimalOf_68 ?_
        have hb19 : z_x_ca σ < 2 := z_k_ca hO15
        refine nv_if_eq K (by omega) d_F_decimalOf_71 rfl (fun h20 => ?_) (fun h20 => ?_)
        · refine lv_iload_n K.1 K.2.1 d_F_decimalOf_82 rfl (lv_at hl 0 rfl) ?_
          refine nv_sipush (v := 255) K d_F_decimalOf_83 (by decide) ?_
          refine nv_mask (M := 256) K 8 rfl rfl d_F_decimalOf_86 ?_
          refine lv_istore (lv' := [(4, .int (nI ((if (if (z_x_au σ) = 0 then 0 else 1) = 0 then v else v + 6) % 256))), (3, .int (nI (if (if (z_x_au σ) = 0 then 0 else 1) = 0 then v else v + 6))), (2, .int (nI (if (z_x_au σ) = 0 then 0 else 1))), (0, .ref a.2.2.1), (1, .int (nI v))]) K.1 K.2.1 d_F_decimalOf_87 hl (by decide) rfl (fun ls hl => ?_)
          refine lv_aload_n K.1 K.2.1 d_F_decimalOf_89 rfl (lv_at hl 3 rfl) ?_
          refine lv_iload K.1 K.2.1 d_F_decimalOf_90 (lv_at hl 0 rfl) ?_
          refine pkv K (c_judge (σ := z_s_au σ 0) (v := (if (if (z_x_au σ) = 0 then 0 else 1) = 0 then v else v + 6) % 256) l D cI a hO15 (by omega)) (cw_F_46 K (Nat.le_of_ble_eq_true rfl) (Nat.le_of_ble_eq_true rfl)) hw (va_recv (ci := 2) (q0 := 2) hw.2.2.2.1 hw.1 rfl rfl) rfl hl.1 rfl (Nat.le_of_ble_eq_true rfl) d_F_decimalOf_92 ⟨Nat.zero_le _, Nat.zero_le _⟩ (fun H locs hw => ?_)
          have hO21 : z_Ok (z_jd (z_s_au σ 0) ((if (if (z_x_au σ) = 0 then 0 else 1) = 0 then v else v + 6) % 256)) := z_ok_jd hO15 (by omega)
          refine lv_iload K.1 K.2.1 d_F_decimalOf_95 (lv_at hl 0 rfl) ?_
          exact pri K hr hlk hw (by first | rfl | (simp [h1, h14, h16, h20]; done) | (simp only [h1, h14, h16, h20]; rfl)) (by first | rfl | (simp [h1, h14, h16, h20]; done) | (congr 1; omega) | (simp [h1, h14, h16, h20]; omega)) d_F_decimalOf_97
        · refine lv_iinc (k := 0) (v := nI ((if (if (z_x_au σ) = 0 then 0 else 1) = 0 then v else v + 6) + 96)) (lv' := [(3, .int (nI ((if (if (z_x_au σ) = 0 then 0 else 1) = 0 then v else v + 6) + 96))), (2, .int (nI (if (z_x_au σ) = 0 then 0 else 1))), (0, .ref a.2.2.1), (1, .int (nI v))]) K.1 K.2.1 d_F_decimalOf_74 hl rfl (nI_add _ _) (by decide) rfl (fun ls hl => ?_)
          refine lv_aload_n K.1 K.2.1 d_F_decimalOf_77 rfl (lv_at hl 2 rfl) ?_
          refine nv_iconst (v := 1) K d_F_decimalOf_78 (by decide) ?_
          refine pp_F_carry (v := 1) K hw (by omega) d_F_decimalOf_79 (fun H locs hw => ?_)
          have hO22 : z_Ok (z_s_ca (z_s_au σ 0) 1) := z_ok_ca hO15 (by omega)
          refine lv_iload_n K.1 K.2.1 d_F_decimalOf_82 rfl (lv_at hl 0 rfl) ?_
          refine nv_sipush (v := 255) K d_F_decimalOf_83 (by decide) ?_
          refine nv_mask (M := 256) K 8 rfl rfl d_F_decimalOf_86 ?_
          refine lv_istore (lv' := [(4, .int (nI (((if (if (z_x_au σ) = 0 then 0 else 1) = 0 then v else v + 6) + 96) % 256))), (3, .int (nI ((if (if (z_x_au σ) = 0 then 0 else 1) = 0 then v else v + 6) + 96))), (2, .int (nI (if (z_x_au σ) = 0 then 0 else 1))), (0, .ref a.2.2.1), (1, .int (nI v))]) K.1 K.2.1 d_F_decimalOf_87 hl (by decide) rfl (fun ls hl => ?_)
          refine lv_aload_n K.1 K.2.1 d_F_decimalOf_89 rfl (lv_at hl 3 rfl) ?_
          refine lv_iload K.1 K.2.1 d_F_decimalOf_90 (lv_at hl 0 rfl) ?_
          refine pkv K (c_judge (σ := z_s_ca (z_s_au σ 0) 1) (v := ((if (if (z_x_au σ) = 0 then 0 else 1) = 0 then v else v + 6) + 96) % 256) l D cI a hO22 (by omega)) (cw_F_46 K (Nat.le_of_ble_eq_true rfl) (Nat.le_of_ble_eq_true rfl)) hw (va_recv (ci := 2) (q0 := 2) hw.2.2.2.1 hw.1 rfl rfl) rfl hl.1 rfl (Nat.le_of_ble_eq_true rfl) d_F_decimalOf_92 ⟨Nat.zero_le _, Nat.zero_le _⟩ (fun H locs hw => ?_)
          have hO23 : z_Ok (z_jd (z_s_ca (z_s_au σ 0) 1) (((if (if (z_x_au σ) = 0 then 0 else 1) = 0 then v else v + 6) + 96) % 256)) := z_ok_jd hO22 (by omega)
          refine lv_iload K.1 K.2.1 d_F_decimalOf_95 (lv_at hl 0 rfl) ?_
          exact pri K hr hlk hw (by first | rfl | (simp [h1, h14, h16, h20]; done) | (simp only [h1, h14, h16, h20]; rfl)) (by first | rfl | (simp [h1, h14, h16, h20]; done) | (congr 1; omega) | (simp [h1, h14, h16, h20]; omega)) d_F_decimalOf_97
    · refine lv_iload_n K.1 K.2.1 d_F_decimalOf_40 rfl (lv_at hl 3 rfl) ?_
      refine nv_bipush (v := 15) K d_F_decimalOf_41 (by decide) ?_
      refine nv_mask (M := 16) K 4 rfl rfl d_F_decimalOf_43 ?_
      refine nv_bipush (v := 6) K d_F_decimalOf_44 (by decide) ?_
      refine nv_iadd K d_F_decimalOf_46 ?_
      refine nv_bipush (v := 15) K d_F_decimalOf_47 (by decide) ?_
      refine nf_icmp_le (u := 0) (v := 1) (Y := 57) K (by omega) (by omega) d_F_decimalOf_49 rfl (fun _ k => nv_iconst (v := 0) K d_F_decimalOf_56 (by decide) k) (fun _ k => nv_iconst (v := 1) K d_F_decimalOf_52 (by decide) (lv_goto K.1 K.2.1 d_F_decimalOf_53 rfl k)) ?_
      have hb24 : (if ((v % 16) + 6) ≤ 15 then 0 else 1) < 2 := z_ite_ltB _ (by omega) (by omega)
      refine pp_F_auxiliary (v := (if ((v % 16) + 6) ≤ 15 then 0 else 1)) K hw (by omega) d_F_decimalOf_57 (fun H locs hw => ?_)
      have hO25 : z_Ok (z_s_au σ (if ((v % 16) + 6) ≤ 15 then 0 else 1)) := z_ok_au hO (by omega)
      refine lv_iload_n K.1 K.2.1 d_F_decimalOf_60 rfl (lv_at hl 0 rfl) ?_
      refine nv_sipush (v := 159) K d_F_decimalOf_61 (by decide) ?_
      refine nv_icmp_gt K (by omega) (by omega) d_F_decimalOf_64 rfl (fun h26 => ?_) (fun h26 => ?_)
      · refine lv_iinc (k := 0) (v := nI ((if (if (z_x_au σ) = 0 then 0 else 1) = 0 then v else v + 6) + 96)) (lv' := [(3, .int (nI ((if (if (z_x_au σ) = 0 then 0 else 1) = 0 then v else v + 6) + 96))), (2, .int (nI (if (z_x_au σ) = 0 then 0 else 1))), (0, .ref a.2.2.1), (1, .int (nI v))]) K.1 K.2.1 d_F_decimalOf_74 hl rfl (nI_add _ _) (by decide) rfl (fun ls hl => ?_)
        refine lv_aload_n K.1 K.2.1 d_F_decimalOf_77 rfl (lv_at hl 2 rfl) ?_
        refine nv_iconst (v := 1) K d_F_decimalOf_78 (by decide) ?_
        refine pp_F_carry (v := 1) K hw (by omega) d_F_decimalOf_79 (fun H locs hw => ?_)
        have hO27 : z_Ok (z_s_ca (z_s_au σ (if ((v % 16) + 6) ≤ 15 then 0 else 1)) 1) := z_ok_ca hO25 (by omega)
        refine lv_iload_n K.1 K.2.1 d_F_decimalOf_82 rfl (lv_at hl 0 rfl) ?_
        refine nv_sipush (v := 255) K d_F_decimalOf_83 (by decide) ?_
        refine nv_mask (M := 256) K 8 rfl rfl d_F_decimalOf_86 ?_
        refine lv_istore (lv' := [(4, .int (nI (((if (if (z_x_au σ) = 0 then 0 else 1) = 0 then v else v + 6) + 96) % 256))), (3, .int (nI ((if (if (z_x_au σ) = 0 then 0 else 1) = 0 then v else v + 6) + 96))), (2, .int (nI (if (z_x_au σ) = 0 then 0 else 1))), (0, .ref a.2.2.1), (1, .int (nI v))]) K.1 K.2.1 d_F_decimalOf_87 hl (by decide) rfl (fun ls hl => ?_)
        refine lv_aload_n K.1 K.2.1 d_F_decimalOf_89 rfl (lv_at hl 3 rfl) ?_
        refine lv_iload K.1 K.2.1 d_F_decimalOf_90 (lv_at hl 0 rfl) ?_
        refine pkv K (c_judge (σ := z_s_ca (z_s_au σ (if ((v % 16) + 6) ≤ 15 then 0 else 1)) 1) (v := ((if (if (z_x_au σ) = 0 then 0 else 1) = 0 then v else v + 6) + 96) % 256) l D cI a hO27 (by omega)) (cw_F_46 K (Nat.le_of_ble_eq_true rfl) (Nat.le_of_ble_eq_true rfl)) hw (va_recv (ci := 2) (q0 := 2) hw.2.2.2.1 hw.1 rfl rfl) rfl hl.1 rfl (Nat.le_of_ble_eq_true rfl) d_F_decimalOf_92 ⟨Nat.zero_le _, Nat.zero_le _⟩ (fun H locs hw => ?_)
        have hO28 : z_Ok (z_jd (z_s_ca (z_s_au σ (if ((v % 16) + 6) ≤ 15 then 0 else 1)) 1) (((if (if (z_x_au σ) = 0 then 0 else 1) = 0 then v else v + 6) + 96) % 256)) := z_ok_jd hO27 (by omega)
        refine lv_iload K.1 K.2.1 d_F_decimalOf_95 (lv_at hl 0 rfl) ?_
        exact pri K hr hlk hw (by first | rfl | (simp [h1, h14, h26]; done) | (simp only [h1, h14, h26]; rfl)) (by first | rfl | (simp [h1, h14, h26]; done) | (congr 1; omega) | (simp [h1, h14, h26]; omega)) d_F_decimalOf_97
      · refine lv_aload_n K.1 K.2.1 d_F_decimalOf_67 rfl (lv_at hl 2 rfl) ?_
        refine pg_F_carry (v := z_x_ca σ) K hw rfl d_F_decimalOf_68 ?_
        have hb29 : z_x_ca σ < 2 := z_k_ca hO25
        refine nv_if_eq K (by omega) d_F_decimalOf_71 rfl (fun h30 => ?_) (fun h30 => ?_)
        · refine lv_iload_n K.1 K.2.1 d_F_decimalOf_82 rfl (lv_at hl 0 rfl) ?_
          refine nv_sipush (v := 255) K d_F_decimalOf_83 (by decide) ?_
          refine nv_mask (M := 256) K 8 rfl rfl d_F_decimalOf_86 ?_
          refine lv_istore (lv' := [(4, .int (nI ((if (if (z_x_au σ) = 0 then 0 else 1) = 0 then v else v + 6) % 256))), (3, .int (nI (if (if (z_x_au σ) = 0 then 0 else 1) = 0 then v else v + 6))), (2, .int (nI (if (z_x_au σ) = 0 then 0 else 1))), (0, .ref a.2.2.1), (1, .int (nI v))]) K.1 K.2.1 d_F_decimalOf_87 hl (by decide) rfl (fun ls hl => ?_)
          refine lv_aload_n K.1 K.2.1 d_F_decimalOf_89 rfl (lv_at hl 3 rfl) ?_
          refine lv_iload K.1 K.2.1 d_F_decimalOf_90 (lv_at hl 0 rfl) ?_
          refine pkv K (c_judge (σ := z_s_au σ (if ((v % 16) + 6) ≤ 15 then 0 else 1)) (v := (if (if (z_x_au σ) = 0 then 0 else 1) = 0 then v else v + 6) % 256) l D cI a hO25 (by omega)) (cw_F_46 K (Nat.le_of_ble_eq_true rfl) (Nat.le_of_ble_eq_true rfl)) hw (va_recv (ci := 2) (q0 := 2) hw.2.2.2.1 hw.1 rfl rfl) rfl hl.1 rfl (Nat.le_of_ble_eq_true rfl) d_F_decimalOf_92 ⟨Nat.zero_le _, Nat.zero_le _⟩ (fun H locs hw => ?_)
          have hO31 : z_Ok (z_jd (z_s_au σ (if ((v % 16) + 6) ≤ 15 then 0 else 1)) ((if (if (z_x_au σ) = 0 then 0 else 1) = 0 then v else v + 6) % 256)) := z_ok_jd hO25 (by omega)
          refine lv_iload K.1 K.2.1 d_F_decimalOf_95 (lv_at hl 0 rfl) ?_
          exact pri K hr hlk hw (by first | rfl | (simp [h1, h14, h26, h30]; done) | (simp only [h1, h14, h26, h30]; rfl)) (by first | rfl | (simp [h1, h14, h26, h30]; done) | (congr 1; omega) | (simp [h1, h14, h26, h30]; omega)) d_F_decimalOf_97
        · refine lv_iinc (k := 0) (v := nI ((if (if (z_x_au σ) = 0 then 0 else 1) = 0 then v else v + 6) + 96)) (lv' := [(3, .int (nI ((if (if (z_x_au σ) = 0 then 0 else 1) = 0 then v else v + 6) + 96))), (2, .int (nI (if (z_x_au σ) = 0 then 0 else 1))), (0, .ref a.2.2.1), (1, .int (nI v))]) K.1 K.2.1 d_F_decimalOf_74 hl rfl (nI_add _ _) (by decide) rfl (fun ls hl => ?_)
          refine lv_aload_n K.1 K.2.1 d_F_decimalOf_77 rfl (lv_at hl 2 rfl) ?_
          refine nv_iconst (v := 1) K d_F_decimalOf_78 (by decide) ?_
          refine pp_F_carry (v := 1) K hw (by omega) d_F_decimalOf_79 (fun H locs hw => ?_)
          have hO32 : z_Ok (z_s_ca (z_s_au σ (if ((v % 16) + 6) ≤ 15 then 0 else 1)) 1) := z_ok_ca hO25 (by omega)
          refine lv_iload_n K.1 K.2.1 d_F_decimalOf_82 rfl (lv_at hl 0 rfl) ?_
          refine nv_sipush (v := 255) K d_F_decimalOf_83 (by decide) ?_
          refine nv_mask (M := 256) K 8 rfl rfl d_F_decimalOf_86 ?_
          refine lv_istore (lv' := [(4, .int (nI (((if (if (z_x_au σ) = 0 then 0 else 1) = 0 then v else v + 6) + 96) % 256))), (3, .int (nI ((if (if (z_x_au σ) = 0 then 0 else 1) = 0 then v else v + 6) + 96))), (2, .int (nI (if (z_x_au σ) = 0 then 0 else 1))), (0, .ref a.2.2.1), (1, .int (nI v))]) K.1 K.2.1 d_F_decimalOf_87 hl (by decide) rfl (fun ls hl => ?_)
          refine lv_aload_n K.1 K.2.1 d_F_decimalOf_89 rfl (lv_at hl 3 rfl) ?_
          refine lv_iload K.1 K.2.1 d_F_decimalOf_90 (lv_at hl 0 rfl) ?_
          refine pkv K (c_judge (σ := z_s_ca (z_s_au σ (if ((v % 16) + 6) ≤ 15 then 0 else 1)) 1) (v := ((if (if (z_x_au σ) = 0 then 0 else 1) = 0 then v else v + 6) + 96) % 256) l D cI a hO32 (by omega)) (cw_F_46 K (Nat.le_of_ble_eq_true rfl) (Nat.le_of_ble_eq_true rfl)) hw (va_recv (ci := 2) (q0 := 2) hw.2.2.2.1 hw.1 rfl rfl) rfl hl.1 rfl (Nat.le_of_ble_eq_true rfl) d_F_decimalOf_92 ⟨Nat.zero_le _, Nat.zero_le _⟩ (fun H locs hw => ?_)
          have hO33 : z_Ok (z_jd (z_s_ca (z_s_au σ (if ((v % 16) + 6) ≤ 15 then 0 else 1)) 1) (((if (if (z_x_au σ) = 0 then 0 else 1) = 0 then v else v + 6) + 96) % 256)) := z_ok_jd hO32 (by omega)
          refine lv_iload K.1 K.2.1 d_F_decimalOf_95 (lv_at hl 0 rfl) ?_
          exact pri K hr hlk hw (by first | rfl | (simp [h1, h14, h26, h30]; done) | (simp only [h1, h14, h26, h30]; rfl)) (by first | rfl | (simp [h1, h14, h26, h30]; done) | (congr 1; omega) | (simp [h1, h14, h26, h30]; omega)) d_F_decimalOf_97

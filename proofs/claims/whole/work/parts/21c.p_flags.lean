set_option maxHeartbeats 4000000 in
set_option maxRecDepth 100000 in
theorem c_carryBit {σ : z_St} (l : Launch) (D : va_G) (cI : ClassId) (a : pAd) (hO : z_Ok σ) : pCi l y_F_carryBit w_F_carryBit 0 0 D cI a [.ref a.2.2.1] σ σ (nI (z_x_ca σ)) := by
  refine pci_of (cc := b_F_carryBit) (maxL := 1) (ret := (some .int)) (by decide) rfl (Nat.le_of_ble_eq_true rfl) ?_
  intro p e s m below meth c ls K hr hlk hl hw
  have K : CallFix p m c b_F_carryBit 1 s _ (_ :: T0) "PortProcessor$Flags" := K
  have hl : lv_has ls 1 [(0, .ref a.2.2.1)] := hl
  refine lv_aload_n K.1 K.2.1 d_F_carryBit_0 rfl (lv_at hl 0 rfl) ?_
  refine pg_F_carry (v := z_x_ca σ) K hw rfl d_F_carryBit_1 ?_
  have hb1 : z_x_ca σ < 2 := z_k_ca hO
  refine nf_if_eq (u := 0) (v := 1) (Y := 12) K (by omega) d_F_carryBit_4 rfl (fun _ k => nv_iconst (v := 0) K d_F_carryBit_11 (by decide) k) (fun _ k => nv_iconst (v := 1) K d_F_carryBit_7 (by decide) (lv_goto K.1 K.2.1 d_F_carryBit_8 rfl k)) ?_
  have hb2 : (if (z_x_ca σ) = 0 then 0 else 1) < 2 := z_ite_ltB _ (by omega) (by omega)
  exact pri K hr hlk hw (by first | rfl | (simp; done) | (skip; rfl)) (congrArg nI (nz_bit (z_k_ca hO))) d_F_carryBit_12
set_option maxHeartbeats 4000000 in
set_option maxRecDepth 100000 in
theorem c_takeCarry {σ : z_St} {v : Nat} (l : Launch) (D : va_G) (cI : ClassId) (a : pAd) (hO : z_Ok σ) (hv : v < 2) : pCv l y_F_takeCarry w_F_takeCarry 0 0 D cI a [.ref a.2.2.1, .int (nI v)] σ (z_s_ca σ v) := by
  refine pcv_of (cc := b_F_takeCarry) (maxL := 2) (ret := none) (by decide) rfl (Nat.le_of_ble_eq_true rfl) ?_
  intro p e s m below meth c ls K hr hlk hl hw
  have K : CallFix p m c b_F_takeCarry 2 s _ (_ :: T0) "PortProcessor$Flags" := K
  have hl : lv_has ls 2 [(0, .ref a.2.2.1), (1, .int (nI v))] := hl
  refine lv_aload_n K.1 K.2.1 d_F_takeCarry_0 rfl (lv_at hl 0 rfl) ?_
  refine lv_iload_n K.1 K.2.1 d_F_takeCarry_1 rfl (lv_at hl 1 rfl) ?_
  refine pp_F_carry (v := v) K hw (by omega) d_F_takeCarry_2 (fun H locs hw => ?_)
  have hO1 : z_Ok (z_s_ca σ v) := z_ok_ca hO (by omega)
  exact prv K hr hlk hw (by first | rfl | (simp; done) | (skip; rfl)) d_F_takeCarry_5
set_option maxHeartbeats 4000000 in
set_option maxRecDepth 100000 in
theorem c_flagOf {σ : z_St} {k : Nat} (l : Launch) (D : va_G) (cI : ClassId) (a : pAd) (hO : z_Ok σ) (hk : k < 4) : pCi l y_F_flagOfCondition w_F_flagOfCondition 0 0 D cI a [.ref a.2.2.1, .int (nI k)] σ σ (nI (z_fo σ k)) := by
  refine pci_of (cc := b_F_flagOfCondition) (maxL := 2) (ret := (some .boolean)) (by decide) rfl (Nat.le_of_ble_eq_true rfl) ?_
  intro p e s m below meth c ls K hr hlk hl hw
  have K : CallFix p m c b_F_flagOfCondition 2 s _ (_ :: T0) "PortProcessor$Flags" := K
  have hl : lv_has ls 2 [(0, .ref a.2.2.1), (1, .int (nI k))] := hl
  refine lv_iload_n K.1 K.2.1 d_F_flagOfCondition_0 rfl (lv_at hl 1 rfl) ?_
  rcases (by omega : k = 0 ∨ k = 1 ∨ k = 2 ∨ k = 3) with h1 | h1 | h1 | h1
  · refine nv_as K (congrArg nI h1) ?_
    refine nv_tabIn (a := 0) (tgt := 28) K d_F_flagOfCondition_1 (by decide) (by decide) (by decide) rfl rfl ?_
    refine lv_aload_n K.1 K.2.1 d_F_flagOfCondition_28 rfl (lv_at hl 0 rfl) ?_
    refine pg_F_zero (v := z_x_ze σ) K hw rfl d_F_flagOfCondition_29 ?_
    have hb2 : z_x_ze σ < 2 := z_k_ze hO
    exact prz K hr hlk hw (by first | rfl | (simp [h1]; done) | (simp only [h1]; rfl)) (by omega) (by rw [h1]; rfl) d_F_flagOfCondition_32
  · refine nv_as K (congrArg nI h1) ?_
    refine nv_tabIn (a := 1) (tgt := 33) K d_F_flagOfCondition_1 (by decide) (by decide) (by decide) rfl rfl ?_
    refine lv_aload_n K.1 K.2.1 d_F_flagOfCondition_33 rfl (lv_at hl 0 rfl) ?_
    refine pg_F_carry (v := z_x_ca σ) K hw rfl d_F_flagOfCondition_34 ?_
    have hb3 : z_x_ca σ < 2 := z_k_ca hO
    exact prz K hr hlk hw (by first | rfl | (simp [h1]; done) | (simp only [h1]; rfl)) (by omega) (by rw [h1]; rfl) d_F_flagOfCondition_37
  · refine nv_as K (congrArg nI h1) ?_
    refine nv_tabIn (a := 2) (tgt := 38) K d_F_flagOfCondition_1 (by decide) (by decide) (by decide) rfl rfl ?_
    refine lv_aload_n K.1 K.2.1 d_F_flagOfCondition_38 rfl (lv_at hl 0 rfl) ?_
    refine pg_F_parity (v := z_x_pa σ) K hw rfl d_F_flagOfCondition_39 ?_
    have hb4 : z_x_pa σ < 2 := z_k_pa hO
    exact prz K hr hlk hw (by first | rfl | (simp [h1]; done) | (simp only [h1]; rfl)) (by omega) (by rw [h1]; rfl) d_F_flagOfCondition_42
  · refine nv_as K (congrArg nI h1) ?_
    refine nv_tabOut (a := 3) (tgt := 43) K d_F_flagOfCondition_1 (by decide) (by decide) rfl ?_
    refine lv_aload_n K.1 K.2.1 d_F_flagOfCondition_43 rfl (lv_at hl 0 rfl) ?_
    refine pg_F_sign (v := z_x_sg σ) K hw rfl d_F_flagOfCondition_44 ?_
    have hb5 : z_x_sg σ < 2 := z_k_sg hO
    exact prz K hr hlk hw (by first | rfl | (simp [h1]; done) | (simp only [h1]; rfl)) (by omega) (by rw [h1]; rfl) d_F_flagOfCondition_47
set_option maxHeartbeats 4000000 in
set_option maxRecDepth 100000 in
theorem c_meet {σ : z_St} {k : Nat} (l : Launch) (D : va_G) (cI : ClassId) (a : pAd) (hO : z_Ok σ) (hk : k < 8) : pCi l y_F_meet w_F_meet 1 21 D cI a [.ref a.2.2.1, .int (nI k)] σ σ (nI (z_hold σ k)) := by
  refine pci_of (cc := b_F_meet) (maxL := 2) (ret := (some .boolean)) (by decide) rfl (Nat.le_of_ble_eq_true rfl) ?_
  intro p e s m below meth c ls K hr hlk hl hw
  have K : CallFix p m c b_F_meet 2 s _ (_ :: T0) "PortProcessor$Flags" := K
  have hl : lv_has ls 2 [(0, .ref a.2.2.1), (1, .int (nI k))] := hl
  refine lv_aload_n K.1 K.2.1 d_F_meet_0 rfl (lv_at hl 0 rfl) ?_
  refine lv_iload_n K.1 K.2.1 d_F_meet_1 rfl (lv_at hl 1 rfl) ?_
  refine nv_iconst (v := 1) K d_F_meet_2 (by decide) ?_
  refine nv_ishr (M := 2) K (by omega) rfl (by omega) d_F_meet_3 ?_
  refine pki K (c_flagOf (σ := σ) (k := k / 2) l D cI a hO (by omega)) (cw_F_27 K (Nat.le_of_ble_eq_true rfl) (Nat.le_of_ble_eq_true rfl)) hw (va_recv (ci := 2) (q0 := 2) hw.2.2.2.1 hw.1 rfl rfl) rfl hl.1 rfl (Nat.le_of_ble_eq_true rfl) d_F_meet_4 ⟨Nat.zero_le _, Nat.zero_le _⟩ (fun H locs hw => ?_)
  have hb1 : z_fo σ (k / 2) < 2 := z_fo_lt hO _
  refine lv_iload_n K.1 K.2.1 d_F_meet_7 rfl (lv_at hl 1 rfl) ?_
  refine nv_iconst (v := 1) K d_F_meet_8 (by decide) ?_
  refine nv_mask (M := 2) K 1 rfl rfl d_F_meet_9 ?_
  refine nv_iconst (v := 1) K d_F_meet_10 (by decide) ?_
  refine nf_icmp_ne (u := 0) (v := 1) (Y := 19) K (by omega) (by omega) d_F_meet_11 rfl (fun _ k => nv_iconst (v := 0) K d_F_meet_18 (by decide) k) (fun _ k => nv_iconst (v := 1) K d_F_meet_14 (by decide) (lv_goto K.1 K.2.1 d_F_meet_15 rfl k)) ?_
  have hb2 : (if (k % 2) = 1 then 1 else 0) < 2 := z_ite_ltB _ (by omega) (by omega)
  refine nf_icmp_ne (u := 0) (v := 1) (Y := 27) K (by omega) (by omega) d_F_meet_19 rfl (fun _ k => nv_iconst (v := 0) K d_F_meet_26 (by decide) k) (fun _ k => nv_iconst (v := 1) K d_F_meet_22 (by decide) (lv_goto K.1 K.2.1 d_F_meet_23 rfl k)) ?_
  have hb3 : (if (z_fo σ (k / 2)) = (if (k % 2) = 1 then 1 else 0) then 1 else 0) < 2 := z_ite_ltB _ (by omega) (by omega)
  exact prz K hr hlk hw (by first | rfl | (simp; done) | (skip; rfl)) (by omega) (by rw [nz_m1]; rfl) d_F_meet_27

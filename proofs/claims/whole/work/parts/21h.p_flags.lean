set_option maxHeartbeats 4000000 in
set_option maxRecDepth 100000 in
theorem c_decimalOf {σ : z_St} {v : Nat} (l : Launch) (D : va_G) (cI : ClassId) (a : pAd) (hO : z_Ok σ) (hv : v < 256) : pCi l y_F_decimalOf w_F_decimalOf 2 41 D cI a [.ref a.2.2.1, .int (nI v)] σ (z_dd σ v) (nI (z_dv σ v)) := by
  refine pci_of (cc := b_F_decimalOf) (maxL := 5) (ret := (some .int)) (by decide) rfl (Nat.le_of_ble_eq_true rfl) ?_
  intro p e s m below meth c ls K hr hlk hl hw
  have K : CallFix p m c b_F_decimalOf 5 s _ (_ :: T0) "PortProcessor$Flags" := K
  have hl : lv_has ls 5 [(0, .ref a.2.2.1), (1, .int (nI v))] := hl
  refine lv_iload_n K.1 K.2.1 d_F_decimalOf_0 rfl (lv_at hl 1 rfl) ?_
  refine nv_bipush (v := 15) K d_F_decimalOf_1 (by decide) ?_
  refine nv_mask (M := 16) K 4 rfl rfl d_F_decimalOf_3 ?_
  refine nv_bipush (v := 9) K d_F_decimalOf_4 (by decide) ?_
  refine nv_icmp_gt K (by omega) (by omega) d_F_decimalOf_6 rfl (fun h1 => ?_) (fun h1 => ?_)
  · refine nv_iconst (v := 1) K d_F_decimalOf_16 (by decide) ?_
    refine lv_goto K.1 K.2.1 d_F_decimalOf_17 rfl ?_
    refine lv_istore_n (lv' := [(2, .int (nI 1)), (0, .ref a.2.2.1), (1, .int (nI v))]) K.1 K.2.1 d_F_decimalOf_21 rfl hl (by decide) rfl (fun ls hl => ?_)
    refine lv_iload_n K.1 K.2.1 d_F_decimalOf_22 rfl (lv_at hl 0 rfl) ?_
    refine nv_if_eq K (by omega) d_F_decimalOf_23 rfl (fun h => (by omega : False).elim) (fun _ => ?_)
    refine lv_iload_n K.1 K.2.1 d_F_decimalOf_26 rfl (lv_at hl 2 rfl) ?_
    refine nv_bipush (v := 6) K d_F_decimalOf_27 (by decide) ?_
    refine nv_iadd K d_F_decimalOf_29 ?_
    refine lv_goto K.1 K.2.1 d_F_decimalOf_30 rfl ?_
    refine lv_istore_n (lv' := [(3, .int (nI (v + 6))), (2, .int (nI 1)), (0, .ref a.2.2.1), (1, .int (nI v))]) K.1 K.2.1 d_F_decimalOf_34 rfl hl (by decide) rfl (fun ls hl => ?_)
    refine lv_aload_n K.1 K.2.1 d_F_decimalOf_35 rfl (lv_at hl 2 rfl) ?_
    refine lv_iload_n K.1 K.2.1 d_F_decimalOf_36 rfl (lv_at hl 1 rfl) ?_
    refine nv_if_eq K (by omega) d_F_decimalOf_37 rfl (fun h => (by omega : False).elim) (fun _ => ?_)
    refine lv_iload_n K.1 K.2.1 d_F_decimalOf_40 rfl (lv_at hl 3 rfl) ?_
    refine nv_bipush (v := 15) K d_F_decimalOf_41 (by decide) ?_
    refine nv_mask (M := 16) K 4 rfl rfl d_F_decimalOf_43 ?_
    refine nv_bipush (v := 6) K d_F_decimalOf_44 (by decide) ?_
    refine nv_iadd K d_F_decimalOf_46 ?_
    refine nv_bipush (v := 15) K d_F_decimalOf_47 (by decide) ?_
    refine nf_icmp_le (u := 0) (v := 1) (Y := 57) K (by omega) (by omega) d_F_decimalOf_49 rfl (fun _ k => nv_iconst (v := 0) K d_F_decimalOf_56 (by decide) k) (fun _ k => nv_iconst (v := 1) K d_F_decimalOf_52 (by decide) (lv_goto K.1 K.2.1 d_F_decimalOf_53 rfl k)) ?_
    have hb2 : (if ((v % 16) + 6) ≤ 15 then 0 else 1) < 2 := z_ite_ltB _ (by omega) (by omega)
    refine pp_F_auxiliary (v := (if ((v % 16) + 6) ≤ 15 then 0 else 1)) K hw (by omega) d_F_decimalOf_57 (fun H locs hw => ?_)
    have hO3 : z_Ok (z_s_au σ (if ((v % 16) + 6) ≤ 15 then 0 else 1)) := z_ok_au hO (by omega)
    refine lv_iload_n K.1 K.2.1 d_F_decimalOf_60 rfl (lv_at hl 0 rfl) ?_
    refine nv_sipush (v := 159) K d_F_decimalOf_61 (by decide) ?_
    refine nv_icmp_gt K (by omega) (by omega) d_F_decimalOf_64 rfl (fun h4 => ?_) (fun h4 => ?_)
    · refine lv_iinc (k := 0) (v := nI ((v + 6) + 96)) (lv' := [(3, .int (nI ((v + 6) + 96))), (2, .int (nI 1)), (0, .ref a.2.2.1), (1, .int (nI v))]) K.1 K.2.1 d_F_decimalOf_74 hl rfl (nI_add _ _) (by decide) rfl (fun ls hl => ?_)
      refine lv_aload_n K.1 K.2.1 d_F_decimalOf_77 rfl (lv_at hl 2 rfl) ?_
      refine nv_iconst (v := 1) K d_F_decimalOf_78 (by decide) ?_
      refine pp_F_carry (v := 1) K hw (by omega) d_F_decimalOf_79 (fun H locs hw => ?_)
      have hO5 : z_Ok (z_s_ca (z_s_au σ (if ((v % 16) + 6) ≤ 15 then 0 else 1)) 1) := z_ok_ca hO3 (by omega)
      refine lv_iload_n K.1 K.2.1 d_F_decimalOf_82 rfl (lv_at hl 0 rfl) ?_
      refine nv_sipush (v := 255) K d_F_decimalOf_83 (by decide) ?_
      refine nv_mask (M := 256) K 8 rfl rfl d_F_decimalOf_86 ?_
      refine lv_istore (lv' := [(4, .int (nI (((v + 6) + 96) % 256))), (3, .int (nI ((v + 6) + 96))), (2, .int (nI 1)), (0, .ref a.2.2.1), (1, .int (nI v))]) K.1 K.2.1 d_F_decimalOf_87 hl (by decide) rfl (fun ls hl => ?_)
      refine lv_aload_n K.1 K.2.1 d_F_decimalOf_89 rfl (lv_at hl 3 rfl) ?_
      refine lv_iload K.1 K.2.1 d_F_decimalOf_90 (lv_at hl 0 rfl) ?_
      refine pkv K (c_judge (σ := z_s_ca (z_s_au σ (if ((v % 16) + 6) ≤ 15 then 0 else 1)) 1) (v := ((v + 6) + 96) % 256) l D cI a hO5 (by omega)) (cw_F_46 K (Nat.le_of_ble_eq_true rfl) (Nat.le_of_ble_eq_true rfl)) hw (va_recv (ci := 2) (q0 := 2) hw.2.2.2.1 hw.1 rfl rfl) rfl hl.1 rfl (Nat.le_of_ble_eq_true rfl) d_F_decimalOf_92 ⟨Nat.zero_le _, Nat.zero_le _⟩ (fun H locs hw => ?_)
      have hO6 : z_Ok (z_jd (z_s_ca (z_s_au σ (if ((v % 16) + 6) ≤ 15 then 0 else 1)) 1) (((v + 6) + 96) % 256)) := z_ok_jd hO5 (by omega)
      refine lv_iload K.1 K.2.1 d_F_decimalOf_95 (lv_at hl 0 rfl) ?_
      exact pri K hr hlk hw (by first | rfl | (simp [h1, h4]; done) | (simp only [h1, h4]; rfl)) (by first | rfl | (simp [h1, h4]; done) | (congr 1; omega) | (simp [h1, h4]; omega)) d_F_decimalOf_97
    · refine lv_aload_n K.1 K.2.1 d_F_decimalOf_67 rfl (lv_at hl 2 rfl) ?_
      refine pg_F_carry (v := z_x_ca σ) K hw rfl d_F_decimalOf_68 ?_
      have hb7 : z_x_ca σ < 2 := z_k_ca hO3
      refine nv_if_eq K (by omega) d_F_decimalOf_71 rfl (fun h8 => ?_) (fun h8 => ?_)
      · refine lv_iload_n K.1 K.2.1 d_F_decimalOf_82 rfl (lv_at hl 0 rfl) ?_
        refine nv_sipush (v := 255) K d_F_decimalOf_83 (by decide) ?_
        refine nv_mask (M := 256) K 8 rfl rfl d_F_decimalOf_86 ?_
        refine lv_istore (lv' := [(4, .int (nI ((v + 6) % 256))), (3, .int (nI (v + 6))), (2, .int (nI 1)), (0, .ref a.2.2.1), (1, .int (nI v))]) K.1 K.2.1 d_F_decimalOf_87 hl (by decide) rfl (fun ls hl => ?_)
        refine lv_aload_n K.1 K.2.1 d_F_decimalOf_89 rfl (lv_at hl 3 rfl) ?_
        refine lv_iload K.1 K.2.1 d_F_decimalOf_90 (lv_at hl 0 rfl) ?_
        refine pkv K (c_judge (σ := z_s_au σ (if ((v % 16) + 6) ≤ 15 then 0 else 1)) (v := (v + 6) % 256) l D cI a hO3 (by omega)) (cw_F_46 K (Nat.le_of_ble_eq_true rfl) (Nat.le_of_ble_eq_true rfl)) hw (va_recv (ci := 2) (q0 := 2) hw.2.2.2.1 hw.1 rfl rfl) rfl hl.1 rfl (Nat.le_of_ble_eq_true rfl) d_F_decimalOf_92 ⟨Nat.zero_le _, Nat.zero_le _⟩ (fun H locs hw => ?_)
        have hO9 : z_Ok (z_jd (z_s_au σ (if ((v % 16) + 6) ≤ 15 then 0 else 1)) ((v + 6) % 256)) := z_ok_jd hO3 (by omega)
        refine lv_iload K.1 K.2.1 d_F_decimalOf_95 (lv_at hl 0 rfl) ?_
        exact pri K hr hlk hw (by first | rfl | (simp [h1, h4, h8]; done) | (simp only [h1, h4, h8]; rfl)) (by first | rfl | (simp [h1, h4, h8]; done) | (congr 1; omega) | (simp [h1, h4, h8]; omega)) d_F_decimalOf_97
      · refine lv_iinc (k := 0) (v := nI ((v + 6) + 96)) (lv' := [(3, .int (nI ((v + 6) + 96))), (2, .int (nI 1)), (0, .ref a.2.2.1), (1, .int (nI v))]) K.1 K.2.1 d_F_decimalOf_74 hl rfl (nI_add _ _) (by decide) rfl (fun ls hl => ?_)
        refine lv_aload_n K.1 K.2.1 d_F_decimalOf_77 rfl (lv_at hl 2 rfl) ?_
        refine nv_iconst (v := 1) K d_F_decimalOf_78 (by decide) ?_
        refine pp_F_carry (v := 1) K hw (by omega) d_F_decimalOf_79 (fun H locs hw => ?_)
        have hO10 : z_Ok (z_s_ca (z_s_au σ (if ((v % 16) + 6) ≤ 15 then 0 else 1)) 1) := z_ok_ca hO3 (by omega)
        refine lv_iload_n K.1 K.2.1 d_F_decimalOf_82 rfl (lv_at hl 0 rfl) ?_
        refine nv_sipush (v := 255) K d_F_decimalOf_83 (by decide) ?_
        refine nv_mask (M := 256) K 8 rfl rfl d_F_decimalOf_86 ?_
        refine lv_istore (lv' := [(4, .int (nI (((v + 6) + 96) % 256))), (3, .int (nI ((v + 6) + 96))), (2, .int (nI 1)), (0, .ref a.2.2.1), (1, .int (nI v))]) K.1 K.2.1 d_F_decimalOf_87 hl (by decide) rfl (fun ls hl => ?_)
        refine lv_aload_n K.1 K.2.1 d_F_decimalOf_89 rfl (lv_at hl 3 rfl) ?_
        refine lv_iload K.1 K.2.1 d_F_decimalOf_90 (lv_at hl 0 rfl) ?_
        refine pkv K (c_judge (σ := z_s_ca (z_s_au σ (if ((v % 16) + 6) ≤ 15 then 0 else 1)) 1) (v := ((v + 6) + 96) % 256) l D cI a hO10 (by omega)) (cw_F_46 K (Nat.le_of_ble_eq_true rfl) (Nat.le_of_ble_eq_true rfl)) hw (va_recv (ci := 2) (q0 := 2) hw.2.2.2.1 hw.1 rfl rfl) rfl hl.1 rfl (Nat.le_of_ble_eq_true rfl) d_F_decimalOf_92 ⟨Nat.zero_le _, Nat.zero_le _⟩ (fun H locs hw => ?_)
        have hO11 : z_Ok (z_jd (z_s_ca (z_s_au σ (if ((v % 16) + 6) ≤ 15 then 0 else 1)) 1) (((v + 6) + 96) % 256)) := z_ok_jd hO10 (by omega)
        refine lv_iload K.1 K.2.1 d_F_decimalOf_95 (lv_at hl 0 rfl) ?_
        exact pri K hr hlk hw (by first | rfl | (simp [h1, h4, h8]; done) | (simp only [h1, h4, h8]; rfl)) (by first | rfl | (simp [h1, h4, h8]; done) | (congr 1; omega) | (simp [h1, h4, h8]; omega)) d_F_decimalOf_97
  · refine lv_aload_n K.1 K.2.1 d_F_decimalOf_9 rfl (lv_at hl 0 rfl) ?_
    refine pg_F_auxiliary (v := z_x_au σ) K hw rfl d_F_decimalOf_10 ?_
    have hb12 : z_x_au σ < 2 := z_k_au hO
    refine nf_if_eq (u := 0) (v := 1) (Y := 21) K (by omega) d_F_decimalOf_13 rfl (fun _ k => nv_iconst (v := 0) K d_F_decimalOf_20 (by decide) k) (fun _ k => nv_iconst (v := 1) K d_F_decimalOf_16 (by decide) (lv_goto K.1 K.2.1 d_F_decimalOf_17 rfl k)) ?_
    have hb13 : (if (z_x_au σ) = 0 then 0 else 1) < 2 := z_ite_ltB _ (by omega) (by omega)
    refine lv_istore_n (lv' := [(2, .int (nI (if (z_x_au σ) = 0 then 0 else 1))), (0, .ref a.2.2.1), (1, .int (nI v))]) K.1 K.2.1 d_F_decimalOf_21 rfl hl (by decide) rfl (fun ls hl => ?_)
    refine lv_iload_n K.1 K.2.1 d_F_decimalOf_22 rfl (lv_at hl 0 rfl) ?_
    refine nf_if_eq (u := v) (v := v + 6) (Y := 34) K (by omega) d_F_decimalOf_23 rfl (fun _ k => lv_iload_n K.1 K.2.1 d_F_decimalOf_33 rfl (lv_at hl 2 rfl) k) (fun _ k => lv_iload_n K.1 K.2.1 d_F_decimalOf_26 rfl (lv_at hl 2 rfl) (nv_bipush (v := 6) K d_F_decimalOf_27 (by decide) (nv_iadd K d_F_decimalOf_29 (lv_goto K.1 K.2.1 d_F_decimalOf_30 rfl k)))) ?_
    refine lv_istore_n (lv' := [(3, .int (nI (if (if (z_x_au σ) = 0 then 0 else 1) = 0 then v else v + 6))), (2, .int (nI (if (z_x_au σ) = 0 then 0 else 1))), (0, .ref a.2.2.1), (1, .int (nI v))]) K.1 K.2.1 d_F_decimalOf_34 rfl hl (by decide) rfl (fun ls hl => ?_)
    refine lv_aload_n K.1 K.2.1 d_F_decimalOf_35 rfl (lv_at hl 2 rfl) ?_
    refine lv_iload_n K.1 K.2.1 d_F_decimalOf_36 rfl (lv_at hl 1 rfl) ?_
    refine nv_if_eq K (by omega) d_F_decimalOf_37 rfl (fun h14 => ?_) (fun h14 => ?_)
    · refine nv_iconst (v := 0) K d_F_decimalOf_56 (by decide) ?_
      refine pp_F_auxiliary (v := 0) K hw (by omega) d_F_decimalOf_57 (fun H locs hw => ?_)
      have hO15 : z_Ok (z_s_au σ 0) := z_ok_au hO (by omega)
      refine lv_iload_n K.1 K.2.1 d_F_decimalOf_60 rfl (lv_at hl 0 rfl) ?_
      refine nv_sipush (v := 159) K d_F_decimalOf_61 (by decide) ?_
      refine nv_icmp_gt K (by omega) (by omega) d_F_decimalOf_64 rfl (fun h16 => ?_) (fun h16 => ?_)
      · refine lv_iinc (k := 0) (v := nI ((if (if (z_x_au σ) = 0 then 0 else 1) = 0 then v else v + 6) + 96)) (lv' := [(3, .int (nI ((if (if (z_x_au σ) = 0 then 0 else 1) = 0 then v else v + 6) + 96))), (2, .int (nI (if (z_x_au σ) = 0 then 0 else 1))), (0, .ref a.2.2.1), (1, .int (nI v))]) K.1 K.2.1 d_F_decimalOf_74 hl rfl (nI_add _ _) (by decide) rfl (fun ls hl => ?_)
        refine lv_aload_n K.1 K.2.1 d_F_decimalOf_77 rfl (lv_at hl 2 rfl) ?_
        refine nv_iconst (v := 1) K d_F_decimalOf_78 (by decide) ?_
        refine pp_F_carry (v := 1) K hw (by omega) d_F_decimalOf_79 (fun H locs hw => ?_)
        have hO17 : z_Ok (z_s_ca (z_s_au σ 0) 1) := z_ok_ca hO15 (by omega)
        refine lv_iload_n K.1 K.2.1 d_F_decimalOf_82 rfl (lv_at hl 0 rfl) ?_
        refine nv_sipush (v := 255) K d_F_decimalOf_83 (by decide) ?_
        refine nv_mask (M := 256) K 8 rfl rfl d_F_decimalOf_86 ?_
        refine lv_istore (lv' := [(4, .int (nI (((if (if (z_x_au σ) = 0 then 0 else 1) = 0 then v else v + 6) + 96) % 256))), (3, .int (nI ((if (if (z_x_au σ) = 0 then 0 else 1) = 0 then v else v + 6) + 96))), (2, .int (nI (if (z_x_au σ) = 0 then 0 else 1))), (0, .ref a.2.2.1), (1, .int (nI v))]) K.1 K.2.1 d_F_decimalOf_87 hl (by decide) rfl (fun ls hl => ?_)
        refine lv_aload_n K.1 K.2.1 d_F_decimalOf_89 rfl (lv_at hl 3 rfl) ?_
        refine lv_iload K.1 K.2.1 d_F_decimalOf_90 (lv_at hl 0 rfl) ?_
        refine pkv K (c_judge (σ := z_s_ca (z_s_au σ 0) 1) (v := ((if (if (z_x_au σ) = 0 then 0 else 1) = 0 then v else v + 6) + 96) % 256) l D cI a hO17 (by omega)) (cw_F_46 K (Nat.le_of_ble_eq_true rfl) (Nat.le_of_ble_eq_true rfl)) hw (va_recv (ci := 2) (q0 := 2) hw.2.2.2.1 hw.1 rfl rfl) rfl hl.1 rfl (Nat.le_of_ble_eq_true rfl) d_F_decimalOf_92 ⟨Nat.zero_le _, Nat.zero_le _⟩ (fun H locs hw => ?_)
        have hO18 : z_Ok (z_jd (z_s_ca (z_s_au σ 0) 1) (((if (if (z_x_au σ) = 0 then 0 else 1) = 0 then v else v + 6) + 96) % 256)) := z_ok_jd hO17 (by omega)
        refine lv_iload K.1 K.2.1 d_F_decimalOf_95 (lv_at hl 0 rfl) ?_
        exact pri K hr hlk hw (by first | rfl | (simp [h1, h14, h16]; done) | (simp only [h1, h14, h16]; rfl)) (by first | rfl | (simp [h1, h14, h16]; done) | (congr 1; omega) | (simp [h1, h14, h16]; omega)) d_F_decimalOf_97
      · refine lv_aload_n K.1 K.2.1 d_F_decimalOf_67 rfl (lv_at hl 2 rfl) ?_
        refine pg_F_carry (v := z_x_ca σ) K hw rfl d_F_decimalOf_68 ?_
        have hb19 : z_x_ca σ < 2 := z_k_ca hO15
        refine nv_if_eq K (by omega) d_F_decimalOf_71 rfl (fun h20 => ?_) (fun h20 => ?_)
        · refine lv_iload_n K.1 K.2.1 d_F_decimalOf_82 rfl (lv_at hl 0 rfl) ?_
          refine nv_sipush (v := 255) K d_F_decimalOf_83 (by decide) ?_
          refine nv_mask (M := 256) K 8 rfl rfl d_F_decimalOf_86 ?_
          refine lv_istore (lv' := [(4, .int (nI ((if (if (z_x_au σ) = 0 then 0 else 1) = 0 then v else v + 6) % 256))), (3, .int (nI (if (if (z_x_au σ) = 0 then 0 else 1) = 0 then v else v + 6))), (2, .int (nI (if (z_x_au σ) = 0 then 0 else 1))), (0, .ref a.2.2.1), (1, .int (nI v))]) K.1 K.2.1 d_F_decimalOf_87 hl (by decide) rfl (fun ls hl => ?_)
          refine lv_aload_n K.1 K.2.1 d_F_decimalOf_89 rfl (lv_at hl 3 rfl) ?_
          refine lv_iload K.1 K.2.1 d_F_decimalOf_90 (lv_at hl 0 rfl) ?_
          refine pkv K (c_judge (σ := z_s_au σ 0) (v := (if (if (z_x_au σ) = 0 then 0 else 1) = 0 then v else v + 6) % 256) l D cI a hO15 (by omega)) (cw_F_46 K (Nat.le_of_ble_eq_true rfl) (Nat.le_of_ble_eq_true rfl)) hw (va_recv (ci := 2) (q0 := 2) hw.2.2.2.1 hw.1 rfl rfl) rfl hl.1 rfl (Nat.le_of_ble_eq_true rfl) d_F_decimalOf_92 ⟨Nat.zero_le _, Nat.zero_le _⟩ (fun H locs hw => ?_)
          have hO21 : z_Ok (z_jd (z_s_au σ 0) ((if (if (z_x_au σ) = 0 then 0 else 1) = 0 then v else v + 6) % 256)) := z_ok_jd hO15 (by omega)
          refine lv_iload K.1 K.2.1 d_F_decimalOf_95 (lv_at hl 0 rfl) ?_
          exact pri K hr hlk hw (by first | rfl | (simp [h1, h14, h16, h20]; done) | (simp only [h1, h14, h16, h20]; rfl)) (by first | rfl | (simp [h1, h14, h16, h20]; done) | (congr 1; omega) | (simp [h1, h14, h16, h20]; omega)) d_F_decimalOf_97
        · refine lv_iinc (k := 0) (v := nI ((if (if (z_x_au σ) = 0 then 0 else 1) = 0 then v else v + 6) + 96)) (lv' := [(3, .int (nI ((if (if (z_x_au σ) = 0 then 0 else 1) = 0 then v else v + 6) + 96))), (2, .int (nI (if (z_x_au σ) = 0 then 0 else 1))), (0, .ref a.2.2.1), (1, .int (nI v))]) K.1 K.2.1 d_F_decimalOf_74 hl rfl (nI_add _ _) (by decide) rfl (fun ls hl => ?_)
          refine lv_aload_n K.1 K.2.1 d_F_decimalOf_77 rfl (lv_at hl 2 rfl) ?_
          refine nv_iconst (v := 1) K d_F_decimalOf_78 (by decide) ?_
          refine pp_F_carry (v := 1) K hw (by omega) d_F_decimalOf_79 (fun H locs hw => ?_)
          have hO22 : z_Ok (z_s_ca (z_s_au σ 0) 1) := z_ok_ca hO15 (by omega)
          refine lv_iload_n K.1 K.2.1 d_F_decimalOf_82 rfl (lv_at hl 0 rfl) ?_
          refine nv_sipush (v := 255) K d_F_decimalOf_83 (by decide) ?_
          refine nv_mask (M := 256) K 8 rfl rfl d_F_decimalOf_86 ?_
          refine lv_istore (lv' := [(4, .int (nI (((if (if (z_x_au σ) = 0 then 0 else 1) = 0 then v else v + 6) + 96) % 256))), (3, .int (nI ((if (if (z_x_au σ) = 0 then 0 else 1) = 0 then v else v + 6) + 96))), (2, .int (nI (if (z_x_au σ) = 0 then 0 else 1))), (0, .ref a.2.2.1), (1, .int (nI v))]) K.1 K.2.1 d_F_decimalOf_87 hl (by decide) rfl (fun ls hl => ?_)
          refine lv_aload_n K.1 K.2.1 d_F_decimalOf_89 rfl (lv_at hl 3 rfl) ?_
          refine lv_iload K.1 K.2.1 d_F_decimalOf_90 (lv_at hl 0 rfl) ?_
          refine pkv K (c_judge (σ := z_s_ca (z_s_au σ 0) 1) (v := ((if (if (z_x_au σ) = 0 then 0 else 1) = 0 then v else v + 6) + 96) % 256) l D cI a hO22 (by omega)) (cw_F_46 K (Nat.le_of_ble_eq_true rfl) (Nat.le_of_ble_eq_true rfl)) hw (va_recv (ci := 2) (q0 := 2) hw.2.2.2.1 hw.1 rfl rfl) rfl hl.1 rfl (Nat.le_of_ble_eq_true rfl) d_F_decimalOf_92 ⟨Nat.zero_le _, Nat.zero_le _⟩ (fun H locs hw => ?_)
          have hO23 : z_Ok (z_jd (z_s_ca (z_s_au σ 0) 1) (((if (if (z_x_au σ) = 0 then 0 else 1) = 0 then v else v + 6) + 96) % 256)) := z_ok_jd hO22 (by omega)
          refine lv_iload K.1 K.2.1 d_F_decimalOf_95 (lv_at hl 0 rfl) ?_
          exact pri K hr hlk hw (by first | rfl | (simp [h1, h14, h16, h20]; done) | (simp only [h1, h14, h16, h20]; rfl)) (by first | rfl | (simp [h1, h14, h16, h20]; done) | (congr 1; omega) | (simp [h1, h14, h16, h20]; omega)) d_F_decimalOf_97
    · refine lv_iload_n K.1 K.2.1 d_F_decimalOf_40 rfl (lv_at hl 3 rfl) ?_
      refine nv_bipush (v := 15) K d_F_decimalOf_41 (by decide) ?_
      refine nv_mask (M := 16) K 4 rfl rfl d_F_decimalOf_43 ?_
      refine nv_bipush (v := 6) K d_F_decimalOf_44 (by decide) ?_
      refine nv_iadd K d_F_decimalOf_46 ?_
      refine nv_bipush (v := 15) K d_F_decimalOf_47 (by decide) ?_
      refine nf_icmp_le (u := 0) (v := 1) (Y := 57) K (by omega) (by omega) d_F_decimalOf_49 rfl (fun _ k => nv_iconst (v := 0) K d_F_decimalOf_56 (by decide) k) (fun _ k => nv_iconst (v := 1) K d_F_decimalOf_52 (by decide) (lv_goto K.1 K.2.1 d_F_decimalOf_53 rfl k)) ?_
      have hb24 : (if ((v % 16) + 6) ≤ 15 then 0 else 1) < 2 := z_ite_ltB _ (by omega) (by omega)
      refine pp_F_auxiliary (v := (if ((v % 16) + 6) ≤ 15 then 0 else 1)) K hw (by omega) d_F_decimalOf_57 (fun H locs hw => ?_)
      have hO25 : z_Ok (z_s_au σ (if ((v % 16) + 6) ≤ 15 then 0 else 1)) := z_ok_au hO (by omega)
      refine lv_iload_n K.1 K.2.1 d_F_decimalOf_60 rfl (lv_at hl 0 rfl) ?_
      refine nv_sipush (v := 159) K d_F_decimalOf_61 (by decide) ?_
      refine nv_icmp_gt K (by omega) (by omega) d_F_decimalOf_64 rfl (fun h26 => ?_) (fun h26 => ?_)
      · refine lv_iinc (k := 0) (v := nI ((if (if (z_x_au σ) = 0 then 0 else 1) = 0 then v else v + 6) + 96)) (lv' := [(3, .int (nI ((if (if (z_x_au σ) = 0 then 0 else 1) = 0 then v else v + 6) + 96))), (2, .int (nI (if (z_x_au σ) = 0 then 0 else 1))), (0, .ref a.2.2.1), (1, .int (nI v))]) K.1 K.2.1 d_F_decimalOf_74 hl rfl (nI_add _ _) (by decide) rfl (fun ls hl => ?_)
        refine lv_aload_n K.1 K.2.1 d_F_decimalOf_77 rfl (lv_at hl 2 rfl) ?_
        refine nv_iconst (v := 1) K d_F_decimalOf_78 (by decide) ?_
        refine pp_F_carry (v := 1) K hw (by omega) d_F_decimalOf_79 (fun H locs hw => ?_)
        have hO27 : z_Ok (z_s_ca (z_s_au σ (if ((v % 16) + 6) ≤ 15 then 0 else 1)) 1) := z_ok_ca hO25 (by omega)
        refine lv_iload_n K.1 K.2.1 d_F_decimalOf_82 rfl (lv_at hl 0 rfl) ?_
        refine nv_sipush (v := 255) K d_F_decimalOf_83 (by decide) ?_
        refine nv_mask (M := 256) K 8 rfl rfl d_F_decimalOf_86 ?_
        refine lv_istore (lv' := [(4, .int (nI (((if (if (z_x_au σ) = 0 then 0 else 1) = 0 then v else v + 6) + 96) % 256))), (3, .int (nI ((if (if (z_x_au σ) = 0 then 0 else 1) = 0 then v else v + 6) + 96))), (2, .int (nI (if (z_x_au σ) = 0 then 0 else 1))), (0, .ref a.2.2.1), (1, .int (nI v))]) K.1 K.2.1 d_F_decimalOf_87 hl (by decide) rfl (fun ls hl => ?_)
        refine lv_aload_n K.1 K.2.1 d_F_decimalOf_89 rfl (lv_at hl 3 rfl) ?_
        refine lv_iload K.1 K.2.1 d_F_decimalOf_90 (lv_at hl 0 rfl) ?_
        refine pkv K (c_judge (σ := z_s_ca (z_s_au σ (if ((v % 16) + 6) ≤ 15 then 0 else 1)) 1) (v := ((if (if (z_x_au σ) = 0 then 0 else 1) = 0 then v else v + 6) + 96) % 256) l D cI a hO27 (by omega)) (cw_F_46 K (Nat.le_of_ble_eq_true rfl) (Nat.le_of_ble_eq_true rfl)) hw (va_recv (ci := 2) (q0 := 2) hw.2.2.2.1 hw.1 rfl rfl) rfl hl.1 rfl (Nat.le_of_ble_eq_true rfl) d_F_decimalOf_92 ⟨Nat.zero_le _, Nat.zero_le _⟩ (fun H locs hw => ?_)
        have hO28 : z_Ok (z_jd (z_s_ca (z_s_au σ (if ((v % 16) + 6) ≤ 15 then 0 else 1)) 1) (((if (if (z_x_au σ) = 0 then 0 else 1) = 0 then v else v + 6) + 96) % 256)) := z_ok_jd hO27 (by omega)
        refine lv_iload K.1 K.2.1 d_F_decimalOf_95 (lv_at hl 0 rfl) ?_
        exact pri K hr hlk hw (by first | rfl | (simp [h1, h14, h26]; done) | (simp only [h1, h14, h26]; rfl)) (by first | rfl | (simp [h1, h14, h26]; done) | (congr 1; omega) | (simp [h1, h14, h26]; omega)) d_F_decimalOf_97
      · refine lv_aload_n K.1 K.2.1 d_F_decimalOf_67 rfl (lv_at hl 2 rfl) ?_
        refine pg_F_carry (v := z_x_ca σ) K hw rfl d_F_decimalOf_68 ?_
        have hb29 : z_x_ca σ < 2 := z_k_ca hO25
        refine nv_if_eq K (by omega) d_F_decimalOf_71 rfl (fun h30 => ?_) (fun h30 => ?_)
        · refine lv_iload_n K.1 K.2.1 d_F_decimalOf_82 rfl (lv_at hl 0 rfl) ?_
          refine nv_sipush (v := 255) K d_F_decimalOf_83 (by decide) ?_
          refine nv_mask (M := 256) K 8 rfl rfl d_F_decimalOf_86 ?_
          refine lv_istore (lv' := [(4, .int (nI ((if (if (z_x_au σ) = 0 then 0 else 1) = 0 then v else v + 6) % 256))), (3, .int (nI (if (if (z_x_au σ) = 0 then 0 else 1) = 0 then v else v + 6))), (2, .int (nI (if (z_x_au σ) = 0 then 0 else 1))), (0, .ref a.2.2.1), (1, .int (nI v))]) K.1 K.2.1 d_F_decimalOf_87 hl (by decide) rfl (fun ls hl => ?_)
          refine lv_aload_n K.1 K.2.1 d_F_decimalOf_89 rfl (lv_at hl 3 rfl) ?_
          refine lv_iload K.1 K.2.1 d_F_decimalOf_90 (lv_at hl 0 rfl) ?_
          refine pkv K (c_judge (σ := z_s_au σ (if ((v % 16) + 6) ≤ 15 then 0 else 1)) (v := (if (if (z_x_au σ) = 0 then 0 else 1) = 0 then v else v + 6) % 256) l D cI a hO25 (by omega)) (cw_F_46 K (Nat.le_of_ble_eq_true rfl) (Nat.le_of_ble_eq_true rfl)) hw (va_recv (ci := 2) (q0 := 2) hw.2.2.2.1 hw.1 rfl rfl) rfl hl.1 rfl (Nat.le_of_ble_eq_true rfl) d_F_decimalOf_92 ⟨Nat.zero_le _, Nat.zero_le _⟩ (fun H locs hw => ?_)
          have hO31 : z_Ok (z_jd (z_s_au σ (if ((v % 16) + 6) ≤ 15 then 0 else 1)) ((if (if (z_x_au σ) = 0 then 0 else 1) = 0 then v else v + 6) % 256)) := z_ok_jd hO25 (by omega)
          refine lv_iload K.1 K.2.1 d_F_decimalOf_95 (lv_at hl 0 rfl) ?_
          exact pri K hr hlk hw (by first | rfl | (simp [h1, h14, h26, h30]; done) | (simp only [h1, h14, h26, h30]; rfl)) (by first | rfl | (simp [h1, h14, h26, h30]; done) | (congr 1; omega) | (simp [h1, h14, h26, h30]; omega)) d_F_decimalOf_97
        · refine lv_iinc (k := 0) (v := nI ((if (if (z_x_au σ) = 0 then 0 else 1) = 0 then v else v + 6) + 96)) (lv' := [(3, .int (nI ((if (if (z_x_au σ) = 0 then 0 else 1) = 0 then v else v + 6) + 96))), (2, .int (nI (if (z_x_au σ) = 0 then 0 else 1))), (0, .ref a.2.2.1), (1, .int (nI v))]) K.1 K.2.1 d_F_decimalOf_74 hl rfl (nI_add _ _) (by decide) rfl (fun ls hl => ?_)
          refine lv_aload_n K.1 K.2.1 d_F_decimalOf_77 rfl (lv_at hl 2 rfl) ?_
          refine nv_iconst (v := 1) K d_F_decimalOf_78 (by decide) ?_
          refine pp_F_carry (v := 1) K hw (by omega) d_F_decimalOf_79 (fun H locs hw => ?_)
          have hO32 : z_Ok (z_s_ca (z_s_au σ (if ((v % 16) + 6) ≤ 15 then 0 else 1)) 1) := z_ok_ca hO25 (by omega)
          refine lv_iload_n K.1 K.2.1 d_F_decimalOf_82 rfl (lv_at hl 0 rfl) ?_
          refine nv_sipush (v := 255) K d_F_decimalOf_83 (by decide) ?_
          refine nv_mask (M := 256) K 8 rfl rfl d_F_decimalOf_86 ?_
          refine lv_istore (lv' := [(4, .int (nI (((if (if (z_x_au σ) = 0 then 0 else 1) = 0 then v else v + 6) + 96) % 256))), (3, .int (nI ((if (if (z_x_au σ) = 0 then 0 else 1) = 0 then v else v + 6) + 96))), (2, .int (nI (if (z_x_au σ) = 0 then 0 else 1))), (0, .ref a.2.2.1), (1, .int (nI v))]) K.1 K.2.1 d_F_decimalOf_87 hl (by decide) rfl (fun ls hl => ?_)
          refine lv_aload_n K.1 K.2.1 d_F_decimalOf_89 rfl (lv_at hl 3 rfl) ?_
          refine lv_iload K.1 K.2.1 d_F_decimalOf_90 (lv_at hl 0 rfl) ?_
          refine pkv K (c_judge (σ := z_s_ca (z_s_au σ (if ((v % 16) + 6) ≤ 15 then 0 else 1)) 1) (v := ((if (if (z_x_au σ) = 0 then 0 else 1) = 0 then v else v + 6) + 96) % 256) l D cI a hO32 (by omega)) (cw_F_46 K (Nat.le_of_ble_eq_true rfl) (Nat.le_of_ble_eq_true rfl)) hw (va_recv (ci := 2) (q0 := 2) hw.2.2.2.1 hw.1 rfl rfl) rfl hl.1 rfl (Nat.le_of_ble_eq_true rfl) d_F_decimalOf_92 ⟨Nat.zero_le _, Nat.zero_le _⟩ (fun H locs hw => ?_)
          have hO33 : z_Ok (z_jd (z_s_ca (z_s_au σ (if ((v % 16) + 6) ≤ 15 then 0 else 1)) 1) (((if (if (z_x_au σ) = 0 then 0 else 1) = 0 then v else v + 6) + 96) % 256)) := z_ok_jd hO32 (by omega)
          refine lv_iload K.1 K.2.1 d_F_decimalOf_95 (lv_at hl 0 rfl) ?_
          exact pri K hr hlk hw (by first | rfl | (simp [h1, h14, h26, h30]; done) | (simp only [h1, h14, h26, h30]; rfl)) (by first | rfl | (simp [h1, h14, h26, h30]; done) | (congr 1; omega) | (simp [h1, h14, h26, h30]; omega)) d_F_decimalOf_97

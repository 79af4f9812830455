set_option maxHeartbeats 4000000 in
set_option maxRecDepth 100000 in
theorem c_decimalOf {σ : z_St} {v : Nat} (l : Launch) (D : va_G) (cI : ClassId) (a : pAd) (hO : z_Ok σ) (hv : v < 256) : pCi l y_F_decimalOf w_F_decimalOf 2 41 D cI a [.ref a.2.2.1, .int (nI v)] σ (z_dd σ v) (nI (z_dv σ v)) := by
  refine pci_of (cc := b_F_decimalOf) (maxL := 5) (ret := (some .int)) (by decide) rfl (Nat.le_of_ble_eq_true rfl) ?_
  intro p e s m below meth c ls K hr hlk hl hw
  have K : CallFix p m c b_F_decimalOf 5 s _ (_ :: T0) "PortProcessor$Flags" := K
  have hl : lv_has ls 5 [(0, .ref a.2.2.1), (1, .int (nI v))] := hl
  refine lv_iload_n K.1 K.2.1 d_F_decimalOf_0 rfl (lv_at hl 1 rfl) ?_
  refine nv_bipush (v := 15) K d_F_decimalOf_1 (by decide) ?_
  refine nv_mask (M := 16) K 4 rfl rfl d_F_decimalOf_3 ?_
  refine nv_bipush (v := 9) K d_F_decimalOf_4 (by decide) ?_
  refine nv_icmp_gt K (by omega) (by omega) d_F_decimalOf_6 rfl (fun h1 => ?_) (fun h1 => ?_)
  · refine nv_iconst (v := 1) K d_F_decimalOf_16 (by decide) ?_
    refine lv_goto K.1 K.2.1 d_F_decimalOf_17 rfl ?_
    refine lv_istore_n (lv' := [(2, .int (nI 1)), (0, .ref a.2.2.1), (1, .int (nI v))]) K.1 K.2.1 d_F_decimalOf_21 rfl hl (by decide) rfl (fun ls hl => ?_)
    refine lv_iload_n K.1 K.2.1 d_F_decimalOf_22 rfl (lv_at hl 0 rfl) ?_
    refine nv_if_eq K (by omega) d_F_decimalOf_23 rfl (fun h => (by omega : False).elim) (fun _ => ?_)
    refine lv_iload_n K.1 K.2.1 d_F_decimalOf_26 rfl (lv_at hl 2 rfl) ?_
    refine nv_bipush (v := 6) K d_F_decimalOf_27 (by decide) ?_
    refine nv_iadd K d_F_decimalOf_29 ?_
    refine lv_goto K.1 K.2.1 d_F_decimalOf_30 rfl ?_
    refine lv_istore_n (lv' := [(3, .int (nI (v + 6))), (2, .int (nI 1)), (0, .ref a.2.2.1), (1, .int (nI v))]) K.1 K.2.1 d_F_decimalOf_34 rfl hl (by decide) rfl (fun ls hl => ?_)
    refine lv_aload_n K.1 K.2.1 d_F_decimalOf_35 rfl (lv_at hl 2 rfl) ?_
    refine lv_iload_n K.1 K.2.1 d_F_decimalOf_36 rfl (lv_at hl 1 rfl) ?_
    refine nv_if_eq K (by omega) d_F_decimalOf_37 rfl (fun h => (by omega : False).elim) (fun _ => ?_)
    refine lv_iload_n K.1 K.2.1 d_F_decimalOf_40 rfl (lv_at hl 3 rfl) ?_
    refine nv_bipush (v := 15) K d_F_decimalOf_41 (by decide) ?_
    refine nv_mask (M := 16) K 4 rfl rfl d_F_decimalOf_43 ?_
    refine nv_bipush (v := 6) K d_F_decimalOf_44 (by decide) ?_
    refine nv_iadd K d_F_decimalOf_46 ?_
    refine nv_bipush (v := 15) K d_F_decimalOf_47 (by decide) ?_
    refine nf_icmp_le (u := 0) (v := 1) (Y := 57) K (by omega) (by omega) d_F_decimalOf_49 rfl (fun _ k => nv_iconst (v := 0) K d_F_decimalOf_56 (by decide) k) (fun _ k => nv_iconst (v := 1) K d_F_decimalOf_52 (by decide) (lv_goto K.1 K.2.1 d_F_decimalOf_53 rfl k)) ?_
    have hb2 : (if ((v % 16) + 6) ≤ 15 then 0 else 1) < 2 := z_ite_ltB _ (by omega) (by omega)
    refine pp_F_auxiliary (v := (if ((v % 16) + 6) ≤ 15 then 0 else 1)) K hw (by omega) d_F_decimalOf_57 (fun H locs hw => ?_)
    have hO3 : z_Ok (z_s_au σ (if ((v % 16) + 6) ≤ 15 then 0 else 1)) := z_ok_au hO (by omega)
    refine lv_iload_n K.1 K.2.1 d_F_decimalOf_60 rfl (lv_at hl 0 rfl) ?_
    refine nv_sipush (v := 159) K d_F_decimalOf_61 (by decide) ?_
    refine nv_icmp_gt K (by omega) (by omega) d_F_decimalOf_64 rfl (fun h4 => ?_) (fun h4 => ?_)
    · refine lv_iinc (k := 0) (v := nI ((v + 6) + 96)) (lv' := [(3, .int (nI ((v + 6) + 96))), (2, .int (nI 1)), (0, .ref a.2.2.1), (1, .int (nI v))]) K.1 K.2.1 d_F_decimalOf_74 hl rfl (nI_add _ _) (by decide) rfl (fun ls hl => ?_)
      refine lv_aload_n K.1 K.2.1 d_F_decimalOf_77 rfl (lv_at hl 2 rfl) ?_
      refine nv_iconst (v := 1) K d_F_decimalOf_78 (by decide) ?_
      refine pp_F_carry (v := 1) K hw (by omega) d_F_decimalOf_79 (fun H locs hw => ?_)
      have hO5 : z_Ok (z_s_ca (z_s_au σ (if ((v % 16) + 6) ≤ 15 then 0 else 1)) 1) := z_ok_ca hO3 (by omega)
      refine lv_iload_n K.1 K.2.1 d_F_decimalOf_82 rfl (lv_at hl 0 rfl) ?_
      refine nv_sipush (v := 255) K d_F_decimalOf_83 (by decide) ?_
      refine nv_mask (M := 256) K 8 rfl rfl d_F_decimalOf_86 ?_
      refine lv_istore (lv' := [(4, .int (nI (((v + 6) + 96) % 256))), (3, .int (nI ((v + 6) + 96))), (2, .int (nI 1)), (0, .ref a.2.2.1), (1, .int (nI v))]) K.1 K.2.1 d_F_decimalOf_87 hl (by decide) rfl (fun ls hl => ?_)
      refine lv_aload_n K.1 K.2.1 d_F_decimalOf_89 rfl (lv_at hl 3 rfl) ?_
      refine lv_iload K.1 K.2.1 d_F_decimalOf_90 (lv_at hl 0 rfl) ?_
      refine pkv K (c_judge (σ := z_s_ca (z_s_au σ (if ((v % 16) + 6) ≤ 15 then 0 else 1)) 1) (v := ((v + 6) + 96) % 256) l D cI a hO5 (by omega)) (cw_F_46 K (Nat.le_of_ble_eq_true rfl) (Nat.le_of_ble_eq_true rfl)) hw (va_recv (ci := 2) (q0 := 2) hw.2.2.2.1 hw.1 rfl rfl) rfl hl.1 rfl (Nat.le_of_ble_eq_true rfl) d_F_decimalOf_92 ⟨Nat.zero_le _, Nat.zero_le _⟩ (fun H locs hw => ?_)
      have hO6 : z_Ok (z_jd (z_s_ca (z_s_au σ (if ((v % 16) + 6) ≤ 15 then 0 else 1)) 1) (((v + 6) + 96) % 256)) := z_ok_jd hO5 (by omega)
      refine lv_iload K.1 K.2.1 d_F_decimalOf_95 (lv_at hl 0 rfl) ?_
      exact pri K hr hlk hw (dd_of (by first | (rw [if_pos (by omega)]; done) | (rw [if_neg (by omega)]; done) | (split <;> split <;> omega) | (split <;> omega)) (by unfold z_d6; first | (rw [if_pos (by omega)]; done) | (rw [if_neg (by omega)]; done)) (by omega)) (congrArg nI (dv_of (by unfold z_d6; first | (rw [if_pos (by omega)]; done) | (rw [if_neg (by omega)]; done)) (by omega))) d_F_decimalOf_97
    · refine lv_aload_n K.1 K.2.1 d_F_decimalOf_67 rfl (lv_at hl 2 rfl) ?_
      refine pg_F_carry (v := z_x_ca σ) K hw rfl d_F_decimalOf_68 ?_
      have hb7 : z_x_ca σ < 2 := z_k_ca hO
      refine nv_if_eq K (by omega) d_F_decimalOf_71 rfl (fun h8 => ?_) (fun h8 => ?_)
      · refine lv_iload_n K.1 K.2.1 d_F_decimalOf_82 rfl (lv_at hl 0 rfl) ?_
        refine nv_sipush (v := 255) K d_F_decimalOf_83 (by decide) ?_
        refine nv_mask (M := 256) K 8 rfl rfl d_F_decimalOf_86 ?_
        refine lv_istore (lv' := [(4, .int (nI ((v + 6) % 256))), (3, .int (nI (v + 6))), (2, .int (nI 1)), (0, .ref a.2.2.1), (1, .int (nI v))]) K.1 K.2.1 d_F_decimalOf_87 hl (by decide) rfl (fun ls hl => ?_)
        refine lv_aload_n K.1 K.2.1 d_F_decimalOf_89 rfl (lv_at hl 3 rfl) ?_
        refine lv_iload K.1 K.2.1 d_F_decimalOf_90 (lv_at hl 0 rfl) ?_
        refine pkv K (c_judge (σ := z_s_au σ (if ((v % 16) + 6) ≤ 15 then 0 else 1)) (v := (v + 6) % 256) l D cI a hO3 (by omega)) (cw_F_46 K (Nat.le_of_ble_eq_true rfl) (Nat.le_of_ble_eq_true rfl)) hw (va_recv (ci := 2) (q0 := 2) hw.2.2.2.1 hw.1 rfl rfl) rfl hl.1 rfl (Nat.le_of_ble_eq_true rfl) d_F_decimalOf_92 ⟨Nat.zero_le _, Nat.zero_le _⟩ (fun H locs hw => ?_)
        have hO9 : z_Ok (z_jd (z_s_au σ (if ((v % 16) + 6) ≤ 15 then 0 else 1)) ((v + 6) % 256)) := z_ok_jd hO3 (by omega)
        refine lv_iload K.1 K.2.1 d_F_decimalOf_95 (lv_at hl 0 rfl) ?_
        exact pri K hr hlk hw (dd_of0 (by first | (rw [if_pos (by omega)]; done) | (rw [if_neg (by omega)]; done) | (split <;> split <;> omega) | (split <;> omega)) (by unfold z_d6; first | (rw [if_pos (by omega)]; done) | (rw [if_neg (by omega)]; done)) (by omega) (z_k_ca hO)) (congrArg nI (dv_of0 (by unfold z_d6; first | (rw [if_pos (by omega)]; done) | (rw [if_neg (by omega)]; done)) (by omega))) d_F_decimalOf_97
      · refine lv_iinc (k := 0) (v := nI ((v + 6) + 96)) (lv' := [(3, .int (nI ((v + 6) + 96))), (2, .int (nI 1)), (0, .ref a.2.2.1), (1, .int (nI v))]) K.1 K.2.1 d_F_decimalOf_74 hl rfl (nI_add _ _) (by decide) rfl (fun ls hl => ?_)
        refine lv_aload_n K.1 K.2.1 d_F_decimalOf_77 rfl (lv_at hl 2 rfl) ?_
        refine nv_iconst (v := 1) K d_F_decimalOf_78 (by decide) ?_
        refine pp_F_carry (v := 1) K hw (by omega) d_F_decimalOf_79 (fun H locs hw => ?_)
        have hO10 : z_Ok (z_s_ca (z_s_au σ (if ((v % 16) + 6) ≤ 15 then 0 else 1)) 1) := z_ok_ca hO3 (by omega)
        refine lv_iload_n K.1 K.2.1 d_F_decimalOf_82 rfl (lv_at hl 0 rfl) ?_
        refine nv_sipush (v := 255) K d_F_decimalOf_83 (by decide) ?_
        refine nv_mask (M := 256) K 8 rfl rfl d_F_decimalOf_86 ?_
        refine lv_istore (lv' := [(4, .int (nI (((v + 6) + 96) % 256))), (3, .int (nI ((v + 6) + 96))), (2, .int (nI 1)), (0, .ref a.2.2.1), (1, .int (nI v))]) K.1 K.2.1 d_F_decimalOf_87 hl (by decide) rfl (fun ls hl => ?_)
        refine lv_aload_n K.1 K.2.1 d_F_decimalOf_89 rfl (lv_at hl 3 rfl) ?_
        refine lv_iload K.1 K.2.1 d_F_decimalOf_90 (lv_at hl 0 rfl) ?_
        refine pkv K (c_judge (σ := z_s_ca (z_s_au σ (if ((v % 16) + 6) ≤ 15 then 0 else 1)) 1) (v := ((v + 6) + 96) % 256) l D cI a hO10 (by omega)) (cw_F_46 K (Nat.le_of_ble_eq_true rfl) (Nat.le_of_ble_eq_true rfl)) hw (va_recv (ci := 2) (q0 := 2) hw.2.2.2.1 hw.1 rfl rfl) rfl hl.1 rfl (Nat.le_of_ble_eq_true rfl) d_F_decimalOf_92 ⟨Nat.zero_le _, Nat.zero_le _⟩ (fun H locs hw => ?_)
        have hO11 : z_Ok (z_jd (z_s_ca (z_s_au σ (if ((v % 16) + 6) ≤ 15 then 0 else 1)) 1) (((v + 6) + 96) % 256)) := z_ok_jd hO10 (by omega)
        refine lv_iload K.1 K.2.1 d_F_decimalOf_95 (lv_at hl 0 rfl) ?_
        exact pri K hr hlk hw (dd_of (by first | (rw [if_pos (by omega)]; done) | (rw [if_neg (by omega)]; done) | (split <;> split <;> omega) | (split <;> omega)) (by unfold z_d6; first | (rw [if_pos (by omega)]; done) | (rw [if_neg (by omega)]; done)) (by omega)) (congrArg nI (dv_of (by unfold z_d6; first | (rw [if_pos (by omega)]; done) | (rw [if_neg (by omega)]; done)) (by omega))) d_F_decimalOf_97
  · refine lv_aload_n K.1 K.2.1 d_F_decimalOf_9 rfl (lv_at hl 0 rfl) ?_
    refine pg_F_auxiliary (v := z_x_au σ) K hw rfl d_F_decimalOf_10 ?_
    have hb12 : z_x_au σ < 2 := z_k_au hO
    refine nv_if_eq K (by omega) d_F_decimalOf_13 rfl (fun h13 => ?_) (fun h13 => ?_)
    · refine nv_iconst (v := 0) K d_F_decimalOf_20 (by decide) ?_
      refine lv_istore_n (lv' := [(2, .int (nI 0)), (0, .ref a.2.2.1), (1, .int (nI v))]) K.1 K.2.1 d_F_decimalOf_21 rfl hl (by decide) rfl (fun ls hl => ?_)
      refine lv_iload_n K.1 K.2.1 d_F_decimalOf_22 rfl (lv_at hl 0 rfl) ?_
      refine nv_if_eq K (by omega) d_F_decimalOf_23 rfl (fun _ => ?_) (fun h => (by omega : False).elim)
      refine lv_iload_n K.1 K.2.1 d_F_decimalOf_33 rfl (lv_at hl 2 rfl) ?_
      refine lv_istore_n (lv' := [(3, .int (nI v)), (2, .int (nI 0)), (0, .ref a.2.2.1), (1, .int (nI v))]) K.1 K.2.1 d_F_decimalOf_34 rfl hl (by decide) rfl (fun ls hl => ?_)
      refine lv_aload_n K.1 K.2.1 d_F_decimalOf_35 rfl (lv_at hl 2 rfl) ?_
      refine lv_iload_n K.1 K.2.1 d_F_decimalOf_36 rfl (lv_at hl 1 rfl) ?_
      refine nv_if_eq K (by omega) d_F_decimalOf_37 rfl (fun _ => ?_) (fun h => (by omega : False).elim)
      refine nv_iconst (v := 0) K d_F_decimalOf_56 (by decide) ?_
      refine pp_F_auxiliary (v := 0) K hw (by omega) d_F_decimalOf_57 (fun H locs hw => ?_)
      have hO14 : z_Ok (z_s_au σ 0) := z_ok_au hO (by omega)
      refine lv_iload_n K.1 K.2.1 d_F_decimalOf_60 rfl (lv_at hl 0 rfl) ?_
      refine nv_sipush (v := 159) K d_F_decimalOf_61 (by decide) ?_
      refine nv_icmp_gt K (by omega) (by omega) d_F_decimalOf_64 rfl (fun h15 => ?_) (fun h15 => ?_)
      · refine lv_iinc (k := 0) (v := nI (v + 96)) (lv' := [(3, .int (nI (v + 96))), (2, .int (nI 0)), (0, .ref a.2.2.1), (1, .int (nI v))]) K.1 K.2.1 d_F_decimalOf_74 hl rfl (nI_add _ _) (by decide) rfl (fun ls hl => ?_)
        refine lv_aload_n K.1 K.2.1 d_F_decimalOf_77 rfl (lv_at hl 2 rfl) ?_
        refine nv_iconst (v := 1) K d_F_decimalOf_78 (by decide) ?_
        refine pp_F_carry (v := 1) K hw (by omega) d_F_decimalOf_79 (fun H locs hw => ?_)
        have hO16 : z_Ok (z_s_ca (z_s_au σ 0) 1) := z_ok_ca hO14 (by omega)
        refine lv_iload_n K.1 K.2.1 d_F_decimalOf_82 rfl (lv_at hl 0 rfl) ?_
        refine nv_sipush (v := 255) K d_F_decimalOf_83 (by decide) ?_
        refine nv_mask (M := 256) K 8 rfl rfl d_F_decimalOf_86 ?_
        refine lv_istore (lv' := [(4, .int (nI ((v + 96) % 256))), (3, .int (nI (v + 96))), (2, .int (nI 0)), (0, .ref a.2.2.1), (1, .int (nI v))]) K.1 K.2.1 d_F_decimalOf_87 hl (by decide) rfl (fun ls hl => ?_)
        refine lv_aload_n K.1 K.2.1 d_F_decimalOf_89 rfl (lv_at hl 3 rfl) ?_
        refine lv_iload K.1 K.2.1 d_F_decimalOf_90 (lv_at hl 0 rfl) ?_
        refine pkv K (c_judge (σ := z_s_ca (z_s_au σ 0) 1) (v := (v + 96) % 256) l D cI a hO16 (by omega)) (cw_F_46 K (Nat.le_of_ble_eq_true rfl) (Nat.le_of_ble_eq_true rfl)) hw (va_recv (ci := 2) (q0 := 2) hw.2.2.2.1 hw.1 rfl rfl) rfl hl.1 rfl (Nat.le_of_ble_eq_true rfl) d_F_decimalOf_92 ⟨Nat.zero_le _, Nat.zero_le _⟩ (fun H locs hw => ?_)
        have hO17 : z_Ok (z_jd (z_s_ca (z_s_au σ 0) 1) ((v + 96) % 256)) := z_ok_jd hO16 (by omega)
        refine lv_iload K.1 K.2.1 d_F_decimalOf_95 (lv_at hl 0 rfl) ?_
        exact pri K hr hlk hw (dd_of (by first | (rw [if_pos (by omega)]; done) | (rw [if_neg (by omega)]; done) | (split <;> split <;> omega) | (split <;> omega)) (by unfold z_d6; first | (rw [if_pos (by omega)]; done) | (rw [if_neg (by omega)]; done)) (by omega)) (congrArg nI (dv_of (by unfold z_d6; first | (rw [if_pos (by omega)]; done) | (rw [if_neg (by omega)]; done)) (by omega))) d_F_decimalOf_97
      · refine lv_aload_n K.1 K.2.1 d_F_decimalOf_67 rfl (lv_at hl 2 rfl) ?_
        refine pg_F_carry (v := z_x_ca σ) K hw rfl d_F_decimalOf_68 ?_
        have hb18 : z_x_ca σ < 2 := z_k_ca hO
        refine nv_if_eq K (by omega) d_F_decimalOf_71 rfl (fun h19 => ?_) (fun h19 => ?_)
        · refine lv_iload_n K.1 K.2.1 d_F_decimalOf_82 rfl (lv_at hl 0 rfl) ?_
          refine nv_sipush (v := 255) K d_F_decimalOf_83 (by decide) ?_
          refine nv_mask (M := 256) K 8 rfl rfl d_F_decimalOf_86 ?_
          refine lv_istore (lv' := [(4, .int (nI (v % 256))), (3, .int (nI v)), (2, .int (nI 0)), (0, .ref a.2.2.1), (1, .int (nI v))]) K.1 K.2.1 d_F_decimalOf_87 hl (by decide) rfl (fun ls hl => ?_)
          refine lv_aload_n K.1 K.2.1 d_F_decimalOf_89 rfl (lv_at hl 3 rfl) ?_
          refine lv_iload K.1 K.2.1 d_F_decimalOf_90 (lv_at hl 0 rfl) ?_
          refine pkv K (c_judge (σ := z_s_au σ 0) (v := v % 256) l D cI a hO14 (by omega)) (cw_F_46 K (Nat.le_of_ble_eq_true rfl) (Nat.le_of_ble_eq_true rfl)) hw (va_recv (ci := 2) (q0 := 2) hw.2.2.2.1 hw.1 rfl rfl) rfl hl.1 rfl (Nat.le_of_ble_eq_true rfl) d_F_decimalOf_92 ⟨Nat.zero_le _, Nat.zero_le _⟩ (fun H locs hw => ?_)
          have hO20 : z_Ok (z_jd (z_s_au σ 0) (v % 256)) := z_ok_jd hO14 (by omega)
          refine lv_iload K.1 K.2.1 d_F_decimalOf_95 (lv_at hl 0 rfl) ?_
          exact pri K hr hlk hw (dd_of0 (by first | (rw [if_pos (by omega)]; done) | (rw [if_neg (by omega)]; done) | (split <;> split <;> omega) | (split <;> omega)) (by unfold z_d6; first | (rw [if_pos (by omega)]; done) | (rw [if_neg (by omega)]; done)) (by omega) (z_k_ca hO)) (congrArg nI (dv_of0 (by unfold z_d6; first | (rw [if_pos (by omega)]; done) | (rw [if_neg (by omega)]; done)) (by omega))) d_F_decimalOf_97
        · refine lv_iinc (k := 0) (v := nI (v + 96)) (lv' := [(3, .int (nI (v + 96))), (2, .int (nI 0)), (0, .ref a.2.2.1), (1, .int (nI v))]) K.1 K.2.1 d_F_decimalOf_74 hl rfl (nI_add _ _) (by decide) rfl (fun ls hl => ?_)
          refine lv_aload_n K.1 K.2.1 d_F_decimalOf_77 rfl (lv_at hl 2 rfl) ?_
          refine nv_iconst (v := 1) K d_F_decimalOf_78 (by decide) ?_
          refine pp_F_carry (v := 1) K hw (by omega) d_F_decimalOf_79 (fun H locs hw => ?_)
          have hO21 : z_Ok (z_s_ca (z_s_au σ 0) 1) := z_ok_ca hO14 (by omega)
          refine lv_iload_n K.1 K.2.1 d_F_decimalOf_82 rfl (lv_at hl 0 rfl) ?_
          refine nv_sipush (v := 255) K d_F_decimalOf_83 (by decide) ?_
          refine nv_mask (M := 256) K 8 rfl rfl d_F_decimalOf_86 ?_
          refine lv_istore (lv' := [(4, .int (nI ((v + 96) % 256))), (3, .int (nI (v + 96))), (2, .int (nI 0)), (0, .ref a.2.2.1), (1, .int (nI v))]) K.1 K.2.1 d_F_decimalOf_87 hl (by decide) rfl (fun ls hl => ?_)
          refine lv_aload_n K.1 K.2.1 d_F_decimalOf_89 rfl (lv_at hl 3 rfl) ?_
          refine lv_iload K.1 K.2.1 d_F_decimalOf_90 (lv_at hl 0 rfl) ?_
          refine pkv K (c_judge (σ := z_s_ca (z_s_au σ 0) 1) (v := (v + 96) % 256) l D cI a hO21 (by omega)) (cw_F_46 K (Nat.le_of_ble_eq_true rfl) (Nat.le_of_ble_eq_true rfl)) hw (va_recv (ci := 2) (q0 := 2) hw.2.2.2.1 hw.1 rfl rfl) rfl hl.1 rfl (Nat.le_of_ble_eq_true rfl) d_F_decimalOf_92 ⟨Nat.zero_le _, Nat.zero_le _⟩ (fun H locs hw => ?_)
          have hO22 : z_Ok (z_jd (z_s_ca (z_s_au σ 0) 1) ((v + 96) % 256)) := z_ok_jd hO21 (by omega)
          refine lv_iload K.1 K.2.1 d_F_decimalOf_95 (lv_at hl 0 rfl) ?_
          exact pri K hr hlk hw (dd_of (by first | (rw [if_pos (by omega)]; done) | (rw [if_neg (by omega)]; done) | (split <;> split <;> omega) | (split <;> omega)) (by unfold z_d6; first | (rw [if_pos (by omega)]; done) | (rw [if_neg (by omega)]; done)) (by omega)) (congrArg nI (dv_of (by unfold z_d6; first | (rw [if_pos (by omega)]; done) | (rw [if_neg (by omega)]; done)) (by omega))) d_F_decimalOf_97
    · refine nv_iconst (v := 1) K d_F_decimalOf_16 (by decide) ?_
      refine lv_goto K.1 K.2.1 d_F_decimalOf_17 rfl ?_
      refine lv_istore_n (lv' := [(2, .int (nI 1)), (0, .ref a.2.2.1), (1, .int (nI v))]) K.1 K.2.1 d_F_decimalOf_21 rfl hl (by decide) rfl (fun ls hl => ?_)
      refine lv_iload_n K.1 K.2.1 d_F_decimalOf_22 rfl (lv_at hl 0 rfl) ?_
      refine nv_if_eq K (by omega) d_F_decimalOf_23 rfl (fun h => (by omega : False).elim) (fun _ => ?_)
      refine lv_iload_n K.1 K.2.1 d_F_decimalOf_26 rfl (lv_at hl 2 rfl) ?_
      refine nv_bipush (v := 6) K d_F_decimalOf_27 (by decide) ?_
      refine nv_iadd K d_F_decimalOf_29 ?_
      refine lv_goto K.1 K.2.1 d_F_decimalOf_30 rfl ?_
      refine lv_istore_n (lv' := [(3, .int (nI (v + 6))), (2, .int (nI 1)), (0, .ref a.2.2.1), (1, .int (nI v))]) K.1 K.2.1 d_F_decimalOf_34 rfl hl (by decide) rfl (fun ls hl => ?_)
      refine lv_aload_n K.1 K.2.1 d_F_decimalOf_35 rfl (lv_at hl 2 rfl) ?_
      refine lv_iload_n K.1 K.2.1 d_F_decimalOf_36 rfl (lv_at hl 1 rfl) ?_
      refine nv_if_eq K (by omega) d_F_decimalOf_37 rfl (fun h => (by omega : False).elim) (fun _ => ?_)
      refine lv_iload_n K.1 K.2.1 d_F_decimalOf_40 rfl (lv_at hl 3 rfl) ?_
      refine nv_bipush (v := 15) K d_F_decimalOf_41 (by decide) ?_
      refine nv_mask (M := 16) K 4 rfl rfl d_F_decimalOf_43 ?_
      refine nv_bipush (v := 6) K d_F_decimalOf_44 (by decide) ?_
      refine nv_iadd K d_F_decimalOf_46 ?_
      refine nv_bipush (v := 15) K d_F_decimalOf_47 (by decide) ?_
      refine nf_icmp_le (u := 0) (v := 1) (Y := 57) K (by omega) (by omega) d_F_decimalOf_49 rfl (fun _ k => nv_iconst (v := 0) K d_F_decimalOf_56 (by decide) k) (fun _ k => nv_iconst (v := 1) K d_F_decimalOf_52 (by decide) (lv_goto K.1 K.2.1 d_F_decimalOf_53 rfl k)) ?_
      have hb23 : (if ((v % 16) + 6) ≤ 15 then 0 else 1) < 2 := z_ite_ltB _ (by omega) (by omega)
      refine pp_F_auxiliary (v := (if ((v % 16) + 6) ≤ 15 then 0 else 1)) K hw (by omega) d_F_decimalOf_57 (fun H locs hw => ?_)
      have hO24 : z_Ok (z_s_au σ (if ((v % 16) + 6) ≤ 15 then 0 else 1)) := z_ok_au hO (by omega)
      refine lv_iload_n K.1 K.2.1 d_F_decimalOf_60 rfl (lv_at hl 0 rfl) ?_
      refine nv_sipush (v := 159) K d_F_decimalOf_61 (by decide) ?_
      refine nv_icmp_gt K (by omega) (by omega) d_F_decimalOf_64 rfl (fun h25 => ?_) (fun h25 => ?_)
      · refine lv_iinc (k := 0) (v := nI ((v + 6) + 96)) (lv' := [(3, .int (nI ((v + 6) + 96))), (2, .int (nI 1)), (0, .ref a.2.2.1), (1, .int (nI v))]) K.1 K.2.1 d_F_decimalOf_74 hl rfl (nI_add _ _) (by decide) rfl (fun ls hl => ?_)
        refine lv_aload_n K.1 K.2.1 d_F_decimalOf_77 rfl (lv_at hl 2 rfl) ?_
        refine nv_iconst (v := 1) K d_F_decimalOf_78 (by decide) ?_
        refine pp_F_carry (v := 1) K hw (by omega) d_F_decimalOf_79 (fun H locs hw => ?_)
        have hO26 : z_Ok (z_s_ca (z_s_au σ (if ((v % 16) + 6) ≤ 15 then 0 else 1)) 1) := z_ok_ca hO24 (by omega)
        refine lv_iload_n K.1 K.2.1 d_F_decimalOf_82 rfl (lv_at hl 0 rfl) ?_
        refine nv_sipush (v := 255) K d_F_decimalOf_83 (by decide) ?_
        refine nv_mask (M := 256) K 8 rfl rfl d_F_decimalOf_86 ?_
        refine lv_istore (lv' := [(4, .int (nI (((v + 6) + 96) % 256))), (3, .int (nI ((v + 6) + 96))), (2, .int (nI 1)), (0, .ref a.2.2.1), (1, .int (nI v))]) K.1 K.2.1 d_F_decimalOf_87 hl (by decide) rfl (fun ls hl => ?_)
        refine lv_aload_n K.1 K.2.1 d_F_decimalOf_89 rfl (lv_at hl 3 rfl) ?_
        refine lv_iload K.1 K.2.1 d_F_decimalOf_90 (lv_at hl 0 rfl) ?_
        refine pkv K (c_judge (σ := z_s_ca (z_s_au σ (if ((v % 16) + 6) ≤ 15 then 0 else 1)) 1) (v := ((v + 6) + 96) % 256) l D cI a hO26 (by omega)) (cw_F_46 K (Nat.le_of_ble_eq_true rfl) (Nat.le_of_ble_eq_true rfl)) hw (va_recv (ci := 2) (q0 := 2) hw.2.2.2.1 hw.1 rfl rfl) rfl hl.1 rfl (Nat.le_of_ble_eq_true rfl) d_F_decimalOf_92 ⟨Nat.zero_le _, Nat.zero_le _⟩ (fun H locs hw => ?_)
        have hO27 : z_Ok (z_jd (z_s_ca (z_s_au σ (if ((v % 16) + 6) ≤ 15 then 0 else 1)) 1) (((v + 6) + 96) % 256)) := z_ok_jd hO26 (by omega)
        refine lv_iload K.1 K.2.1 d_F_decimalOf_95 (lv_at hl 0 rfl) ?_
        exact pri K hr hlk hw (dd_of (by first | (rw [if_pos (by omega)]; done) | (rw [if_neg (by omega)]; done) | (split <;> split <;> omega) | (split <;> omega)) (by unfold z_d6; first | (rw [if_pos (by omega)]; done) | (rw [if_neg (by omega)]; done)) (by omega)) (congrArg nI (dv_of (by unfold z_d6; first | (rw [if_pos (by omega)]; done) | (rw [if_neg (by omega)]; done)) (by omega))) d_F_decimalOf_97
      · refine lv_aload_n K.1 K.2.1 d_F_decimalOf_67 rfl (lv_at hl 2 rfl) ?_
        refine pg_F_carry (v := z_x_ca σ) K hw rfl d_F_decimalOf_68 ?_
        have hb28 : z_x_ca σ < 2 := z_k_ca hO
        refine nv_if_eq K (by omega) d_F_decimalOf_71 rfl (fun h29 => ?_) (fun h29 => ?_)
        · refine lv_iload_n K.1 K.2.1 d_F_decimalOf_82 rfl (lv_at hl 0 rfl) ?_
          refine nv_sipush (v := 255) K d_F_decimalOf_83 (by decide) ?_
          refine nv_mask (M := 256) K 8 rfl rfl d_F_decimalOf_86 ?_
          refine lv_istore (lv' := [(4, .int (nI ((v + 6) % 256))), (3, .int (nI (v + 6))), (2, .int (nI 1)), (0, .ref a.2.2.1), (1, .int (nI v))]) K.1 K.2.1 d_F_decimalOf_87 hl (by decide) rfl (fun ls hl => ?_)
          refine lv_aload_n K.1 K.2.1 d_F_decimalOf_89 rfl (lv_at hl 3 rfl) ?_
          refine lv_iload K.1 K.2.1 d_F_decimalOf_90 (lv_at hl 0 rfl) ?_
          refine pkv K (c_judge (σ := z_s_au σ (if ((v % 16) + 6) ≤ 15 then 0 else 1)) (v := (v + 6) % 256) l D cI a hO24 (by omega)) (cw_F_46 K (Nat.le_of_ble_eq_true rfl) (Nat.le_of_ble_eq_true rfl)) hw (va_recv (ci := 2) (q0 := 2) hw.2.2.2.1 hw.1 rfl rfl) rfl hl.1 rfl (Nat.le_of_ble_eq_true rfl) d_F_decimalOf_92 ⟨Nat.zero_le _, Nat.zero_le _⟩ (fun H locs hw => ?_)
          have hO30 : z_Ok (z_jd (z_s_au σ (if ((v % 16) + 6) ≤ 15 then 0 else 1)) ((v + 6) % 256)) := z_ok_jd hO24 (by omega)
          refine lv_iload K.1 K.2.1 d_F_decimalOf_95 (lv_at hl 0 rfl) ?_
          exact pri K hr hlk hw (dd_of0 (by first | (rw [if_pos (by omega)]; done) | (rw [if_neg (by omega)]; done) | (split <;> split <;> omega) | (split <;> omega)) (by unfold z_d6; first | (rw [if_pos (by omega)]; done) | (rw [if_neg (by omega)]; done)) (by omega) (z_k_ca hO)) (congrArg nI (dv_of0 (by unfold z_d6; first | (rw [if_pos (by omega)]; done) | (rw [if_neg (by omega)]; done)) (by omega))) d_F_decimalOf_97
        · refine lv_iinc (k := 0) (v := nI ((v + 6) + 96)) (lv' := [(3, .int (nI ((v + 6) + 96))), (2, .int (nI 1)), (0, .ref a.2.2.1), (1, .int (nI v))]) K.1 K.2.1 d_F_decimalOf_74 hl rfl (nI_add _ _) (by decide) rfl (fun ls hl => ?_)
          refine lv_aload_n K.1 K.2.1 d_F_decimalOf_77 rfl (lv_at hl 2 rfl) ?_
          refine nv_iconst (v := 1) K d_F_decimalOf_78 (by decide) ?_
          refine pp_F_carry (v := 1) K hw (by omega) d_F_decimalOf_79 (fun H locs hw => ?_)
          have hO31 : z_Ok (z_s_ca (z_s_au σ (if ((v % 16) + 6) ≤ 15 then 0 else 1)) 1) := z_ok_ca hO24 (by omega)
          refine lv_iload_n K.1 K.2.1 d_F_decimalOf_82 rfl (lv_at hl 0 rfl) ?_
          refine nv_sipush (v := 255) K d_F_decimalOf_83 (by decide) ?_
          refine nv_mask (M := 256) K 8 rfl rfl d_F_decimalOf_86 ?_
          refine lv_istore (lv' := [(4, .int (nI (((v + 6) + 96) % 256))), (3, .int (nI ((v + 6) + 96))), (2, .int (nI 1)), (0, .ref a.2.2.1), (1, .int (nI v))]) K.1 K.2.1 d_F_decimalOf_87 hl (by decide) rfl (fun ls hl => ?_)
          refine lv_aload_n K.1 K.2.1 d_F_decimalOf_89 rfl (lv_at hl 3 rfl) ?_
          refine lv_iload K.1 K.2.1 d_F_decimalOf_90 (lv_at hl 0 rfl) ?_
          refine pkv K (c_judge (σ := z_s_ca (z_s_au σ (if ((v % 16) + 6) ≤ 15 then 0 else 1)) 1) (v := ((v + 6) + 96) % 256) l D cI a hO31 (by omega)) (cw_F_46 K (Nat.le_of_ble_eq_true rfl) (Nat.le_of_ble_eq_true rfl)) hw (va_recv (ci := 2) (q0 := 2) hw.2.2.2.1 hw.1 rfl rfl) rfl hl.1 rfl (Nat.le_of_ble_eq_true rfl) d_F_decimalOf_92 ⟨Nat.zero_le _, Nat.zero_le _⟩ (fun H locs hw => ?_)
          have hO32 : z_Ok (z_jd (z_s_ca (z_s_au σ (if ((v % 16) + 6) ≤ 15 then 0 else 1)) 1) (((v + 6) + 96) % 256)) := z_ok_jd hO31 (by omega)
          refine lv_iload K.1 K.2.1 d_F_decimalOf_95 (lv_at hl 0 rfl) ?_
          exact pri K hr hlk hw (dd_of (by first | (rw [if_pos (by omega)]; done) | (rw [if_neg (by omega)]; done) | (split <;> split <;> omega) | (split <;> omega)) (by unfold z_d6; first | (rw [if_pos (by omega)]; done) | (rw [if_neg (by omega)]; done)) (by omega)) (congrArg nI (dv_of (by unfold z_d6; first | (rw [if_pos (by omega)]; done) | (rw [if_neg (by omega)]; done)) (by omega))) d_F_decimalOf_97

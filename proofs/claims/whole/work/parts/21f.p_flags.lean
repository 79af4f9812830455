set_option maxHeartbeats 4000000 in
set_option maxRecDepth 100000 in
theorem c_combined {σ : z_St} {k x y : Nat} (l : Launch) (D : va_G) (cI : ClassId) (a : pAd) (hO : z_Ok σ) (hk : k < 8) (hx : x < 256) (hy : y < 256) : pCi l y_F_combined w_F_combined 2 48 D cI a [.ref a.2.2.1, .int (nI k), .int (nI x), .int (nI y)] σ (z_cm σ k x y) (nI (z_cv σ k x y)) := by
  refine pci_of (cc := b_F_combined) (maxL := 5) (ret := (some .int)) (by decide) rfl (Nat.le_of_ble_eq_true rfl) ?_
  intro p e s m below meth c ls K hr hlk hl hw
  have K : CallFix p m c b_F_combined 5 s _ (_ :: T0) "PortProcessor$Flags" := K
  have hl : lv_has ls 5 [(0, .ref a.2.2.1), (1, .int (nI k)), (2, .int (nI x)), (3, .int (nI y))] := hl
  refine lv_iload_n K.1 K.2.1 d_F_combined_0 rfl (lv_at hl 1 rfl) ?_
  rcases (by omega : k = 0 ∨ k = 1 ∨ k = 2 ∨ k = 3 ∨ k = 4 ∨ k = 5 ∨ k = 6 ∨ k = 7) with h1 | h1 | h1 | h1 | h1 | h1 | h1 | h1
  · refine nv_as K (congrArg nI h1) ?_
    refine nv_tabIn (a := 0) (tgt := 44) K d_F_combined_1 (by decide) (by decide) (by decide) rfl rfl ?_
    refine lv_aload_n K.1 K.2.1 d_F_combined_44 rfl (lv_at hl 0 rfl) ?_
    refine lv_iload_n K.1 K.2.1 d_F_combined_45 rfl (lv_at hl 2 rfl) ?_
    refine lv_iload_n K.1 K.2.1 d_F_combined_46 rfl (lv_at hl 3 rfl) ?_
    refine nv_iconst (v := 0) K d_F_combined_47 (by decide) ?_
    refine pki K (c_sum (σ := σ) (x := x) (y := y) (z := 0) l D cI a hO (by omega) (by omega) (by omega)) (cw_F_31 K (Nat.le_of_ble_eq_true rfl) (Nat.le_of_ble_eq_true rfl)) hw (va_recv (ci := 2) (q0 := 2) hw.2.2.2.1 hw.1 rfl rfl) rfl hl.1 rfl (Nat.le_of_ble_eq_true rfl) d_F_combined_48 ⟨Nat.zero_le _, Nat.zero_le _⟩ (fun H locs hw => ?_)
    have hO2 : z_Ok (z_s_ca (z_s_au σ (z_g1 x y 0)) (z_g2 x y 0)) := z_ok_ca (z_ok_au hO (z_g1_lt _ _ _)) (z_g2_lt _ _ _)
    refine lv_istore (lv' := [(4, .int (nI ((x + y + 0) % 256))), (0, .ref a.2.2.1), (1, .int (nI k)), (2, .int (nI x)), (3, .int (nI y))]) K.1 K.2.1 d_F_combined_51 hl (by decide) rfl (fun ls hl => ?_)
    refine lv_goto K.1 K.2.1 d_F_combined_53 rfl ?_
    refine lv_aload_n K.1 K.2.1 d_F_combined_147 rfl (lv_at hl 1 rfl) ?_
    refine lv_iload K.1 K.2.1 d_F_combined_148 (lv_at hl 0 rfl) ?_
    refine pkv K (c_judge (σ := z_s_ca (z_s_au σ (z_g1 x y 0)) (z_g2 x y 0)) (v := (x + y + 0) % 256) l D cI a hO2 (by omega)) (cw_F_46 K (Nat.le_of_ble_eq_true rfl) (Nat.le_of_ble_eq_true rfl)) hw (va_recv (ci := 2) (q0 := 2) hw.2.2.2.1 hw.1 rfl rfl) rfl hl.1 rfl (Nat.le_of_ble_eq_true rfl) d_F_combined_150 ⟨Nat.zero_le _, Nat.zero_le _⟩ (fun H locs hw => ?_)
    have hO3 : z_Ok (z_jd (z_s_ca (z_s_au σ (z_g1 x y 0)) (z_g2 x y 0)) ((x + y + 0) % 256)) := z_ok_jd hO2 (by omega)
    refine lv_iload_n K.1 K.2.1 d_F_combined_153 rfl (lv_at hl 2 rfl) ?_
    refine nv_bipush (v := 7) K d_F_combined_154 (by decide) ?_
    refine nf_icmp_ne (u := (x + y + 0) % 256) (v := x) (Y := 165) K (by omega) (by omega) d_F_combined_156 rfl (fun _ k => lv_iload K.1 K.2.1 d_F_combined_163 (lv_at hl 0 rfl) k) (fun _ k => lv_iload_n K.1 K.2.1 d_F_combined_159 rfl (lv_at hl 3 rfl) (lv_goto K.1 K.2.1 d_F_combined_160 rfl k)) ?_
    exact pri K hr hlk hw (by subst h1; first | rfl | (rw [nz_a8 hx hy]; rfl)) (by subst h1; rfl) d_F_combined_165
  · refine nv_as K (congrArg nI h1) ?_
    refine nv_tabIn (a := 1) (tgt := 56) K d_F_combined_1 (by decide) (by decide) (by decide) rfl rfl ?_
    refine lv_aload_n K.1 K.2.1 d_F_combined_56 rfl (lv_at hl 0 rfl) ?_
    refine lv_iload_n K.1 K.2.1 d_F_combined_57 rfl (lv_at hl 2 rfl) ?_
    refine lv_iload_n K.1 K.2.1 d_F_combined_58 rfl (lv_at hl 3 rfl) ?_
    refine lv_aload_n K.1 K.2.1 d_F_combined_59 rfl (lv_at hl 0 rfl) ?_
    refine pki K (c_carryBit (σ := σ) l D cI a hO) (cw_F_35 K (Nat.le_of_ble_eq_true rfl) (Nat.le_of_ble_eq_true rfl)) hw (va_recv (ci := 2) (q0 := 2) hw.2.2.2.1 hw.1 rfl rfl) rfl hl.1 rfl (Nat.le_of_ble_eq_true rfl) d_F_combined_60 ⟨Nat.zero_le _, Nat.zero_le _⟩ (fun H locs hw => ?_)
    have hb4 : z_x_ca σ < 2 := z_k_ca hO
    refine pki K (c_sum (σ := σ) (x := x) (y := y) (z := z_x_ca σ) l D cI a hO (by omega) (by omega) (by omega)) (cw_F_31 K (Nat.le_of_ble_eq_true rfl) (Nat.le_of_ble_eq_true rfl)) hw (va_recv (ci := 2) (q0 := 2) hw.2.2.2.1 hw.1 rfl rfl) rfl hl.1 rfl (Nat.le_of_ble_eq_true rfl) d_F_combined_63 ⟨Nat.zero_le _, Nat.zero_le _⟩ (fun H locs hw => ?_)
    have hO5 : z_Ok (z_s_ca (z_s_au σ (z_g1 x y (z_x_ca σ))) (z_g2 x y (z_x_ca σ))) := z_ok_ca (z_ok_au hO (z_g1_lt _ _ _)) (z_g2_lt _ _ _)
    refine lv_istore (lv' := [(4, .int (nI ((x + y + (z_x_ca σ)) % 256))), (0, .ref a.2.2.1), (1, .int (nI k)), (2, .int (nI x)), (3, .int (nI y))]) K.1 K.2.1 d_F_combined_66 hl (by decide) rfl (fun ls hl => ?_)
    refine lv_goto K.1 K.2.1 d_F_combined_68 rfl ?_
    refine lv_aload_n K.1 K.2.1 d_F_combined_147 rfl (lv_at hl 1 rfl) ?_
    refine lv_iload K.1 K.2.1 d_F_combined_148 (lv_at hl 0 rfl) ?_
    refine pkv K (c_judge (σ := z_s_ca (z_s_au σ (z_g1 x y (z_x_ca σ))) (z_g2 x y (z_x_ca σ))) (v := (x + y + (z_x_ca σ)) % 256) l D cI a hO5 (by omega)) (cw_F_46 K (Nat.le_of_ble_eq_true rfl) (Nat.le_of_ble_eq_true rfl)) hw (va_recv (ci := 2) (q0 := 2) hw.2.2.2.1 hw.1 rfl rfl) rfl hl.1 rfl (Nat.le_of_ble_eq_true rfl) d_F_combined_150 ⟨Nat.zero_le _, Nat.zero_le _⟩ (fun H locs hw => ?_)
    have hO6 : z_Ok (z_jd (z_s_ca (z_s_au σ (z_g1 x y (z_x_ca σ))) (z_g2 x y (z_x_ca σ))) ((x + y + (z_x_ca σ)) % 256)) := z_ok_jd hO5 (by omega)
    refine lv_iload_n K.1 K.2.1 d_F_combined_153 rfl (lv_at hl 2 rfl) ?_
    refine nv_bipush (v := 7) K d_F_combined_154 (by decide) ?_
    refine nf_icmp_ne (u := (x + y + (z_x_ca σ)) % 256) (v := x) (Y := 165) K (by omega) (by omega) d_F_combined_156 rfl (fun _ k => lv_iload K.1 K.2.1 d_F_combined_163 (lv_at hl 0 rfl) k) (fun _ k => lv_iload_n K.1 K.2.1 d_F_combined_159 rfl (lv_at hl 3 rfl) (lv_goto K.1 K.2.1 d_F_combined_160 rfl k)) ?_
    exact pri K hr hlk hw (by subst h1; first | rfl | (rw [nz_a8 hx hy]; rfl)) (by subst h1; rfl) d_F_combined_165
  · refine nv_as K (congrArg nI h1) ?_
    refine nv_tabIn (a := 2) (tgt := 138) K d_F_combined_1 (by decide) (by decide) (by decide) rfl rfl ?_
    refine lv_aload_n K.1 K.2.1 d_F_combined_138 rfl (lv_at hl 0 rfl) ?_
    refine lv_iload_n K.1 K.2.1 d_F_combined_139 rfl (lv_at hl 2 rfl) ?_
    refine lv_iload_n K.1 K.2.1 d_F_combined_140 rfl (lv_at hl 3 rfl) ?_
    refine nv_iconst (v := 0) K d_F_combined_141 (by decide) ?_
    refine pki K (c_difference (σ := σ) (x := x) (y := y) (z := 0) l D cI a hO (by omega) (by omega) (by omega)) (cw_F_39 K (Nat.le_of_ble_eq_true rfl) (Nat.le_of_ble_eq_true rfl)) hw (va_recv (ci := 2) (q0 := 2) hw.2.2.2.1 hw.1 rfl rfl) rfl hl.1 rfl (Nat.le_of_ble_eq_true rfl) d_F_combined_142 ⟨Nat.zero_le _, Nat.zero_le _⟩ (fun H locs hw => ?_)
    have hO7 : z_Ok (z_s_ca (z_s_au σ (z_g1 x (255 - y) (1 - 0))) (1 - z_g2 x (255 - y) (1 - 0))) := z_ok_ca (z_ok_au hO (z_g1_lt _ _ _)) (by omega)
    refine lv_istore (lv' := [(4, .int (nI ((x + (255 - y) + (1 - 0)) % 256))), (0, .ref a.2.2.1), (1, .int (nI k)), (2, .int (nI x)), (3, .int (nI y))]) K.1 K.2.1 d_F_combined_145 hl (by decide) rfl (fun ls hl => ?_)
    refine lv_aload_n K.1 K.2.1 d_F_combined_147 rfl (lv_at hl 1 rfl) ?_
    refine lv_iload K.1 K.2.1 d_F_combined_148 (lv_at hl 0 rfl) ?_
    refine pkv K (c_judge (σ := z_s_ca (z_s_au σ (z_g1 x (255 - y) (1 - 0))) (1 - z_g2 x (255 - y) (1 - 0))) (v := (x + (255 - y) + (1 - 0)) % 256) l D cI a hO7 (by omega)) (cw_F_46 K (Nat.le_of_ble_eq_true rfl) (Nat.le_of_ble_eq_true rfl)) hw (va_recv (ci := 2) (q0 := 2) hw.2.2.2.1 hw.1 rfl rfl) rfl hl.1 rfl (Nat.le_of_ble_eq_true rfl) d_F_combined_150 ⟨Nat.zero_le _, Nat.zero_le _⟩ (fun H locs hw => ?_)
    have hO8 : z_Ok (z_jd (z_s_ca (z_s_au σ (z_g1 x (255 - y) (1 - 0))) (1 - z_g2 x (255 - y) (1 - 0))) ((x + (255 - y) + (1 - 0)) % 256)) := z_ok_jd hO7 (by omega)
    refine lv_iload_n K.1 K.2.1 d_F_combined_153 rfl (lv_at hl 2 rfl) ?_
    refine nv_bipush (v := 7) K d_F_combined_154 (by decide) ?_
    refine nf_icmp_ne (u := (x + (255 - y) + (1 - 0)) % 256) (v := x) (Y := 165) K (by omega) (by omega) d_F_combined_156 rfl (fun _ k => lv_iload K.1 K.2.1 d_F_combined_163 (lv_at hl 0 rfl) k) (fun _ k => lv_iload_n K.1 K.2.1 d_F_combined_159 rfl (lv_at hl 3 rfl) (lv_goto K.1 K.2.1 d_F_combined_160 rfl k)) ?_
    exact pri K hr hlk hw (by subst h1; first | rfl | (rw [nz_a8 hx hy]; rfl)) (by subst h1; rfl) d_F_combined_165
  · refine nv_as K (congrArg nI h1) ?_
    refine nv_tabIn (a := 3) (tgt := 71) K d_F_combined_1 (by decide) (by decide) (by decide) rfl rfl ?_
    refine lv_aload_n K.1 K.2.1 d_F_combined_71 rfl (lv_at hl 0 rfl) ?_
    refine lv_iload_n K.1 K.2.1 d_F_combined_72 rfl (lv_at hl 2 rfl) ?_
    refine lv_iload_n K.1 K.2.1 d_F_combined_73 rfl (lv_at hl 3 rfl) ?_
    refine lv_aload_n K.1 K.2.1 d_F_combined_74 rfl (lv_at hl 0 rfl) ?_
    refine pki K (c_carryBit (σ := σ) l D cI a hO) (cw_F_35 K (Nat.le_of_ble_eq_true rfl) (Nat.le_of_ble_eq_true rfl)) hw (va_recv (ci := 2) (q0 := 2) hw.2.2.2.1 hw.1 rfl rfl) rfl hl.1 rfl (Nat.le_of_ble_eq_true rfl) d_F_combined_75 ⟨Nat.zero_le _, Nat.zero_le _⟩ (fun H locs hw => ?_)
    have hb9 : z_x_ca σ < 2 := z_k_ca hO
    refine pki K (c_difference (σ := σ) (x := x) (y := y) (z := z_x_ca σ) l D cI a hO (by omega) (by omega) (by omega)) (cw_F_39 K (Nat.le_of_ble_eq_true rfl) (Nat.le_of_ble_eq_true rfl)) hw (va_recv (ci := 2) (q0 := 2) hw.2.2.2.1 hw.1 rfl rfl) rfl hl.1 rfl (Nat.le_of_ble_eq_true rfl) d_F_combined_78 ⟨Nat.zero_le _, Nat.zero_le _⟩ (fun H locs hw => ?_)
    have hO10 : z_Ok (z_s_ca (z_s_au σ (z_g1 x (255 - y) (1 - (z_x_ca σ)))) (1 - z_g2 x (255 - y) (1 - (z_x_ca σ)))) := z_ok_ca (z_ok_au hO (z_g1_lt _ _ _)) (by omega)
    refine lv_istore (lv' := [(4, .int (nI ((x + (255 - y) + (1 - (z_x_ca σ))) % 256))), (0, .ref a.2.2.1), (1, .int (nI k)), (2, .int (nI x)), (3, .int (nI y))]) K.1 K.2.1 d_F_combined_81 hl (by decide) rfl (fun ls hl => ?_)
    refine lv_goto K.1 K.2.1 d_F_combined_83 rfl ?_
    refine lv_aload_n K.1 K.2.1 d_F_combined_147 rfl (lv_at hl 1 rfl) ?_
    refine lv_iload K.1 K.2.1 d_F_combined_148 (lv_at hl 0 rfl) ?_
    refine pkv K (c_judge (σ := z_s_ca (z_s_au σ (z_g1 x (255 - y) (1 - (z_x_ca σ)))) (1 - z_g2 x (255 - y) (1 - (z_x_ca σ)))) (v := (x + (255 - y) + (1 - (z_x_ca σ))) % 256) l D cI a hO10 (by omega)) (cw_F_46 K (Nat.le_of_ble_eq_true rfl) (Nat.le_of_ble_eq_true rfl)) hw (va_recv (ci := 2) (q0 := 2) hw.2.2.2.1 hw.1 rfl rfl) rfl hl.1 rfl (Nat.le_of_ble_eq_true rfl) d_F_combined_150 ⟨Nat.zero_le _, Nat.zero_le _⟩ (fun H locs hw => ?_)
    have hO11 : z_Ok (z_jd (z_s_ca (z_s_au σ (z_g1 x (255 - y) (1 - (z_x_ca σ)))) (1 - z_g2 x (255 - y) (1 - (z_x_ca σ)))) ((x + (255 - y) + (1 - (z_x_ca σ))) % 256)) := z_ok_jd hO10 (by omega)
    refine lv_iload_n K.1 K.2.1 d_F_combined_153 rfl (lv_at hl 2 rfl) ?_
    refine nv_bipush (v := 7) K d_F_combined_154 (by decide) ?_
    refine nf_icmp_ne (u := (x + (255 - y) + (1 - (z_x_ca σ))) % 256) (v := x) (Y := 165) K (by omega) (by omega) d_F_combined_156 rfl (fun _ k => lv_iload K.1 K.2.1 d_F_combined_163 (lv_at hl 0 rfl) k) (fun _ k => lv_iload_n K.1 K.2.1 d_F_combined_159 rfl (lv_at hl 3 rfl) (lv_goto K.1 K.2.1 d_F_combined_160 rfl k)) ?_
    exact pri K hr hlk hw (by subst h1; first | rfl | (rw [nz_a8 hx hy]; rfl)) (by subst h1; rfl) d_F_combined_165
  · refine nv_as K (congrArg nI h1) ?_
    refine nv_tabIn (a := 4) (tgt := 86) K d_F_combined_1 (by decide) (by decide) (by decide) rfl rfl ?_
    refine lv_aload_n K.1 K.2.1 d_F_combined_86 rfl (lv_at hl 0 rfl) ?_
    refine lv_iload_n K.1 K.2.1 d_F_combined_87 rfl (lv_at hl 2 rfl) ?_
    refine lv_iload_n K.1 K.2.1 d_F_combined_88 rfl (lv_at hl 3 rfl) ?_
    refine nv_iand K d_F_combined_89 ?_
    have hb12 : x &&& y ≤ y := Nat.and_le_right
    refine lv_iload_n K.1 K.2.1 d_F_combined_90 rfl (lv_at hl 2 rfl) ?_
    refine lv_iload_n K.1 K.2.1 d_F_combined_91 rfl (lv_at hl 3 rfl) ?_
    refine nv_ior K d_F_combined_92 ?_
    have hb13 : x ||| y < 256 := (z_bit_lt (by omega) (by omega)).2.2
    refine nv_bipush (v := 8) K d_F_combined_93 (by decide) ?_
    refine nv_iand K d_F_combined_95 ?_
    have hb14 : (x ||| y) &&& 8 ≤ 8 := Nat.and_le_right
    refine nf_if_eq (u := 0) (v := 1) (Y := 104) K (by omega) d_F_combined_96 rfl (fun _ k => nv_iconst (v := 0) K d_F_combined_103 (by decide) k) (fun _ k => nv_iconst (v := 1) K d_F_combined_99 (by decide) (lv_goto K.1 K.2.1 d_F_combined_100 rfl k)) ?_
    have hb15 : (if ((x ||| y) &&& 8) = 0 then 0 else 1) < 2 := z_ite_ltB _ (by omega) (by omega)
    refine pki K (c_logical (σ := σ) (x := x &&& y) (z := (if ((x ||| y) &&& 8) = 0 then 0 else 1)) l D cI a hO (by omega) (by omega)) (cw_F_42 K (Nat.le_of_ble_eq_true rfl) (Nat.le_of_ble_eq_true rfl)) hw (va_recv (ci := 2) (q0 := 2) hw.2.2.2.1 hw.1 rfl rfl) rfl hl.1 rfl (Nat.le_of_ble_eq_true rfl) d_F_combined_104 ⟨Nat.zero_le _, Nat.zero_le _⟩ (fun H locs hw => ?_)
    have hO16 : z_Ok (z_s_ca (z_s_au σ (if ((x ||| y) &&& 8) = 0 then 0 else 1)) 0) := z_ok_ca (z_ok_au hO (by omega)) (by omega)
    refine lv_istore (lv' := [(4, .int (nI (x &&& y))), (0, .ref a.2.2.1), (1, .int (nI k)), (2, .int (nI x)), (3, .int (nI y))]) K.1 K.2.1 d_F_combined_107 hl (by decide) rfl (fun ls hl => ?_)
    refine lv_goto K.1 K.2.1 d_F_combined_109 rfl ?_
    refine lv_aload_n K.1 K.2.1 d_F_combined_147 rfl (lv_at hl 1 rfl) ?_
    refine lv_iload K.1 K.2.1 d_F_combined_148 (lv_at hl 0 rfl) ?_
    refine pkv K (c_judge (σ := z_s_ca (z_s_au σ (if ((x ||| y) &&& 8) = 0 then 0 else 1)) 0) (v := (x &&& y)) l D cI a hO16 (by omega)) (cw_F_46 K (Nat.le_of_ble_eq_true rfl) (Nat.le_of_ble_eq_true rfl)) hw (va_recv (ci := 2) (q0 := 2) hw.2.2.2.1 hw.1 rfl rfl) rfl hl.1 rfl (Nat.le_of_ble_eq_true rfl) d_F_combined_150 ⟨Nat.zero_le _, Nat.zero_le _⟩ (fun H locs hw => ?_)
    have hO17 : z_Ok (z_jd (z_s_ca (z_s_au σ (if ((x ||| y) &&& 8) = 0 then 0 else 1)) 0) (x &&& y)) := z_ok_jd hO16 (by omega)
    refine lv_iload_n K.1 K.2.1 d_F_combined_153 rfl (lv_at hl 2 rfl) ?_
    refine nv_bipush (v := 7) K d_F_combined_154 (by decide) ?_
    refine nf_icmp_ne (u := (x &&& y)) (v := x) (Y := 165) K (by omega) (by omega) d_F_combined_156 rfl (fun _ k => lv_iload K.1 K.2.1 d_F_combined_163 (lv_at hl 0 rfl) k) (fun _ k => lv_iload_n K.1 K.2.1 d_F_combined_159 rfl (lv_at hl 3 rfl) (lv_goto K.1 K.2.1 d_F_combined_160 rfl k)) ?_
    exact pri K hr hlk hw (by subst h1; first | rfl | (rw [nz_a8 hx hy]; rfl)) (by subst h1; rfl) d_F_combined_165
  · refine nv_as K (congrArg nI h1) ?_
    refine nv_tabIn (a := 5) (tgt := 112) K d_F_combined_1 (by decide) (by decide) (by decide) rfl rfl ?_
    refine lv_aload_n K.1 K.2.1 d_F_combined_112 rfl (lv_at hl 0 rfl) ?_
    refine lv_iload_n K.1 K.2.1 d_F_combined_113 rfl (lv_at hl 2 rfl) ?_
    refine lv_iload_n K.1 K.2.1 d_F_combined_114 rfl (lv_at hl 3 rfl) ?_
    refine nv_ixor K d_F_combined_115 ?_
    have hb18 : x ^^^ y < 256 := (z_bit_lt (by omega) (by omega)).2.1
    refine nv_iconst (v := 0) K d_F_combined_116 (by decide) ?_
    refine pki K (c_logical (σ := σ) (x := x ^^^ y) (z := 0) l D cI a hO (by omega) (by omega)) (cw_F_42 K (Nat.le_of_ble_eq_true rfl) (Nat.le_of_ble_eq_true rfl)) hw (va_recv (ci := 2) (q0 := 2) hw.2.2.2.1 hw.1 rfl rfl) rfl hl.1 rfl (Nat.le_of_ble_eq_true rfl) d_F_combined_117 ⟨Nat.zero_le _, Nat.zero_le _⟩ (fun H locs hw => ?_)
    have hO19 : z_Ok (z_s_ca (z_s_au σ 0) 0) := z_ok_ca (z_ok_au hO (by omega)) (by omega)
    refine lv_istore (lv' := [(4, .int (nI (x ^^^ y))), (0, .ref a.2.2.1), (1, .int (nI k)), (2, .int (nI x)), (3, .int (nI y))]) K.1 K.2.1 d_F_combined_120 hl (by decide) rfl (fun ls hl => ?_)
    refine lv_goto K.1 K.2.1 d_F_combined_122 rfl ?_
    refine lv_aload_n K.1 K.2.1 d_F_combined_147 rfl (lv_at hl 1 rfl) ?_
    refine lv_iload K.1 K.2.1 d_F_combined_148 (lv_at hl 0 rfl) ?_
    refine pkv K (c_judge (σ := z_s_ca (z_s_au σ 0) 0) (v := (x ^^^ y)) l D cI a hO19 (by omega)) (cw_F_46 K (Nat.le_of_ble_eq_true rfl) (Nat.le_of_ble_eq_true rfl)) hw (va_recv (ci := 2) (q0 := 2) hw.2.2.2.1 hw.1 rfl rfl) rfl hl.1 rfl (Nat.le_of_ble_eq_true rfl) d_F_combined_150 ⟨Nat.zero_le _, Nat.zero_le _⟩ (fun H locs hw => ?_)
    have hO20 : z_Ok (z_jd (z_s_ca (z_s_au σ 0) 0) (x ^^^ y)) := z_ok_jd hO19 (by omega)
    refine lv_iload_n K.1 K.2.1 d_F_combined_153 rfl (lv_at hl 2 rfl) ?_
    refine nv_bipush (v := 7) K d_F_combined_154 (by decide) ?_
    refine nf_icmp_ne (u := (x ^^^ y)) (v := x) (Y := 165) K (by omega) (by omega) d_F_combined_156 rfl (fun _ k => lv_iload K.1 K.2.1 d_F_combined_163 (lv_at hl 0 rfl) k) (fun _ k => lv_iload_n K.1 K.2.1 d_F_combined_159 rfl (lv_at hl 3 rfl) (lv_goto K.1 K.2.1 d_F_combined_160 rfl k)) ?_
    exact pri K hr hlk hw (by subst h1; first | rfl | (rw [nz_a8 hx hy]; rfl)) (by subst h1; rfl) d_F_combined_165
  · refine nv_as K (congrArg nI h1) ?_
    refine nv_tabIn (a := 6) (tgt := 125) K d_F_combined_1 (by decide) (by decide) (by decide) rfl rfl ?_
    refine lv_aload_n K.1 K.2.1 d_F_combined_125 rfl (lv_at hl 0 rfl) ?_
    refine lv_iload_n K.1 K.2.1 d_F_combined_126 rfl (lv_at hl 2 rfl) ?_
    refine lv_iload_n K.1 K.2.1 d_F_combined_127 rfl (lv_at hl 3 rfl) ?_
    refine nv_ior K d_F_combined_128 ?_
    have hb21 : x ||| y < 256 := (z_bit_lt (by omega) (by omega)).2.2
    refine nv_iconst (v := 0) K d_F_combined_129 (by decide) ?_
    refine pki K (c_logical (σ := σ) (x := x ||| y) (z := 0) l D cI a hO (by omega) (by omega)) (cw_F_42 K (Nat.le_of_ble_eq_true rfl) (Nat.le_of_ble_eq_true rfl)) hw (va_recv (ci := 2) (q0 := 2) hw.2.2.2.1 hw.1 rfl rfl) rfl hl.1 rfl (Nat.le_of_ble_eq_true rfl) d_F_combined_130 ⟨Nat.zero_le _, Nat.zero_le _⟩ (fun H locs hw => ?_)
    have hO22 : z_Ok (z_s_ca (z_s_au σ 0) 0) := z_ok_ca (z_ok_au hO (by omega)) (by omega)
    refine lv_istore (lv' := [(4, .int (nI (x ||| y))), (0, .ref a.2.2.1), (1, .int (nI k)), (2, .int (nI x)), (3, .int (nI y))]) K.1 K.2.1 d_F_combined_133 hl (by decide) rfl (fun ls hl => ?_)
    refine lv_goto K.1 K.2.1 d_F_combined_135 rfl ?_
    refine lv_aload_n K.1 K.2.1 d_F_combined_147 rfl (lv_at hl 1 rfl) ?_
    refine lv_iload K.1 K.2.1 d_F_combined_148 (lv_at hl 0 rfl) ?_
    refine pkv K (c_judge (σ := z_s_ca (z_s_au σ 0) 0) (v := (x ||| y)) l D cI a hO22 (by omega)) (cw_F_46 K (Nat.le_of_ble_eq_true rfl) (Nat.le_of_ble_eq_true rfl)) hw (va_recv (ci := 2) (q0 := 2) hw.2.2.2.1 hw.1 rfl rfl) rfl hl.1 rfl (Nat.le_of_ble_eq_true rfl) d_F_combined_150 ⟨Nat.zero_le _, Nat.zero_le _⟩ (fun H locs hw => ?_)
    have hO23 : z_Ok (z_jd (z_s_ca (z_s_au σ 0) 0) (x ||| y)) := z_ok_jd hO22 (by omega)
    refine lv_iload_n K.1 K.2.1 d_F_combined_153 rfl (lv_at hl 2 rfl) ?_
    refine nv_bipush (v := 7) K d_F_combined_154 (by decide) ?_
    refine nf_icmp_ne (u := (x ||| y)) (v := x) (Y := 165) K (by omega) (by omega) d_F_combined_156 rfl (fun _ k => lv_iload K.1 K.2.1 d_F_combined_163 (lv_at hl 0 rfl) k) (fun _ k => lv_iload_n K.1 K.2.1 d_F_combined_159 rfl (lv_at hl 3 rfl) (lv_goto K.1 K.2.1 d_F_combined_160 rfl k)) ?_
    exact pri K hr hlk hw (by subst h1; first | rfl | (rw [nz_a8 hx hy]; rfl)) (by subst h1; rfl) d_F_combined_165
  · refine nv_as K (congrArg nI h1) ?_
    refine nv_tabOut (a := 7) (tgt := 138) K d_F_combined_1 (by decide) (by decide) rfl ?_
    refine lv_aload_n K.1 K.2.1 d_F_combined_138 rfl (lv_at hl 0 rfl) ?_
    refine lv_iload_n K.1 K.2.1 d_F_combined_139 rfl (lv_at hl 2 rfl) ?_
    refine lv_iload_n K.1 K.2.1 d_F_combined_140 rfl (lv_at hl 3 rfl) ?_
    refine nv_iconst (v := 0) K d_F_combined_141 (by decide) ?_
    refine pki K (c_difference (σ := σ) (x := x) (y := y) (z := 0) l D cI a hO (by omega) (by omega) (by omega)) (cw_F_39 K (Nat.le_of_ble_eq_true rfl) (Nat.le_of_ble_eq_true rfl)) hw (va_recv (ci := 2) (q0 := 2) hw.2.2.2.1 hw.1 rfl rfl) rfl hl.1 rfl (Nat.le_of_ble_eq_true rfl) d_F_combined_142 ⟨Nat.zero_le _, Nat.zero_le _⟩ (fun H locs hw => ?_)
    have hO24 : z_Ok (z_s_ca (z_s_au σ (z_g1 x (255 - y) (1 - 0))) (1 - z_g2 x (255 - y) (1 - 0))) := z_ok_ca (z_ok_au hO (z_g1_lt _ _ _)) (by omega)
    refine lv_istore (lv' := [(4, .int (nI ((x + (255 - y) + (1 - 0)) % 256))), (0, .ref a.2.2.1), (1, .int (nI k)), (2, .int (nI x)), (3, .int (nI y))]) K.1 K.2.1 d_F_combined_145 hl (by decide) rfl (fun ls hl => ?_)
    refine lv_aload_n K.1 K.2.1 d_F_combined_147 rfl (lv_at hl 1 rfl) ?_
    refine lv_iload K.1 K.2.1 d_F_combined_148 (lv_at hl 0 rfl) ?_
    refine pkv K (c_judge (σ := z_s_ca (z_s_au σ (z_g1 x (255 - y) (1 - 0))) (1 - z_g2 x (255 - y) (1 - 0))) (v := (x + (255 - y) + (1 - 0)) % 256) l D cI a hO24 (by omega)) (cw_F_46 K (Nat.le_of_ble_eq_true rfl) (Nat.le_of_ble_eq_true rfl)) hw (va_recv (ci := 2) (q0 := 2) hw.2.2.2.1 hw.1 rfl rfl) rfl hl.1 rfl (Nat.le_of_ble_eq_true rfl) d_F_combined_150 ⟨Nat.zero_le _, Nat.zero_le _⟩ (fun H locs hw => ?_)
    have hO25 : z_Ok (z_jd (z_s_ca (z_s_au σ (z_g1 x (255 - y) (1 - 0))) (1 - z_g2 x (255 - y) (1 - 0))) ((x + (255 - y) + (1 - 0)) % 256)) := z_ok_jd hO24 (by omega)
    refine lv_iload_n K.1 K.2.1 d_F_combined_153 rfl (lv_at hl 2 rfl) ?_
    refine nv_bipush (v := 7) K d_F_combined_154 (by decide) ?_
    refine nf_icmp_ne (u := (x + (255 - y) + (1 - 0)) % 256) (v := x) (Y := 165) K (by omega) (by omega) d_F_combined_156 rfl (fun _ k => lv_iload K.1 K.2.1 d_F_combined_163 (lv_at hl 0 rfl) k) (fun _ k => lv_iload_n K.1 K.2.1 d_F_combined_159 rfl (lv_at hl 3 rfl) (lv_goto K.1 K.2.1 d_F_combined_160 rfl k)) ?_
    exact pri K hr hlk hw (by subst h1; first | rfl | (rw [nz_a8 hx hy]; rfl)) (by subst h1; rfl) d_F_combined_165

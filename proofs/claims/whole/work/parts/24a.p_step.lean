set_option maxHeartbeats 4000000 in
set_option maxRecDepth 100000 in
theorem c_doFirstQuarter {σ : z_St} {b : Nat} (l : Launch) (D : va_G) (cI : ClassId) (a : pAd) (hO : z_Ok σ) (hb : b < 64) : pCi l y_P_doFirstQuarter w_P_doFirstQuarter 4 87 D cI a [.ref a.1, .int (nI b)] σ (z_ea σ b) (nI (z_ta b)) := by
  refine pci_of (cc := b_P_doFirstQuarter) (maxL := 2) (ret := (some .int)) (by decide) rfl (Nat.le_of_ble_eq_true rfl) ?_
  intro p e s m below meth c ls K hr hlk hl hw
  have K : CallFix p m c b_P_doFirstQuarter 2 s _ (_ :: T0) "PortProcessor" := K
  have hl : lv_has ls 2 [(0, .ref a.1), (1, .int (nI b))] := hl
  refine lv_iload_n K.1 K.2.1 d_P_doFirstQuarter_0 rfl (lv_at hl 1 rfl) ?_
  refine nv_bipush (v := 7) K d_P_doFirstQuarter_1 (by decide) ?_
  refine nv_mask (M := 8) K 3 rfl rfl d_P_doFirstQuarter_3 ?_
  rcases (by omega : (b % 8) = 0 ∨ (b % 8) = 1 ∨ (b % 8) = 2 ∨ (b % 8) = 3 ∨ (b % 8) = 4 ∨ (b % 8) = 5 ∨ (b % 8) = 6 ∨ (b % 8) = 7) with h1 | h1 | h1 | h1 | h1 | h1 | h1 | h1
  · refine nv_as K (congrArg nI h1) ?_
    refine nv_tabOut (a := 0) (tgt := 105) K d_P_doFirstQuarter_4 (by decide) (by decide) rfl ?_
    refine nv_iconst (v := 4) K d_P_doFirstQuarter_105 (by decide) ?_
    exact pri K hr hlk hw (by unfold z_ea; rw [h1]; rfl) (by unfold z_ta; rw [h1]; rfl) d_P_doFirstQuarter_106
  · refine nv_as K (congrArg nI h1) ?_
    refine nv_tabIn (a := 1) (tgt := 48) K d_P_doFirstQuarter_4 (by decide) (by decide) (by decide) rfl rfl ?_
    refine lv_iload_n K.1 K.2.1 d_P_doFirstQuarter_48 rfl (lv_at hl 1 rfl) ?_
    refine nv_bipush (v := 8) K d_P_doFirstQuarter_49 (by decide) ?_
    refine nv_iand K d_P_doFirstQuarter_51 ?_
    have hb2 : b &&& 8 ≤ 8 := Nat.and_le_right
    have hb3 : b &&& 8 = 8 * (b / 8 % 2) := nz_b8 _ (by omega)
    refine nv_if_ne K (by omega) d_P_doFirstQuarter_52 rfl (fun h4 => ?_) (fun h4 => ?_)
    · refine lv_aload_n K.1 K.2.1 d_P_doFirstQuarter_63 rfl (lv_at hl 0 rfl) ?_
      refine lv_iload_n K.1 K.2.1 d_P_doFirstQuarter_64 rfl (lv_at hl 1 rfl) ?_
      refine pki K (c_addPair (σ := σ) (b := b) l D cI a hO (by omega)) (cw_P_142 K (Nat.le_of_ble_eq_true rfl) (Nat.le_of_ble_eq_true rfl)) hw (va_recv (ci := 0) (q0 := 0) hw.2.2.2.1 hw.1 rfl rfl) rfl hl.1 rfl (Nat.le_of_ble_eq_true rfl) d_P_doFirstQuarter_65 ⟨Nat.zero_le _, Nat.zero_le _⟩ (fun H locs hw => ?_)
      have hO5 : z_Ok (z_ad σ (b / 16 % 4)) := z_ok_ad hO _
      exact pri K hr hlk hw (by unfold z_ea; exact ((if_neg (by omega)).trans ((if_pos h1).trans (if_neg (by omega)))).symm) (by unfold z_ta; rw [h1]; rfl) d_P_doFirstQuarter_68
    · refine lv_aload_n K.1 K.2.1 d_P_doFirstQuarter_55 rfl (lv_at hl 0 rfl) ?_
      refine lv_iload_n K.1 K.2.1 d_P_doFirstQuarter_56 rfl (lv_at hl 1 rfl) ?_
      refine pki K (c_fillPair (σ := σ) (b := b) l D cI a hO (by omega)) (cw_P_139 K (Nat.le_of_ble_eq_true rfl) (Nat.le_of_ble_eq_true rfl)) hw (va_recv (ci := 0) (q0 := 0) hw.2.2.2.1 hw.1 rfl rfl) rfl hl.1 rfl (Nat.le_of_ble_eq_true rfl) d_P_doFirstQuarter_57 ⟨Nat.zero_le _, Nat.zero_le _⟩ (fun H locs hw => ?_)
      have hO6 : z_Ok (z_ps (z_nn σ) (b / 16 % 4) (z_nw σ)) := z_ok_ps (z_ok_nn hO) _ (z_nw_lt hO)
      refine lv_goto K.1 K.2.1 d_P_doFirstQuarter_60 rfl ?_
      exact pri K hr hlk hw (by unfold z_ea; exact ((if_neg (by omega)).trans ((if_pos h1).trans (if_pos (by omega)))).symm) (by unfold z_ta; rw [h1]; rfl) d_P_doFirstQuarter_68
  · refine nv_as K (congrArg nI h1) ?_
    refine nv_tabIn (a := 2) (tgt := 69) K d_P_doFirstQuarter_4 (by decide) (by decide) (by decide) rfl rfl ?_
    refine lv_aload_n K.1 K.2.1 d_P_doFirstQuarter_69 rfl (lv_at hl 0 rfl) ?_
    refine lv_iload_n K.1 K.2.1 d_P_doFirstQuarter_70 rfl (lv_at hl 1 rfl) ?_
    refine pki K (c_storeOrFetch (σ := σ) (b := b) l D cI a hO (by omega)) (cw_P_145 K (Nat.le_of_ble_eq_true rfl) (Nat.le_of_ble_eq_true rfl)) hw (va_recv (ci := 0) (q0 := 0) hw.2.2.2.1 hw.1 rfl rfl) rfl hl.1 rfl (Nat.le_of_ble_eq_true rfl) d_P_doFirstQuarter_71 ⟨Nat.zero_le _, Nat.zero_le _⟩ (fun H locs hw => ?_)
    have hO7 : z_Ok (z_e2 σ (b / 8)) := z_ok_e2 hO _
    have hb8 : z_t2 (b / 8) < 17 := z_t2_lt _
    exact pri K hr hlk hw (by unfold z_ea; rw [h1]; rfl) (by unfold z_ta; rw [h1]; rfl) d_P_doFirstQuarter_74
  · refine nv_as K (congrArg nI h1) ?_
    refine nv_tabIn (a := 3) (tgt := 75) K d_P_doFirstQuarter_4 (by decide) (by decide) (by decide) rfl rfl ?_
    refine lv_aload_n K.1 K.2.1 d_P_doFirstQuarter_75 rfl (lv_at hl 0 rfl) ?_
    refine lv_iload_n K.1 K.2.1 d_P_doFirstQuarter_76 rfl (lv_at hl 1 rfl) ?_
    refine pki K (c_countPair (σ := σ) (b := b) l D cI a hO (by omega)) (cw_P_148 K (Nat.le_of_ble_eq_true rfl) (Nat.le_of_ble_eq_true rfl)) hw (va_recv (ci := 0) (q0 := 0) hw.2.2.2.1 hw.1 rfl rfl) rfl hl.1 rfl (Nat.le_of_ble_eq_true rfl) d_P_doFirstQuarter_77 ⟨Nat.zero_le _, Nat.zero_le _⟩ (fun H locs hw => ?_)
    have hO9 : z_Ok (z_ps σ (b / 16 % 4) ((z_pg σ (b / 16 % 4) + (if b / 8 % 2 = 0 then 1 else 65535)) % 65536)) := z_ok_ps hO _ (by omega)
    exact pri K hr hlk hw (by unfold z_ea; rw [h1]; rfl) (by unfold z_ta; rw [h1]; rfl) d_P_doFirstQuarter_80
  · refine nv_as K (congrArg nI h1) ?_
    refine nv_tabIn (a := 4) (tgt := 81) K d_P_doFirstQuarter_4 (by decide) (by decide) (by decide) rfl rfl ?_
    refine lv_aload_n K.1 K.2.1 d_P_doFirstQuarter_81 rfl (lv_at hl 0 rfl) ?_
    refine lv_iload_n K.1 K.2.1 d_P_doFirstQuarter_82 rfl (lv_at hl 1 rfl) ?_
    refine pki K (c_raise (σ := σ) (b := b) l D cI a hO (by omega)) (cw_P_151 K (Nat.le_of_ble_eq_true rfl) (Nat.le_of_ble_eq_true rfl)) hw (va_recv (ci := 0) (q0 := 0) hw.2.2.2.1 hw.1 rfl rfl) rfl hl.1 rfl (Nat.le_of_ble_eq_true rfl) d_P_doFirstQuarter_83 ⟨Nat.zero_le _, Nat.zero_le _⟩ (fun H locs hw => ?_)
    have hO10 : z_Ok (z_rs (z_up σ (z_rg σ (b / 8 % 8))) (b / 8 % 8) ((z_rg σ (b / 8 % 8) + 1) % 256)) := z_ok_rs (z_ok_up hO _) _ (by omega)
    have hb11 : (if b / 8 % 8 = 6 then 10 else 5) < 11 := z_ite_ltB _ (by omega) (by omega)
    exact pri K hr hlk hw (by unfold z_ea; rw [h1]; rfl) (by unfold z_ta; rw [h1]; rfl) d_P_doFirstQuarter_86
  · refine nv_as K (congrArg nI h1) ?_
    refine nv_tabIn (a := 5) (tgt := 87) K d_P_doFirstQuarter_4 (by decide) (by decide) (by decide) rfl rfl ?_
    refine lv_aload_n K.1 K.2.1 d_P_doFirstQuarter_87 rfl (lv_at hl 0 rfl) ?_
    refine lv_iload_n K.1 K.2.1 d_P_doFirstQuarter_88 rfl (lv_at hl 1 rfl) ?_
    refine pki K (c_lower (σ := σ) (b := b) l D cI a hO (by omega)) (cw_P_154 K (Nat.le_of_ble_eq_true rfl) (Nat.le_of_ble_eq_true rfl)) hw (va_recv (ci := 0) (q0 := 0) hw.2.2.2.1 hw.1 rfl rfl) rfl hl.1 rfl (Nat.le_of_ble_eq_true rfl) d_P_doFirstQuarter_89 ⟨Nat.zero_le _, Nat.zero_le _⟩ (fun H locs hw => ?_)
    have hO12 : z_Ok (z_rs (z_dn σ (z_rg σ (b / 8 % 8))) (b / 8 % 8) ((z_rg σ (b / 8 % 8) + 255) % 256)) := z_ok_rs (z_ok_dn hO _) _ (by omega)
    have hb13 : (if b / 8 % 8 = 6 then 10 else 5) < 11 := z_ite_ltB _ (by omega) (by omega)
    exact pri K hr hlk hw (by unfold z_ea; rw [h1]; rfl) (by unfold z_ta; rw [h1]; rfl) d_P_doFirstQuarter_92
  · refine nv_as K (congrArg nI h1) ?_
    refine nv_tabIn (a := 6) (tgt := 93) K d_P_doFirstQuarter_4 (by decide) (by decide) (by decide) rfl rfl ?_
    refine lv_aload_n K.1 K.2.1 d_P_doFirstQuarter_93 rfl (lv_at hl 0 rfl) ?_
    refine lv_iload_n K.1 K.2.1 d_P_doFirstQuarter_94 rfl (lv_at hl 1 rfl) ?_
    refine pki K (c_fillRegister (σ := σ) (b := b) l D cI a hO (by omega)) (cw_P_157 K (Nat.le_of_ble_eq_true rfl) (Nat.le_of_ble_eq_true rfl)) hw (va_recv (ci := 0) (q0 := 0) hw.2.2.2.1 hw.1 rfl rfl) rfl hl.1 rfl (Nat.le_of_ble_eq_true rfl) d_P_doFirstQuarter_95 ⟨Nat.zero_le _, Nat.zero_le _⟩ (fun H locs hw => ?_)
    have hO14 : z_Ok (z_rs (z_nx σ) (b / 8 % 8) (z_nb σ)) := z_ok_rs (z_ok_nx hO) _ (z_nb_lt hO)
    have hb15 : (if b / 8 % 8 = 6 then 10 else 7) < 11 := z_ite_ltB _ (by omega) (by omega)
    exact pri K hr hlk hw (by unfold z_ea; rw [h1]; rfl) (by unfold z_ta; rw [h1]; rfl) d_P_doFirstQuarter_98
  · refine nv_as K (congrArg nI h1) ?_
    refine nv_tabIn (a := 7) (tgt := 99) K d_P_doFirstQuarter_4 (by decide) (by decide) (by decide) rfl rfl ?_
    refine lv_aload_n K.1 K.2.1 d_P_doFirstQuarter_99 rfl (lv_at hl 0 rfl) ?_
    refine lv_iload_n K.1 K.2.1 d_P_doFirstQuarter_100 rfl (lv_at hl 1 rfl) ?_
    refine pki K (c_workOnA (σ := σ) (b := b) l D cI a hO (by omega)) (cw_P_160 K (Nat.le_of_ble_eq_true rfl) (Nat.le_of_ble_eq_true rfl)) hw (va_recv (ci := 0) (q0 := 0) hw.2.2.2.1 hw.1 rfl rfl) rfl hl.1 rfl (Nat.le_of_ble_eq_true rfl) d_P_doFirstQuarter_101 ⟨Nat.zero_le _, Nat.zero_le _⟩ (fun H locs hw => ?_)
    have hO16 : z_Ok (z_e7 σ (b / 8)) := z_ok_e7 hO _
    exact pri K hr hlk hw (by unfold z_ea; rw [h1]; rfl) (by unfold z_ta; rw [h1]; rfl) d_P_doFirstQuarter_104

set_option maxHeartbeats 4000000 in
set_option maxRecDepth 100000 in
theorem c_doFirstQuarter {σ : z_St} {b : Nat} (l : Launch) (D : va_G) (cI : ClassId) (a : pAd) (hO : z_Ok σ) (hb : b < 64) : pCi l y_P_doFirstQuarter w_P_doFirstQuarter 4 87 D cI a [.ref a.1, .int (nI b)] σ (z_ea σ b) (nI (z_ta b)) := by
  refine pci_of (cc := b_P_doFirstQuarter) (maxL := 2) (ret := (some .int)) (by decide) rfl (Nat.le_of_ble_eq_true rfl) ?_
  intro p e s m below meth c ls K hr hlk hl hw
  have K : CallFix p m c b_P_doFirstQuarter 2 s _ (_ :: T0) "PortProcessor" := K
  have hl : lv_has ls 2 [(0, .ref a.1), (1, .int (nI b))] := hl
  refine lv_iload_n K.1 K.2.1 d_P_doFirstQuarter_0 rfl (lv_at hl 1 rfl) ?_
  refine nv_bipush (v := 7) K d_P_doFirstQuarter_1 (by decide) ?_
  refine nv_mask (M := 8) K 3 rfl rfl d_P_doFirstQuarter_3 ?_
  rcases (by omega : (b % 8) = 0 ∨ (b % 8) = 1 ∨ (b % 8) = 2 ∨ (b % 8) = 3 ∨ (b % 8) = 4 ∨ (b % 8) = 5 ∨ (b % 8) = 6 ∨ (b % 8) = 7) with h1 | h1 | h1 | h1 | h1 | h1 | h1 | h1
  · refine nv_as K (congrArg nI h1) ?_
    refine nv_tabOut (a := 0) (tgt := 105) K d_P_doFirstQuarter_4 (by decide) (by decide) rfl ?_
    refine nv_iconst (v := 4) K d_P_doFirstQuarter_105 (by decide) ?_
    exact pri K hr hlk hw (by first | rfl | (simp [z_ea, z_ta, h1]; done) | (simp only [z_ea, z_ta, h1]; rfl)) (by first | rfl | (simp [z_ea, z_ta, h1]; done) | (congr 1; omega) | (simp [z_ea, z_ta, h1]; omega)) d_P_doFirstQuarter_106
  · refine nv_as K (congrArg nI h1) ?_
    refine nv_tabIn (a := 1) (tgt := 48) K d_P_doFirstQuarter_4 (by decide) (by decide) (by decide) rfl rfl ?_
    refine lv_iload_n K.1 K.2.1 d_P_doFirstQuarter_48 rfl (lv_at hl 1 rfl) ?_
    refine nv_bipush (v := 8) K d_P_doFirstQuarter_49 (by decide) ?_
    refine nv_iand K d_P_doFirstQuarter_51 ?_
    have hb2 : b &&& 8 ≤ 8 := Nat.and_le_right
    refine nv_if_ne K (by omega) d_P_doFirstQuarter_52 rfl (fun h3 => ?_) (fun h3 => ?_)
    · refine lv_aload_n K.1 K.2.1 d_P_doFirstQuarter_63 rfl (lv_at hl 0 rfl) ?_
      refine lv_iload_n K.1 K.2.1 d_P_doFirstQuarter_64 rfl (lv_at hl 1 rfl) ?_
      refine pki K (c_addPair (σ := σ) (b := b) l D cI a hO (by omega)) (cw_P_142 K (Nat.le_of_ble_eq_true rfl) (Nat.le_of_ble_eq_true rfl)) hw (va_recv (ci := 0) (q0 := 0) hw.2.2.2.1 hw.1 rfl rfl) rfl hl.1 rfl (Nat.le_of_ble_eq_true rfl) d_P_doFirstQuarter_65 ⟨Nat.zero_le _, Nat.zero_le _⟩ (fun H locs hw => ?_)
      have hO4 : z_Ok (z_ad σ (b / 16 % 4)) := z_ok_ad hO _
      exact pri K hr hlk hw (by first | rfl | (simp [z_ea, z_ta, h1, h3]; done) | (simp only [z_ea, z_ta, h1, h3]; rfl)) (by first | rfl | (simp [z_ea, z_ta, h1, h3]; done) | (congr 1; omega) | (simp [z_ea, z_ta, h1, h3]; omega)) d_P_doFirstQuarter_68
    · refine lv_aload_n K.1 K.2.1 d_P_doFirstQuarter_55 rfl (lv_at hl 0 rfl) ?_
      refine lv_iload_n K.1 K.2.1 d_P_doFirstQuarter_56 rfl (lv_at hl 1 rfl) ?_
      refine pki K (c_fillPair (σ := σ) (b := b) l D cI a hO (by omega)) (cw_P_139 K (Nat.le_of_ble_eq_true rfl) (Nat.le_of_ble_eq_true rfl)) hw (va_recv (ci := 0) (q0 := 0) hw.2.2.2.1 hw.1 rfl rfl) rfl hl.1 rfl (Nat.le_of_ble_eq_true rfl) d_P_doFirstQuarter_57 ⟨Nat.zero_le _, Nat.zero_le _⟩ (fun H locs hw => ?_)
      have hO5 : z_Ok (z_ps (z_nn σ) (b / 16 % 4) (z_nw σ)) := z_ok_ps (z_ok_nn hO) _ (z_nw_lt hO)
      refine lv_goto K.1 K.2.1 d_P_doFirstQuarter_60 rfl ?_
      exact pri K hr hlk hw (by first | rfl | (simp [z_ea, z_ta, h1, h3]; done) | (simp only [z_ea, z_ta, h1, h3]; rfl)) (by first | rfl | (simp [z_ea, z_ta, h1, h3]; done) | (congr 1; omega) | (simp [z_ea, z_ta, h1, h3]; omega)) d_P_doFirstQuarter_68
  · refine nv_as K (congrArg nI h1) ?_
    refine nv_tabIn (a := 2) (tgt := 69) K d_P_doFirstQuarter_4 (by decide) (by decide) (by decide) rfl rfl ?_
    refine lv_aload_n K.1 K.2.1 d_P_doFirstQuarter_69 rfl (lv_at hl 0 rfl) ?_
    refine lv_iload_n K.1 K.2.1 d_P_doFirstQuarter_70 rfl (lv_at hl 1 rfl) ?_
    refine pki K (c_storeOrFetch (σ := σ) (b := b) l D cI a hO (by omega)) (cw_P_145 K (Nat.le_of_ble_eq_true rfl) (Nat.le_of_ble_eq_true rfl)) hw (va_recv (ci := 0) (q0 := 0) hw.2.2.2.1 hw.1 rfl rfl) rfl hl.1 rfl (Nat.le_of_ble_eq_true rfl) d_P_doFirstQuarter_71 ⟨Nat.zero_le _, Nat.zero_le _⟩ (fun H locs hw => ?_)
    have hO6 : z_Ok (z_e2 σ (b / 8)) := z_ok_e2 hO _
    have hb7 : z_t2 (b / 8) < 17 := z_t2_lt _
    exact pri K hr hlk hw (by first | rfl | (simp [z_ea, z_ta, h1]; done) | (simp only [z_ea, z_ta, h1]; rfl)) (by first | rfl | (simp [z_ea, z_ta, h1]; done) | (congr 1; omega) | (simp [z_ea, z_ta, h1]; omega)) d_P_doFirstQuarter_74
  · refine nv_as K (congrArg nI h1) ?_
    refine nv_tabIn (a := 3) (tgt := 75) K d_P_doFirstQuarter_4 (by decide) (by decide) (by decide) rfl rfl ?_
    refine lv_aload_n K.1 K.2.1 d_P_doFirstQuarter_75 rfl (lv_at hl 0 rfl) ?_
    refine lv_iload_n K.1 K.2.1 d_P_doFirstQuarter_76 rfl (lv_at hl 1 rfl) ?_
    refine pki K (c_countPair (σ := σ) (b := b) l D cI a hO (by omega)) (cw_P_148 K (Nat.le_of_ble_eq_true rfl) (Nat.le_of_ble_eq_true rfl)) hw (va_recv (ci := 0) (q0 := 0) hw.2.2.2.1 hw.1 rfl rfl) rfl hl.1 rfl (Nat.le_of_ble_eq_true rfl) d_P_doFirstQuarter_77 ⟨Nat.zero_le _, Nat.zero_le _⟩ (fun H locs hw => ?_)
    have hO8 : z_Ok (z_ps σ (b / 16 % 4) ((z_pg σ (b / 16 % 4) + (if b / 8 % 2 = 0 then 1 else 65535)) % 65536)) := z_ok_ps hO _ (by omega)
    exact pri K hr hlk hw (by first | rfl | (simp [z_ea, z_ta, h1]; done) | (simp only [z_ea, z_ta, h1]; rfl)) (by first | rfl | (simp [z_ea, z_ta, h1]; done) | (congr 1; omega) | (simp [z_ea, z_ta, h1]; omega)) d_P_doFirstQuarter_80
  · refine nv_as K (congrArg nI h1) ?_
    refine nv_tabIn (a := 4) (tgt := 81) K d_P_doFirstQuarter_4 (by decide) (by decide) (by decide) rfl rfl ?_
    refine lv_aload_n K.1 K.2.1 d_P_doFirstQuarter_81 rfl (lv_at hl 0 rfl) ?_
    refine lv_iload_n K.1 K.2.1 d_P_doFirstQuarter_82 rfl (lv_at hl 1 rfl) ?_
    refine pki K (c_raise (σ := σ) (b := b) l D cI a hO (by omega)) (cw_P_151 K (Nat.le_of_ble_eq_true rfl) (Nat.le_of_ble_eq_true rfl)) hw (va_recv (ci := 0) (q0 := 0) hw.2.2.2.1 hw.1 rfl rfl) rfl hl.1 rfl (Nat.le_of_ble_eq_true rfl) d_P_doFirstQuarter_83 ⟨Nat.zero_le _, Nat.zero_le _⟩ (fun H locs hw => ?_)
    have hO9 : z_Ok (z_rs (z_up σ (z_rg σ (b / 8 % 8))) (b / 8 % 8) ((z_rg σ (b / 8 % 8) + 1) % 256)) := z_ok_rs (z_ok_up hO _) _ (by omega)
    have hb10 : if b / 8 % 8 = 6 then 10 else 5 < 11 := z_ite_ltB _ (by omega) (by omega)
    exact pri K hr hlk hw (by first | rfl | (simp [z_ea, z_ta, h1]; done) | (simp only [z_ea, z_ta, h1]; rfl)) (by first | rfl | (simp [z_ea, z_ta, h1]; done) | (congr 1; omega) | (simp [z_ea, z_ta, h1]; omega)) d_P_doFirstQuarter_86
  · refine nv_as K (congrArg nI h1) ?_
    refine nv_tabIn (a := 5) (tgt := 87) K d_P_doFirstQuarter_4 (by decide) (by decide) (by decide) rfl rfl ?_
    refine lv_aload_n K.1 K.2.1 d_P_doFirstQuarter_87 rfl (lv_at hl 0 rfl) ?_
    refine lv_iload_n K.1 K.2.1 d_P_doFirstQuarter_88 rfl (lv_at hl 1 rfl) ?_
    refine pki K (c_lower (σ := σ) (b := b) l D cI a hO (by omega)) (cw_P_154 K (Nat.le_of_ble_eq_true rfl) (Nat.le_of_ble_eq_true rfl)) hw (va_recv (ci := 0) (q0 := 0) hw.2.2.2.1 hw.1 rfl rfl) rfl hl.1 rfl (Nat.le_of_ble_eq_true rfl) d_P_doFirstQuarter_89 ⟨Nat.zero_le _, Nat.zero_le _⟩ (fun H locs hw => ?_)
    have hO11 : z_Ok (z_rs (z_dn σ (z_rg σ (b / 8 % 8))) (b / 8 % 8) ((z_rg σ (b / 8 % 8) + 255) % 256)) := z_ok_rs (z_ok_dn hO _) _ (by omega)
    have hb12 : if b / 8 % 8 = 6 then 10 else 5 < 11 := z_ite_ltB _ (by omega) (by omega)
    exact pri K hr hlk hw (by first | rfl | (simp [z_ea, z_ta, h1]; done) | (simp only [z_ea, z_ta, h1]; rfl)) (by first | rfl | (simp [z_ea, z_ta, h1]; done) | (congr 1; omega) | (simp [z_ea, z_ta, h1]; omega)) d_P_doFirstQuarter_92
  · refine nv_as K (congrArg nI h1) ?_
    refine nv_tabIn (a := 6) (tgt := 93) K d_P_doFirstQuarter_4 (by decide) (by decide) (by decide) rfl rfl ?_
    refine lv_aload_n K.1 K.2.1 d_P_doFirstQuarter_93 rfl (lv_at hl 0 rfl) ?_
    refine lv_iload_n K.1 K.2.1 d_P_doFirstQuarter_94 rfl (lv_at hl 1 rfl) ?_
    refine pki K (c_fillRegister (σ := σ) (b := b) l D cI a hO (by omega)) (cw_P_157 K (Nat.le_of_ble_eq_true rfl) (Nat.le_of_ble_eq_true rfl)) hw (va_recv (ci := 0) (q0 := 0) hw.2.2.2.1 hw.1 rfl rfl) rfl hl.1 rfl (Nat.le_of_ble_eq_true rfl) d_P_doFirstQuarter_95 ⟨Nat.zero_le _, Nat.zero_le _⟩ (fun H locs hw => ?_)
    have hO13 : z_Ok (z_rs (z_nx σ) (b / 8 % 8) (z_nb σ)) := z_ok_rs (z_ok_nx hO) _ (z_nb_lt hO)
    have hb14 : if b / 8 % 8 = 6 then 10 else 7 < 11 := z_ite_ltB _ (by omega) (by omega)
    exact pri K hr hlk hw (by first | rfl | (simp [z_ea, z_ta, h1]; done) | (simp only [z_ea, z_ta, h1]; rfl)) (by first | rfl | (simp [z_ea, z_ta, h1]; done) | (congr 1; omega) | (simp [z_ea, z_ta, h1]; omega)) d_P_doFirstQuarter_98
  · refine nv_as K (congrArg nI h1) ?_
    refine nv_tabIn (a := 7) (tgt := 99) K d_P_doFirstQuarter_4 (by decide) (by decide) (by decide) rfl rfl ?_
    refine lv_aload_n K.1 K.2.1 d_P_doFirstQuarter_99 rfl (lv_at hl 0 rfl) ?_
    refine lv_iload_n K.1 K.2.1 d_P_doFirstQuarter_100 rfl (lv_at hl 1 rfl) ?_
    refine pki K (c_workOnA (σ := σ) (b := b) l D cI a hO (by omega)) (cw_P_160 K (Nat.le_of_ble_eq_true rfl) (Nat.le_of_ble_eq_true rfl)) hw (va_recv (ci := 0) (q0 := 0) hw.2.2.2.1 hw.1 rfl rfl) rfl hl.1 rfl (Nat.le_of_ble_eq_true rfl) d_P_doFirstQuarter_101 ⟨Nat.zero_le _, Nat.zero_le _⟩ (fun H locs hw => ?_)
    have hO15 : z_Ok (z_e7 σ (b / 8)) := z_ok_e7 hO _
    exact pri K hr hlk hw (by first | rfl | (simp [z_ea, z_ta, h1]; done) | (simp only [z_ea, z_ta, h1]; rfl)) (by first | rfl | (simp [z_ea, z_ta, h1]; done) | (congr 1; omega) | (simp [z_ea, z_ta, h1]; omega)) d_P_doFirstQuarter_104
set_option maxHeartbeats 4000000 in
set_option maxRecDepth 100000 in
theorem c_doLastQuarter {σ : z_St} {b : Nat} (l : Launch) (D : va_G) (cI : ClassId) (a : pAd) (hO : z_Ok σ) (hb : b < 256) : pCi l y_P_doLastQuarter w_P_doLastQuarter 4 93 D cI a [.ref a.1, .int (nI b)] σ (z_ed σ b) (nI (z_td σ b)) := by
  refine pci_of (cc := b_P_doLastQuarter) (maxL := 2) (ret := (some .int)) (by decide) rfl (Nat.le_of_ble_eq_true rfl) ?_
  intro p e s m below meth c ls K hr hlk hl hw
  have K : CallFix p m c b_P_doLastQuarter 2 s _ (_ :: T0) "PortProcessor" := K
  have hl : lv_has ls 2 [(0, .ref a.1), (1, .int (nI b))] := hl
  refine lv_iload_n K.1 K.2.1 d_P_doLastQuarter_0 rfl (lv_at hl 1 rfl) ?_
  refine nv_bipush (v := 7) K d_P_doLastQuarter_1 (by decide) ?_
  refine nv_mask (M := 8) K 3 rfl rfl d_P_doLastQuarter_3 ?_
  rcases (by omega : (b % 8) = 0 ∨ (b % 8) = 1 ∨ (b % 8) = 2 ∨ (b % 8) = 3 ∨ (b % 8) = 4 ∨ (b % 8) = 5 ∨ (b % 8) = 6 ∨ (b % 8) = 7) with h1 | h1 | h1 | h1 | h1 | h1 | h1 | h1
  · refine nv_as K (congrArg nI h1) ?_
    refine nv_tabIn (a := 0) (tgt := 48) K d_P_doLastQuarter_4 (by decide) (by decide) (by decide) rfl rfl ?_
    refine lv_aload_n K.1 K.2.1 d_P_doLastQuarter_48 rfl (lv_at hl 0 rfl) ?_
    refine lv_iload_n K.1 K.2.1 d_P_doLastQuarter_49 rfl (lv_at hl 1 rfl) ?_
    refine pki K (c_returnOnCondition (σ := σ) (b := b) l D cI a hO (by omega)) (cw_P_163 K (Nat.le_of_ble_eq_true rfl) (Nat.le_of_ble_eq_true rfl)) hw (va_recv (ci := 0) (q0 := 0) hw.2.2.2.1 hw.1 rfl rfl) rfl hl.1 rfl (Nat.le_of_ble_eq_true rfl) d_P_doLastQuarter_50 ⟨Nat.zero_le _, Nat.zero_le _⟩ (fun H locs hw => ?_)
    have hO2 : z_Ok (if z_hold σ (b / 8 % 8) = 1 then z_rt σ else σ) := z_ok_j3 hO _
    have hb3 : if z_hold σ (b / 8 % 8) = 1 then 11 else 5 < 12 := z_ite_ltB _ (by omega) (by omega)
    exact pri K hr hlk hw (by first | rfl | (simp [z_ed, z_td, h1]; done) | (simp only [z_ed, z_td, h1]; rfl)) (by first | rfl | (simp [z_ed, z_td, h1]; done) | (congr 1; omega) | (simp [z_ed, z_td, h1]; omega)) d_P_doLastQuarter_53
  · refine nv_as K (congrArg nI h1) ?_
    refine nv_tabIn (a := 1) (tgt := 54) K d_P_doLastQuarter_4 (by decide) (by decide) (by decide) rfl rfl ?_
    refine lv_iload_n K.1 K.2.1 d_P_doLastQuarter_54 rfl (lv_at hl 1 rfl) ?_
    refine nv_bipush (v := 8) K d_P_doLastQuarter_55 (by decide) ?_
    refine nv_iand K d_P_doLastQuarter_57 ?_
    have hb4 : b &&& 8 ≤ 8 := Nat.and_le_right
    refine nv_if_ne K (by omega) d_P_doLastQuarter_58 rfl (fun h5 => ?_) (fun h5 => ?_)
    · refine lv_aload_n K.1 K.2.1 d_P_doLastQuarter_69 rfl (lv_at hl 0 rfl) ?_
      refine lv_iload_n K.1 K.2.1 d_P_doLastQuarter_70 rfl (lv_at hl 1 rfl) ?_
      refine pki K (c_returnOrCopyHl (σ := σ) (b := b) l D cI a hO (by omega)) (cw_P_169 K (Nat.le_of_ble_eq_true rfl) (Nat.le_of_ble_eq_true rfl)) hw (va_recv (ci := 0) (q0 := 0) hw.2.2.2.1 hw.1 rfl rfl) rfl hl.1 rfl (Nat.le_of_ble_eq_true rfl) d_P_doLastQuarter_71 ⟨Nat.zero_le _, Nat.zero_le _⟩ (fun H locs hw => ?_)
      have hO6 : z_Ok (if b / 16 % 4 = 2 then z_s_pc σ (z_pg σ 2) else if b / 16 % 4 = 3 then z_s_sp σ (z_pg σ 2) else z_rt σ) := z_ok_j4 hO _
      have hb7 : if b / 16 % 4 = 2 then 5 else if b / 16 % 4 = 3 then 5 else 10 < 11 := z_ite_ltB _ (by omega) (z_ite_ltB _ (by omega) (by omega))
      exact pri K hr hlk hw (by first | rfl | (simp [z_ed, z_td, h1, h5]; done) | (simp only [z_ed, z_td, h1, h5]; rfl)) (by first | rfl | (simp [z_ed, z_td, h1, h5]; done) | (congr 1; omega) | (simp [z_ed, z_td, h1, h5]; omega)) d_P_doLastQuarter_74
    · refine lv_aload_n K.1 K.2.1 d_P_doLastQuarter_61 rfl (lv_at hl 0 rfl) ?_
      refine lv_iload_n K.1 K.2.1 d_P_doLastQuarter_62 rfl (lv_at hl 1 rfl) ?_
      refine pki K (c_popPair (σ := σ) (b := b) l D cI a hO (by omega)) (cw_P_166 K (Nat.le_of_ble_eq_true rfl) (Nat.le_of_ble_eq_true rfl)) hw (va_recv (ci := 0) (q0 := 0) hw.2.2.2.1 hw.1 rfl rfl) rfl hl.1 rfl (Nat.le_of_ble_eq_true rfl) d_P_doLastQuarter_63 ⟨Nat.zero_le _, Nat.zero_le _⟩ (fun H locs hw => ?_)
      have hO8 : z_Ok (z_pp σ (b / 16 % 4)) := z_ok_pp hO _
      refine lv_goto K.1 K.2.1 d_P_doLastQuarter_66 rfl ?_
      exact pri K hr hlk hw (by first | rfl | (simp [z_ed, z_td, h1, h5]; done) | (simp only [z_ed, z_td, h1, h5]; rfl)) (by first | rfl | (simp [z_ed, z_td, h1, h5]; done) | (congr 1; omega) | (simp [z_ed, z_td, h1, h5]; omega)) d_P_doLastQuarter_74
  · refine nv_as K (congrArg nI h1) ?_
    refine nv_tabIn (a := 2) (tgt := 75) K d_P_doLastQuarter_4 (by decide) (by decide) (by decide) rfl rfl ?_
    refine lv_aload_n K.1 K.2.1 d_P_doLastQuarter_75 rfl (lv_at hl 0 rfl) ?_
    refine lv_iload_n K.1 K.2.1 d_P_doLastQuarter_76 rfl (lv_at hl 1 rfl) ?_
    refine pki K (c_jumpOnCondition (σ := σ) (b := b) l D cI a hO (by omega)) (cw_P_172 K (Nat.le_of_ble_eq_true rfl) (Nat.le_of_ble_eq_true rfl)) hw (va_recv (ci := 0) (q0 := 0) hw.2.2.2.1 hw.1 rfl rfl) rfl hl.1 rfl (Nat.le_of_ble_eq_true rfl) d_P_doLastQuarter_77 ⟨Nat.zero_le _, Nat.zero_le _⟩ (fun H locs hw => ?_)
    have hO9 : z_Ok (if z_hold σ (b / 8 % 8) = 1 then z_s_pc (z_nn σ) (z_nw σ) else z_nn σ) := z_ok_j1 hO _
    exact pri K hr hlk hw (by first | rfl | (simp [z_ed, z_td, h1]; done) | (simp only [z_ed, z_td, h1]; rfl)) (by first | rfl | (simp [z_ed, z_td, h1]; done) | (congr 1; omega) | (simp [z_ed, z_td, h1]; omega)) d_P_doLastQuarter_80
  · refine nv_as K (congrArg nI h1) ?_
    refine nv_tabIn (a := 3) (tgt := 81) K d_P_doLastQuarter_4 (by decide) (by decide) (by decide) rfl rfl ?_
    refine lv_aload_n K.1 K.2.1 d_P_doLastQuarter_81 rfl (lv_at hl 0 rfl) ?_
    refine lv_iload_n K.1 K.2.1 d_P_doLastQuarter_82 rfl (lv_at hl 1 rfl) ?_
    refine pki K (c_jumpExchangeOrSwitch (σ := σ) (b := b) l D cI a hO (by omega)) (cw_P_175 K (Nat.le_of_ble_eq_true rfl) (Nat.le_of_ble_eq_true rfl)) hw (va_recv (ci := 0) (q0 := 0) hw.2.2.2.1 hw.1 rfl rfl) rfl hl.1 rfl (Nat.le_of_ble_eq_true rfl) d_P_doLastQuarter_83 ⟨Nat.zero_le _, Nat.zero_le _⟩ (fun H locs hw => ?_)
    have hO10 : z_Ok (z_e3 σ (b / 8 % 8)) := z_ok_e3 hO _
    have hb11 : z_t3 (b / 8 % 8) < 19 := z_t3_lt _
    exact pri K hr hlk hw (by first | rfl | (simp [z_ed, z_td, h1]; done) | (simp only [z_ed, z_td, h1]; rfl)) (by first | rfl | (simp [z_ed, z_td, h1]; done) | (congr 1; omega) | (simp [z_ed, z_td, h1]; omega)) d_P_doLastQuarter_86
  · refine nv_as K (congrArg nI h1) ?_
    refine nv_tabIn (a := 4) (tgt := 87) K d_P_doLastQuarter_4 (by decide) (by decide) (by decide) rfl rfl ?_
    refine lv_aload_n K.1 K.2.1 d_P_doLastQuarter_87 rfl (lv_at hl 0 rfl) ?_
    refine lv_iload_n K.1 K.2.1 d_P_doLastQuarter_88 rfl (lv_at hl 1 rfl) ?_
    refine pki K (c_callOnCondition (σ := σ) (b := b) l D cI a hO (by omega)) (cw_P_178 K (Nat.le_of_ble_eq_true rfl) (Nat.le_of_ble_eq_true rfl)) hw (va_recv (ci := 0) (q0 := 0) hw.2.2.2.1 hw.1 rfl rfl) rfl hl.1 rfl (Nat.le_of_ble_eq_true rfl) d_P_doLastQuarter_89 ⟨Nat.zero_le _, Nat.zero_le _⟩ (fun H locs hw => ?_)
    have hO12 : z_Ok (if z_hold σ (b / 8 % 8) = 1 then z_ct (z_nn σ) (z_nw σ) else z_nn σ) := z_ok_j2 hO _
    have hb13 : if z_hold σ (b / 8 % 8) = 1 then 17 else 11 < 18 := z_ite_ltB _ (by omega) (by omega)
    exact pri K hr hlk hw (by first | rfl | (simp [z_ed, z_td, h1]; done) | (simp only [z_ed, z_td, h1]; rfl)) (by first | rfl | (simp [z_ed, z_td, h1]; done) | (congr 1; omega) | (simp [z_ed, z_td, h1]; omega)) d_P_doLastQuarter_92
  · refine nv_as K (congrArg nI h1) ?_
    refine nv_tabIn (a := 5) (tgt := 93) K d_P_doLastQuarter_4 (by decide) (by decide) (by decide) rfl rfl ?_
    refine lv_iload_n K.1 K.2.1 d_P_doLastQuarter_93 rfl (lv_at hl 1 rfl) ?_
    refine nv_bipush (v := 8) K d_P_doLastQuarter_94 (by decide) ?_
    refine nv_iand K d_P_doLastQuarter_96 ?_
    have hb14 : b &&& 8 ≤ 8 := Nat.and_le_right
    refine nv_if_ne K (by omega) d_P_doLastQuarter_97 rfl (fun h15 => ?_) (fun h15 => ?_)
    · refine lv_aload_n K.1 K.2.1 d_P_doLastQuarter_108 rfl (lv_at hl 0 rfl) ?_
      refine pki K (c_callAlways (σ := σ) l D cI a hO) (cw_P_184 K (Nat.le_of_ble_eq_true rfl) (Nat.le_of_ble_eq_true rfl)) hw (va_recv (ci := 0) (q0 := 0) hw.2.2.2.1 hw.1 rfl rfl) rfl hl.1 rfl (Nat.le_of_ble_eq_true rfl) d_P_doLastQuarter_109 ⟨Nat.zero_le _, Nat.zero_le _⟩ (fun H locs hw => ?_)
      have hO16 : z_Ok (z_ct (z_nn σ) (z_nw σ)) := z_ok_ct (z_ok_nn hO) (z_nw_lt hO)
      exact pri K hr hlk hw (by first | rfl | (simp [z_ed, z_td, h1, h15]; done) | (simp only [z_ed, z_td, h1, h15]; rfl)) (by first | rfl | (simp [z_ed, z_td, h1, h15]; done) | (congr 1; omega) | (simp [z_ed, z_td, h1, h15]; omega)) d_P_doLastQuarter_112
    · refine lv_aload_n K.1 K.2.1 d_P_doLastQuarter_100 rfl (lv_at hl 0 rfl) ?_
      refine lv_iload_n K.1 K.2.1 d_P_doLastQuarter_101 rfl (lv_at hl 1 rfl) ?_
      refine pki K (c_pushPair (σ := σ) (b := b) l D cI a hO (by omega)) (cw_P_181 K (Nat.le_of_ble_eq_true rfl) (Nat.le_of_ble_eq_true rfl)) hw (va_recv (ci := 0) (q0 := 0) hw.2.2.2.1 hw.1 rfl rfl) rfl hl.1 rfl (Nat.le_of_ble_eq_true rfl) d_P_doLastQuarter_102 ⟨Nat.zero_le _, Nat.zero_le _⟩ (fun H locs hw => ?_)
      have hO17 : z_Ok (z_pu σ (z_pq σ (b / 16 % 4))) := z_ok_pu hO (z_pq_lt hO _)
      refine lv_goto K.1 K.2.1 d_P_doLastQuarter_105 rfl ?_
      exact pri K hr hlk hw (by first | rfl | (simp [z_ed, z_td, h1, h15]; done) | (simp only [z_ed, z_td, h1, h15]; rfl)) (by first | rfl | (simp [z_ed, z_td, h1, h15]; done) | (congr 1; omega) | (simp [z_ed, z_td, h1, h15]; omega)) d_P_doLastQuarter_112
  · refine nv_as K (congrArg nI h1) ?_
    refine nv_tabIn (a := 6) (tgt := 113) K d_P_doLastQuarter_4 (by decide) (by decide) (by decide) rfl rfl ?_
    refine lv_aload_n K.1 K.2.1 d_P_doLastQuarter_113 rfl (lv_at hl 0 rfl) ?_
    refine lv_iload_n K.1 K.2.1 d_P_doLastQuarter_114 rfl (lv_at hl 1 rfl) ?_
    refine pki K (c_combineWithNext (σ := σ) (b := b) l D cI a hO (by omega)) (cw_P_187 K (Nat.le_of_ble_eq_true rfl) (Nat.le_of_ble_eq_true rfl)) hw (va_recv (ci := 0) (q0 := 0) hw.2.2.2.1 hw.1 rfl rfl) rfl hl.1 rfl (Nat.le_of_ble_eq_true rfl) d_P_doLastQuarter_115 ⟨Nat.zero_le _, Nat.zero_le _⟩ (fun H locs hw => ?_)
    have hO18 : z_Ok (z_rk (z_nx σ) (b / 8 % 8) (z_nb σ)) := z_ok_rk (z_ok_nx hO) _ (z_nb_lt hO)
    exact pri K hr hlk hw (by first | rfl | (simp [z_ed, z_td, h1]; done) | (simp only [z_ed, z_td, h1]; rfl)) (by first | rfl | (simp [z_ed, z_td, h1]; done) | (congr 1; omega) | (simp [z_ed, z_td, h1]; omega)) d_P_doLastQuarter_118
  · refine nv_as K (congrArg nI h1) ?_
    refine nv_tabOut (a := 7) (tgt := 119) K d_P_doLastQuarter_4 (by decide) (by decide) rfl ?_
    refine lv_aload_n K.1 K.2.1 d_P_doLastQuarter_119 rfl (lv_at hl 0 rfl) ?_
    refine lv_iload_n K.1 K.2.1 d_P_doLastQuarter_120 rfl (lv_at hl 1 rfl) ?_
    refine nv_bipush (v := 56) K d_P_doLastQuarter_121 (by decide) ?_
    refine nv_iand K d_P_doLastQuarter_123 ?_
    have hb19 : b &&& 56 ≤ 56 := Nat.and_le_right
    refine pkv K (c_callTo (σ := σ) (x := b &&& 56) l D cI a hO (by omega)) (cw_P_136 K (Nat.le_of_ble_eq_true rfl) (Nat.le_of_ble_eq_true rfl)) hw (va_recv (ci := 0) (q0 := 0) hw.2.2.2.1 hw.1 rfl rfl) rfl hl.1 rfl (Nat.le_of_ble_eq_true rfl) d_P_doLastQuarter_124 ⟨Nat.zero_le _, Nat.zero_le _⟩ (fun H locs hw => ?_)
    have hO20 : z_Ok (z_ct σ (b &&& 56)) := z_ok_ct hO (by omega)
    refine nv_bipush (v := 11) K d_P_doLastQuarter_127 (by decide) ?_
    exact pri K hr hlk hw (by first | rfl | (simp [z_ed, z_td, h1]; done) | (simp only [z_ed, z_td, h1]; rfl)) (by first | rfl | (simp [z_ed, z_td, h1]; done) | (congr 1; omega) | (simp [z_ed, z_td, h1]; omega)) d_P_doLastQuarter_129
set_option maxHeartbeats 4000000 in
set_option maxRecDepth 100000 in
theorem c_letInterruptIn {σ : z_St} (l : Launch) (D : va_G) (cI : ClassId) (a : pAd) (hO : z_Ok σ) (hwa : z_x_wa σ ≠ 0) : pCv l y_P_letInterruptIn w_P_letInterruptIn 3 64 D cI a [.ref a.1] σ (z_li σ) := by
  refine pcv_of (cc := b_P_letInterruptIn) (maxL := 1) (ret := none) (by decide) rfl (Nat.le_of_ble_eq_true rfl) ?_
  intro p e s m below meth c ls K hr hlk hl hw
  have K : CallFix p m c b_P_letInterruptIn 1 s _ (_ :: T0) "PortProcessor" := K
  have hl : lv_has ls 1 [(0, .ref a.1)] := hl
  refine lv_aload_n K.1 K.2.1 d_P_letInterruptIn_0 rfl (lv_at hl 0 rfl) ?_
  refine nv_iconst (v := 0) K d_P_letInterruptIn_1 (by decide) ?_
  refine pp_interruptsOn (v := 0) K hw (by omega) d_P_letInterruptIn_2 (fun H locs hw => ?_)
  have hO1 : z_Ok (z_s_it σ 0) := z_ok_it hO (by omega)
  refine lv_aload_n K.1 K.2.1 d_P_letInterruptIn_5 rfl (lv_at hl 0 rfl) ?_
  refine nv_iconst (v := 0) K d_P_letInterruptIn_6 (by decide) ?_
  refine pp_halted (v := 0) K hw (by omega) d_P_letInterruptIn_7 (fun H locs hw => ?_)
  have hO2 : z_Ok (z_s_ha (z_s_it σ 0) 0) := z_ok_ha hO1 (by omega)
  refine lv_aload_n K.1 K.2.1 d_P_letInterruptIn_10 rfl (lv_at hl 0 rfl) ?_
  refine nv_bipush (v := 8) K d_P_letInterruptIn_11 (by decide) ?_
  refine lv_aload_n K.1 K.2.1 d_P_letInterruptIn_13 rfl (lv_at hl 0 rfl) ?_
  refine pg_waitingInterrupt (v := z_x_wa σ) K hw rfl d_P_letInterruptIn_14 ?_
  have hb3 : z_x_wa σ < 9 := z_k_wa hO2
  refine nv_as K (nz_pred hwa) ?_
  refine nv_imul K d_P_letInterruptIn_17 ?_
  refine pkv K (c_callTo (σ := z_s_ha (z_s_it σ 0) 0) (x := 8 * (z_x_wa σ - 1)) l D cI a hO2 (by omega)) (cw_P_136 K (Nat.le_of_ble_eq_true rfl) (Nat.le_of_ble_eq_true rfl)) hw (va_recv (ci := 0) (q0 := 0) hw.2.2.2.1 hw.1 rfl rfl) rfl hl.1 rfl (Nat.le_of_ble_eq_true rfl) d_P_letInterruptIn_18 ⟨Nat.zero_le _, Nat.zero_le _⟩ (fun H locs hw => ?_)
  have hO4 : z_Ok (z_ct (z_s_ha (z_s_it σ 0) 0) (8 * (z_x_wa σ - 1))) := z_ok_ct hO2 (by omega)
  refine lv_aload_n K.1 K.2.1 d_P_letInterruptIn_21 rfl (lv_at hl 0 rfl) ?_
  refine lv_iconst (v := -1) K.1 K.2.1 d_P_letInterruptIn_22 (by decide) ?_
  refine pp_waitingInterrupt0 K hw d_P_letInterruptIn_23 (fun H locs hw => ?_)
  have hO5 : z_Ok (z_s_wa (z_ct (z_s_ha (z_s_it σ 0) 0) (8 * (z_x_wa σ - 1))) 0) := z_ok_wa hO4 (by omega)
  exact prv K hr hlk hw (by first | rfl | (simp; done) | (skip; rfl)) d_P_letInterruptIn_26
set_option maxHeartbeats 4000000 in
set_option maxRecDepth 100000 in
theorem c_step {σ : z_St} (l : Launch) (D : va_G) (cI : ClassId) (a : pAd) (hO : z_Ok σ) : pCi l y_P_step w_P_step 5 114 D cI a [.ref a.1] σ (z_sx σ) (nI (z_sv σ)) := by
  refine pci_of (cc := b_P_step) (maxL := 2) (ret := (some .boolean)) (by decide) rfl (Nat.le_of_ble_eq_true rfl) ?_
  intro p e s m below meth c ls K hr hlk hl hw
  have K : CallFix p m c b_P_step 2 s _ (_ :: T0) "PortProcessor" := K
  have hl : lv_has ls 2 [(0, .ref a.1)] := hl
  refine lv_aload_n K.1 K.2.1 d_P_step_0 rfl (lv_at hl 0 rfl) ?_
  refine pg_waitingInterrupt (v := z_x_wa σ) K hw rfl d_P_step_1 ?_
  have hb1 : z_x_wa σ < 9 := z_k_wa hO
  refine lv_iconst (v := -1) K.1 K.2.1 d_P_step_4 (by decide) ?_
  refine nv_wa (w := z_x_wa σ) K (by omega) d_P_step_5 rfl (fun h2 => ?_) (fun h2 => ?_)
  · refine lv_aload_n K.1 K.2.1 d_P_step_40 rfl (lv_at hl 0 rfl) ?_
    refine pg_halted (v := z_x_ha σ) K hw rfl d_P_step_41 ?_
    have hb3 : z_x_ha σ < 2 := z_k_ha hO
    refine nv_if_eq K (by omega) d_P_step_44 rfl (fun h4 => ?_) (fun h4 => ?_)
    · refine lv_aload_n K.1 K.2.1 d_P_step_61 rfl (lv_at hl 0 rfl) ?_
      refine pki K (c_nextByte (σ := σ) l D cI a hO) (cw_P_121 K (Nat.le_of_ble_eq_true rfl) (Nat.le_of_ble_eq_true rfl)) hw (va_recv (ci := 0) (q0 := 0) hw.2.2.2.1 hw.1 rfl rfl) rfl hl.1 rfl (Nat.le_of_ble_eq_true rfl) d_P_step_62 ⟨Nat.zero_le _, Nat.zero_le _⟩ (fun H locs hw => ?_)
      have hO5 : z_Ok (z_nx σ) := z_ok_nx hO
      have hb6 : z_nb σ < 256 := z_nb_lt hO
      refine lv_istore_n (lv' := [(1, .int (nI (z_nb σ))), (0, .ref a.1)]) K.1 K.2.1 d_P_step_65 rfl hl (by decide) rfl (fun ls hl => ?_)
      refine lv_aload_n K.1 K.2.1 d_P_step_66 rfl (lv_at hl 1 rfl) ?_
      refine lv_iload_n K.1 K.2.1 d_P_step_67 rfl (lv_at hl 0 rfl) ?_
      refine nv_sipush (v := 251) K d_P_step_68 (by decide) ?_
      refine nf_icmp_ne (u := 0) (v := 1) (Y := 79) K (by omega) (by omega) d_P_step_71 rfl (fun _ k => nv_iconst (v := 0) K d_P_step_78 (by decide) k) (fun _ k => nv_iconst (v := 1) K d_P_step_74 (by decide) (lv_goto K.1 K.2.1 d_P_step_75 rfl k)) ?_
      have hb7 : (if (z_nb σ) = 251 then 1 else 0) < 2 := z_ite_ltB _ (by omega) (by omega)
      refine pp_lastLetInterruptsIn (v := (if (z_nb σ) = 251 then 1 else 0)) K hw (by omega) d_P_step_79 (fun H locs hw => ?_)
      have hO8 : z_Ok (z_s_la (z_nx σ) (if (z_nb σ) = 251 then 1 else 0)) := z_ok_la hO5 (by omega)
      refine lv_iload_n K.1 K.2.1 d_P_step_82 rfl (lv_at hl 0 rfl) ?_
      refine nv_bipush (v := 6) K d_P_step_83 (by decide) ?_
      refine nv_ishr (M := 64) K (by omega) rfl (by omega) d_P_step_85 ?_
      rcases (by omega : ((z_nb σ) / 64) = 0 ∨ ((z_nb σ) / 64) = 1 ∨ ((z_nb σ) / 64) = 2 ∨ ((z_nb σ) / 64) = 3) with h9 | h9 | h9 | h9
      · refine nv_as K (congrArg nI h9) ?_
        refine nv_tabIn (a := 0) (tgt := 112) K d_P_step_86 (by decide) (by decide) (by decide) rfl rfl ?_
        refine lv_aload_n K.1 K.2.1 d_P_step_112 rfl (lv_at hl 1 rfl) ?_
        refine lv_dup K.1 K.2.1 d_P_step_113 rfl ?_
        refine pg_stateCount (v := z_x_st σ) K hw rfl d_P_step_114 ?_
        refine lv_aload_n K.1 K.2.1 d_P_step_117 rfl (lv_at hl 1 rfl) ?_
        refine lv_iload_n K.1 K.2.1 d_P_step_118 rfl (lv_at hl 0 rfl) ?_
        refine pki K (c_doFirstQuarter (σ := z_s_la (z_nx σ) (if (z_nb σ) = 251 then 1 else 0)) (b := z_nb σ) l D cI a hO8 (by omega)) (cw_P_124 K (Nat.le_of_ble_eq_true rfl) (Nat.le_of_ble_eq_true rfl)) hw (va_recv (ci := 0) (q0 := 0) hw.2.2.2.1 hw.1 rfl rfl) rfl hl.1 rfl (Nat.le_of_ble_eq_true rfl) d_P_step_119 ⟨Nat.zero_le _, Nat.zero_le _⟩ (fun H locs hw => ?_)
        have hO10 : z_Ok (z_ea (z_s_la (z_nx σ) (if (z_nb σ) = 251 then 1 else 0)) (z_nb σ)) := z_ok_ea hO8 _
        have hb11 : z_ta (z_nb σ) < 17 := z_ta_lt _
        refine lv_i2l K.1 K.2.1 d_P_step_122 (nI_l (by omega)) ?_
        refine lv_ladd K.1 K.2.1 d_P_step_123 (lv_asl K (lN_add _ _) ?_)
        refine pp_stateCount (v := (z_x_st σ) + (z_ta (z_nb σ))) K hw d_P_step_124 (fun H locs hw => ?_)
        have hO12 : z_Ok (z_s_st (z_ea (z_s_la (z_nx σ) (if (z_nb σ) = 251 then 1 else 0)) (z_nb σ)) ((z_x_st σ) + (z_ta (z_nb σ)))) := z_ok_st hO10
        refine lv_goto K.1 K.2.1 d_P_step_127 rfl ?_
        refine nv_iconst (v := 1) K d_P_step_181 (by decide) ?_
        exact prz K hr hlk hw (by first | rfl | (simp [z_sx, z_sv, h2, h4, h9]; done) | (simp only [z_sx, z_sv, h2, h4, h9]; rfl)) (by omega) (by first | rfl | (simp [z_sx, z_sv, h2, h4, h9]; done) | (congr 1; omega) | (simp [z_sx, z_sv, h2, h4, h9]; omega)) d_P_step_182
      · refine nv_as K (congrArg nI h9) ?_
        refine nv_tabIn (a := 1) (tgt := 130) K d_P_step_86 (by decide) (by decide) (by decide) rfl rfl ?_
        refine lv_aload_n K.1 K.2.1 d_P_step_130 rfl (lv_at hl 1 rfl) ?_
        refine lv_dup K.1 K.2.1 d_P_step_131 rfl ?_
        refine pg_stateCount (v := z_x_st σ) K hw rfl d_P_step_132 ?_
        refine lv_aload_n K.1 K.2.1 d_P_step_135 rfl (lv_at hl 1 rfl) ?_
        refine lv_iload_n K.1 K.2.1 d_P_step_136 rfl (lv_at hl 0 rfl) ?_
        refine pki K (c_move (σ := z_s_la (z_nx σ) (if (z_nb σ) = 251 then 1 else 0)) (b := z_nb σ) l D cI a hO8 (by omega)) (cw_P_127 K (Nat.le_of_ble_eq_true rfl) (Nat.le_of_ble_eq_true rfl)) hw (va_recv (ci := 0) (q0 := 0) hw.2.2.2.1 hw.1 rfl rfl) rfl hl.1 rfl (Nat.le_of_ble_eq_true rfl) d_P_step_137 ⟨Nat.zero_le _, Nat.zero_le _⟩ (fun H locs hw => ?_)
        have hO13 : z_Ok (z_eb (z_s_la (z_nx σ) (if (z_nb σ) = 251 then 1 else 0)) (z_nb σ)) := z_ok_eb hO8 _
        have hb14 : z_tb (z_nb σ) < 8 := z_tb_lt _
        refine lv_i2l K.1 K.2.1 d_P_step_140 (nI_l (by omega)) ?_
        refine lv_ladd K.1 K.2.1 d_P_step_141 (lv_asl K (lN_add _ _) ?_)
        refine pp_stateCount (v := (z_x_st σ) + (z_tb (z_nb σ))) K hw d_P_step_142 (fun H locs hw => ?_)
        have hO15 : z_Ok (z_s_st (z_eb (z_s_la (z_nx σ) (if (z_nb σ) = 251 then 1 else 0)) (z_nb σ)) ((z_x_st σ) + (z_tb (z_nb σ)))) := z_ok_st hO13
        refine lv_goto K.1 K.2.1 d_P_step_145 rfl ?_
        refine nv_iconst (v := 1) K d_P_step_181 (by decide) ?_
        exact prz K hr hlk hw (by first | rfl | (simp [z_sx, z_sv, h2, h4, h9]; done) | (simp only [z_sx, z_sv, h2, h4, h9]; rfl)) (by omega) (by first | rfl | (simp [z_sx, z_sv, h2, h4, h9]; done) | (congr 1; omega) | (simp [z_sx, z_sv, h2, h4, h9]; omega)) d_P_step_182
      · refine nv_as K (congrArg nI h9) ?_
        refine nv_tabIn (a := 2) (tgt := 148) K d_P_step_86 (by decide) (by decide) (by decide) rfl rfl ?_
        refine lv_aload_n K.1 K.2.1 d_P_step_148 rfl (lv_at hl 1 rfl) ?_
        refine lv_dup K.1 K.2.1 d_P_step_149 rfl ?_
        refine pg_stateCount (v := z_x_st σ) K hw rfl d_P_step_150 ?_
        refine lv_aload_n K.1 K.2.1 d_P_step_153 rfl (lv_at hl 1 rfl) ?_
        refine lv_iload_n K.1 K.2.1 d_P_step_154 rfl (lv_at hl 0 rfl) ?_
        refine pki K (c_combineWithRegister (σ := z_s_la (z_nx σ) (if (z_nb σ) = 251 then 1 else 0)) (b := z_nb σ) l D cI a hO8 (by omega)) (cw_P_130 K (Nat.le_of_ble_eq_true rfl) (Nat.le_of_ble_eq_true rfl)) hw (va_recv (ci := 0) (q0 := 0) hw.2.2.2.1 hw.1 rfl rfl) rfl hl.1 rfl (Nat.le_of_ble_eq_true rfl) d_P_step_155 ⟨Nat.zero_le _, Nat.zero_le _⟩ (fun H locs hw => ?_)
        have hO16 : z_Ok (z_ec (z_s_la (z_nx σ) (if (z_nb σ) = 251 then 1 else 0)) (z_nb σ)) := z_ok_ec hO8 _
        have hb17 : z_tc (z_nb σ) < 8 := z_tc_lt _
        refine lv_i2l K.1 K.2.1 d_P_step_158 (nI_l (by omega)) ?_
        refine lv_ladd K.1 K.2.1 d_P_step_159 (lv_asl K (lN_add _ _) ?_)
        refine pp_stateCount (v := (z_x_st σ) + (z_tc (z_nb σ))) K hw d_P_step_160 (fun H locs hw => ?_)
        have hO18 : z_Ok (z_s_st (z_ec (z_s_la (z_nx σ) (if (z_nb σ) = 251 then 1 else 0)) (z_nb σ)) ((z_x_st σ) + (z_tc (z_nb σ)))) := z_ok_st hO16
        refine lv_goto K.1 K.2.1 d_P_step_163 rfl ?_
        refine nv_iconst (v := 1) K d_P_step_181 (by decide) ?_
        exact prz K hr hlk hw (by first | rfl | (simp [z_sx, z_sv, h2, h4, h9]; done) | (simp only [z_sx, z_sv, h2, h4, h9]; rfl)) (by omega) (by first | rfl | (simp [z_sx, z_sv, h2, h4, h9]; done) | (congr 1; omega) | (simp [z_sx, z_sv, h2, h4, h9]; omega)) d_P_step_182
      · refine nv_as K (congrArg nI h9) ?_
        refine nv_tabOut (a := 3) (tgt := 166) K d_P_step_86 (by decide) (by decide) rfl ?_
        refine lv_aload_n K.1 K.2.1 d_P_step_166 rfl (lv_at hl 1 rfl) ?_
        refine lv_dup K.1 K.2.1 d_P_step_167 rfl ?_
        refine pg_stateCount (v := z_x_st σ) K hw rfl d_P_step_168 ?_
        refine lv_aload_n K.1 K.2.1 d_P_step_171 rfl (lv_at hl 1 rfl) ?_
        refine lv_iload_n K.1 K.2.1 d_P_step_172 rfl (lv_at hl 0 rfl) ?_
        refine pki K (c_doLastQuarter (σ := z_s_la (z_nx σ) (if (z_nb σ) = 251 then 1 else 0)) (b := z_nb σ) l D cI a hO8 (by omega)) (cw_P_133 K (Nat.le_of_ble_eq_true rfl) (Nat.le_of_ble_eq_true rfl)) hw (va_recv (ci := 0) (q0 := 0) hw.2.2.2.1 hw.1 rfl rfl) rfl hl.1 rfl (Nat.le_of_ble_eq_true rfl) d_P_step_173 ⟨Nat.zero_le _, Nat.zero_le _⟩ (fun H locs hw => ?_)
        have hO19 : z_Ok (z_ed (z_s_la (z_nx σ) (if (z_nb σ) = 251 then 1 else 0)) (z_nb σ)) := z_ok_ed hO8 _
        refine nv_as K (y := nI (z_td σ (z_nb σ))) rfl ?_
        have hb20 : z_td σ (z_nb σ) < 19 := z_td_lt _ _
        refine lv_i2l K.1 K.2.1 d_P_step_176 (nI_l (by omega)) ?_
        refine lv_ladd K.1 K.2.1 d_P_step_177 (lv_asl K (lN_add _ _) ?_)
        refine pp_stateCount (v := (z_x_st σ) + (z_td σ (z_nb σ))) K hw d_P_step_178 (fun H locs hw => ?_)
        have hO21 : z_Ok (z_s_st (z_ed (z_s_la (z_nx σ) (if (z_nb σ) = 251 then 1 else 0)) (z_nb σ)) ((z_x_st σ) + (z_td σ (z_nb σ)))) := z_ok_st hO19
        refine nv_iconst (v := 1) K d_P_step_181 (by decide) ?_
        exact prz K hr hlk hw (by first | rfl | (simp [z_sx, z_sv, h2, h4, h9]; done) | (simp only [z_sx, z_sv, h2, h4, h9]; rfl)) (by omega) (by first | rfl | (simp [z_sx, z_sv, h2, h4, h9]; done) | (congr 1; omega) | (simp [z_sx, z_sv, h2, h4, h9]; omega)) d_P_step_182
    · refine lv_aload_n K.1 K.2.1 d_P_step_47 rfl (lv_at hl 0 rfl) ?_
      refine lv_dup K.1 K.2.1 d_P_step_48 rfl ?_
      refine pg_stateCount (v := z_x_st σ) K hw rfl d_P_step_49 ?_
      refine lv_ldc2 (v := lN 4) K.1 K.2.1 K.2.2.2.1 (K.2.2.2.2 _ (List.mem_cons_of_mem _ m_constantLong_PortProcessor_119_4)) d_P_step_52 ?_
      refine lv_ladd K.1 K.2.1 d_P_step_55 (lv_asl K (lN_add _ _) ?_)
      refine pp_stateCount (v := (z_x_st σ) + 4) K hw d_P_step_56 (fun H locs hw => ?_)
      have hO22 : z_Ok (z_s_st σ ((z_x_st σ) + 4)) := z_ok_st hO
      refine nv_iconst (v := 0) K d_P_step_59 (by decide) ?_
      exact prz K hr hlk hw (by first | rfl | (simp [z_sx, z_sv, h2, h4]; done) | (simp only [z_sx, z_sv, h2, h4]; rfl)) (by omega) (by first | rfl | (simp [z_sx, z_sv, h2, h4]; done) | (congr 1; omega) | (simp [z_sx, z_sv, h2, h4]; omega)) d_P_step_60
  · refine lv_aload_n K.1 K.2.1 d_P_step_8 rfl (lv_at hl 0 rfl) ?_
    refine pg_interruptsOn (v := z_x_it σ) K hw rfl d_P_step_9 ?_
    have hb23 : z_x_it σ < 2 := z_k_it hO
    refine nv_if_eq K (by omega) d_P_step_12 rfl (fun h24 => ?_) (fun h24 => ?_)
    · refine lv_aload_n K.1 K.2.1 d_P_step_40 rfl (lv_at hl 0 rfl) ?_
      refine pg_halted (v := z_x_ha σ) K hw rfl d_P_step_41 ?_
      have hb25 : z_x_ha σ < 2 := z_k_ha hO
      refine nv_if_eq K (by omega) d_P_step_44 rfl (fun h26 => ?_) (fun h26 => ?_)
      · refine lv_aload_n K.1 K.2.1 d_P_step_61 rfl (lv_at hl 0 rfl) ?_
        refine pki K (c_nextByte (σ := σ) l D cI a hO) (cw_P_121 K (Nat.le_of_ble_eq_true rfl) (Nat.le_of_ble_eq_true rfl)) hw (va_recv (ci := 0) (q0 := 0) hw.2.2.2.1 hw.1 rfl rfl) rfl hl.1 rfl (Nat.le_of_ble_eq_true rfl) d_P_step_62 ⟨Nat.zero_le _, Nat.zero_le _⟩ (fun H locs hw => ?_)
        have hO27 : z_Ok (z_nx σ) := z_ok_nx hO
        have hb28 : z_nb σ < 256 := z_nb_lt hO
        refine lv_istore_n (lv' := [(1, .int (nI (z_nb σ))), (0, .ref a.1)]) K.1 K.2.1 d_P_step_65 rfl hl (by decide) rfl (fun ls hl => ?_)
        refine lv_aload_n K.1 K.2.1 d_P_step_66 rfl (lv_at hl 1 rfl) ?_
        refine lv_iload_n K.1 K.2.1 d_P_step_67 rfl (lv_at hl 0 rfl) ?_
        refine nv_sipush (v := 251) K d_P_step_68 (by decide) ?_
        refine nf_icmp_ne (u := 0) (v := 1) (Y := 79) K (by omega) (by omega) d_P_step_71 rfl (fun _ k => nv_iconst (v := 0) K d_P_step_78 (by decide) k) (fun _ k => nv_iconst (v := 1) K d_P_step_74 (by decide) (lv_goto K.1 K.2.1 d_P_step_75 rfl k)) ?_
        have hb29 : (if (z_nb σ) = 251 then 1 else 0) < 2 := z_ite_ltB _ (by omega) (by omega)
        refine pp_lastLetInterruptsIn (v := (if (z_nb σ) = 251 then 1 else 0)) K hw (by omega) d_P_step_79 (fun H locs hw => ?_)
        have hO30 : z_Ok (z_s_la (z_nx σ) (if (z_nb σ) = 251 then 1 else 0)) := z_ok_la hO27 (by omega)
        refine lv_iload_n K.1 K.2.1 d_P_step_82 rfl (lv_at hl 0 rfl) ?_
        refine nv_bipush (v := 6) K d_P_step_83 (by decide) ?_
        refine nv_ishr (M := 64) K (by omega) rfl (by omega) d_P_step_85 ?_
        rcases (by omega : ((z_nb σ) / 64) = 0 ∨ ((z_nb σ) / 64) = 1 ∨ ((z_nb σ) / 64) = 2 ∨ ((z_nb σ) / 64) = 3) with h31 | h31 | h31 | h31
        · refine nv_as K (congrArg nI h31) ?_
          refine nv_tabIn (a := 0) (tgt := 112) K d_P_step_86 (by decide) (by decide) (by decide) rfl rfl ?_
          refine lv_aload_n K.1 K.2.1 d_P_step_112 rfl (lv_at hl 1 rfl) ?_
          refine lv_dup K.1 K.2.1 d_P_step_113 rfl ?_
          refine pg_stateCount (v := z_x_st σ) K hw rfl d_P_step_114 ?_
          refine lv_aload_n K.1 K.2.1 d_P_step_117 rfl (lv_at hl 1 rfl) ?_
          refine lv_iload_n K.1 K.2.1 d_P_step_118 rfl (lv_at hl 0 rfl) ?_
          refine pki K (c_doFirstQuarter (σ := z_s_la (z_nx σ) (if (z_nb σ) = 251 then 1 else 0)) (b := z_nb σ) l D cI a hO30 (by omega)) (cw_P_124 K (Nat.le_of_ble_eq_true rfl) (Nat.le_of_ble_eq_true rfl)) hw (va_recv (ci := 0) (q0 := 0) hw.2.2.2.1 hw.1 rfl rfl) rfl hl.1 rfl (Nat.le_of_ble_eq_true rfl) d_P_step_119 ⟨Nat.zero_le _, Nat.zero_le _⟩ (fun H locs hw => ?_)
          have hO32 : z_Ok (z_ea (z_s_la (z_nx σ) (if (z_nb σ) = 251 then 1 else 0)) (z_nb σ)) := z_ok_ea hO30 _
          have hb33 : z_ta (z_nb σ) < 17 := z_ta_lt _
          refine lv_i2l K.1 K.2.1 d_P_step_122 (nI_l (by omega)) ?_
          refine lv_ladd K.1 K.2.1 d_P_step_123 (lv_asl K (lN_add _ _) ?_)
          refine pp_stateCount (v := (z_x_st σ) + (z_ta (z_nb σ))) K hw d_P_step_124 (fun H locs hw => ?_)
          have hO34 : z_Ok (z_s_st (z_ea (z_s_la (z_nx σ) (if (z_nb σ) = 251 then 1 else 0)) (z_nb σ)) ((z_x_st σ) + (z_ta (z_nb σ)))) := z_ok_st hO32
          refine lv_goto K.1 K.2.1 d_P_step_127 rfl ?_
          refine nv_iconst (v := 1) K d_P_step_181 (by decide) ?_
          exact prz K hr hlk hw (by first | rfl | (simp [z_sx, z_sv, h2, h24, h26, h31]; done) | (simp only [z_sx, z_sv, h2, h24, h26, h31]; rfl)) (by omega) (by first | rfl | (simp [z_sx, z_sv, h2, h24, h26, h31]; done) | (congr 1; omega) | (simp [z_sx, z_sv, h2, h24, h26, h31]; omega)) d_P_step_182
        · refine nv_as K (congrArg nI h31) ?_
          refine nv_tabIn (a := 1) (tgt := 130) K d_P_step_86 (by decide) (by decide) (by decide) rfl rfl ?_
          refine lv_aload_n K.1 K.2.1 d_P_step_130 rfl (lv_at hl 1 rfl) ?_
          refine lv_dup K.1 K.2.1 d_P_step_131 rfl ?_
          refine pg_stateCount (v := z_x_st σ) K hw rfl d_P_step_132 ?_
          refine lv_aload_n K.1 K.2.1 d_P_step_135 rfl (lv_at hl 1 rfl) ?_
          refine lv_iload_n K.1 K.2.1 d_P_step_136 rfl (lv_at hl 0 rfl) ?_
          refine pki K (c_move (σ := z_s_la (z_nx σ) (if (z_nb σ) = 251 then 1 else 0)) (b := z_nb σ) l D cI a hO30 (by omega)) (cw_P_127 K (Nat.le_of_ble_eq_true rfl) (Nat.le_of_ble_eq_true rfl)) hw (va_recv (ci := 0) (q0 := 0) hw.2.2.2.1 hw.1 rfl rfl) rfl hl.1 rfl (Nat.le_of_ble_eq_true rfl) d_P_step_137 ⟨Nat.zero_le _, Nat.zero_le _⟩ (fun H locs hw => ?_)
          have hO35 : z_Ok (z_eb (z_s_la (z_nx σ) (if (z_nb σ) = 251 then 1 else 0)) (z_nb σ)) := z_ok_eb hO30 _
          have hb36 : z_tb (z_nb σ) < 8 := z_tb_lt _
          refine lv_i2l K.1 K.2.1 d_P_step_140 (nI_l (by omega)) ?_
          refine lv_ladd K.1 K.2.1 d_P_step_141 (lv_asl K (lN_add _ _) ?_)
          refine pp_stateCount (v := (z_x_st σ) + (z_tb (z_nb σ))) K hw d_P_step_142 (fun H locs hw => ?_)
          have hO37 : z_Ok (z_s_st (z_eb (z_s_la (z_nx σ) (if (z_nb σ) = 251 then 1 else 0)) (z_nb σ)) ((z_x_st σ) + (z_tb (z_nb σ)))) := z_ok_st hO35
          refine lv_goto K.1 K.2.1 d_P_step_145 rfl ?_
          refine nv_iconst (v := 1) K d_P_step_181 (by decide) ?_
          exact prz K hr hlk hw (by first | rfl | (simp [z_sx, z_sv, h2, h24, h26, h31]; done) | (simp only [z_sx, z_sv, h2, h24, h26, h31]; rfl)) (by omega) (by first | rfl | (simp [z_sx, z_sv, h2, h24, h26, h31]; done) | (congr 1; omega) | (simp [z_sx, z_sv, h2, h24, h26, h31]; omega)) d_P_step_182
        · refine nv_as K (congrArg nI h31) ?_
          refine nv_tabIn (a := 2) (tgt := 148) K d_P_step_86 (by decide) (by decide) (by decide) rfl rfl ?_
          refine lv_aload_n K.1 K.2.1 d_P_step_148 rfl (lv_at hl 1 rfl) ?_
          refine lv_dup K.1 K.2.1 d_P_step_149 rfl ?_
          refine pg_stateCount (v := z_x_st σ) K hw rfl d_P_step_150 ?_
          refine lv_aload_n K.1 K.2.1 d_P_step_153 rfl (lv_at hl 1 rfl) ?_
          refine lv_iload_n K.1 K.2.1 d_P_step_154 rfl (lv_at hl 0 rfl) ?_
          refine pki K (c_combineWithRegister (σ := z_s_la (z_nx σ) (if (z_nb σ) = 251 then 1 else 0)) (b := z_nb σ) l D cI a hO30 (by omega)) (cw_P_130 K (Nat.le_of_ble_eq_true rfl) (Nat.le_of_ble_eq_true rfl)) hw (va_recv (ci := 0) (q0 := 0) hw.2.2.2.1 hw.1 rfl rfl) rfl hl.1 rfl (Nat.le_of_ble_eq_true rfl) d_P_step_155 ⟨Nat.zero_le _, Nat.zero_le _⟩ (fun H locs hw => ?_)
          have hO38 : z_Ok (z_ec (z_s_la (z_nx σ) (if (z_nb σ) = 251 then 1 else 0)) (z_nb σ)) := z_ok_ec hO30 _
          have hb39 : z_tc (z_nb σ) < 8 := z_tc_lt _
          refine lv_i2l K.1 K.2.1 d_P_step_158 (nI_l (by omega)) ?_
          refine lv_ladd K.1 K.2.1 d_P_step_159 (lv_asl K (lN_add _ _) ?_)
          refine pp_stateCount (v := (z_x_st σ) + (z_tc (z_nb σ))) K hw d_P_step_160 (fun H locs hw => ?_)
          have hO40 : z_Ok (z_s_st (z_ec (z_s_la (z_nx σ) (if (z_nb σ) = 251 then 1 else 0)) (z_nb σ)) ((z_x_st σ) + (z_tc (z_nb σ)))) := z_ok_st hO38
          refine lv_goto K.1 K.2.1 d_P_step_163 rfl ?_
          refine nv_iconst (v := 1) K d_P_step_181 (by decide) ?_
          exact prz K hr hlk hw (by first | rfl | (simp [z_sx, z_sv, h2, h24, h26, h31]; done) | (simp only [z_sx, z_sv, h2, h24, h26, h31]; rfl)) (by omega) (by first | rfl | (simp [z_sx, z_sv, h2, h24, h26, h31]; done) | (congr 1; omega) | (simp [z_sx, z_sv, h2, h24, h26, h31]; omega)) d_P_step_182
        · refine nv_as K (congrArg nI h31) ?_
          refine nv_tabOut (a := 3) (tgt := 166) K d_P_step_86 (by decide) (by decide) rfl ?_
          refine lv_aload_n K.1 K.2.1 d_P_step_166 rfl (lv_at hl 1 rfl) ?_
          refine lv_dup K.1 K.2.1 d_P_step_167 rfl ?_
          refine pg_stateCount (v := z_x_st σ) K hw rfl d_P_step_168 ?_
          refine lv_aload_n K.1 K.2.1 d_P_step_171 rfl (lv_at hl 1 rfl) ?_
          refine lv_iload_n K.1 K.2.1 d_P_step_172 rfl (lv_at hl 0 rfl) ?_
          refine pki K (c_doLastQuarter (σ := z_s_la (z_nx σ) (if (z_nb σ) = 251 then 1 else 0)) (b := z_nb σ) l D cI a hO30 (by omega)) (cw_P_133 K (Nat.le_of_ble_eq_true rfl) (Nat.le_of_ble_eq_true rfl)) hw (va_recv (ci := 0) (q0 := 0) hw.2.2.2.1 hw.1 rfl rfl) rfl hl.1 rfl (Nat.le_of_ble_eq_true rfl) d_P_step_173 ⟨Nat.zero_le _, Nat.zero_le _⟩ (fun H locs hw => ?_)
          have hO41 : z_Ok (z_ed (z_s_la (z_nx σ) (if (z_nb σ) = 251 then 1 else 0)) (z_nb σ)) := z_ok_ed hO30 _
          refine nv_as K (y := nI (z_td σ (z_nb σ))) rfl ?_
          have hb42 : z_td σ (z_nb σ) < 19 := z_td_lt _ _
          refine lv_i2l K.1 K.2.1 d_P_step_176 (nI_l (by omega)) ?_
          refine lv_ladd K.1 K.2.1 d_P_step_177 (lv_asl K (lN_add _ _) ?_)
          refine pp_stateCount (v := (z_x_st σ) + (z_td σ (z_nb σ))) K hw d_P_step_178 (fun H locs hw => ?_)
          have hO43 : z_Ok (z_s_st (z_ed (z_s_la (z_nx σ) (if (z_nb σ) = 251 then 1 else 0)) (z_nb σ)) ((z_x_st σ) + (z_td σ (z_nb σ)))) := z_ok_st hO41
          refine nv_iconst (v := 1) K d_P_step_181 (by decide) ?_
          exact prz K hr hlk hw (by first | rfl | (simp [z_sx, z_sv, h2, h24, h26, h31]; done) | (simp only [z_sx, z_sv, h2, h24, h26, h31]; rfl)) (by omega) (by first | rfl | (simp [z_sx, z_sv, h2, h24, h26, h31]; done) | (congr 1; omega) | (simp [z_sx, z_sv, h2, h24, h26, h31]; omega)) d_P_step_182
      · refine lv_aload_n K.1 K.2.1 d_P_step_47 rfl (lv_at hl 0 rfl) ?_
        refine lv_dup K.1 K.2.1 d_P_step_48 rfl ?_
        refine pg_stateCount (v := z_x_st σ) K hw rfl d_P_step_49 ?_
        refine lv_ldc2 (v := lN 4) K.1 K.2.1 K.2.2.2.1 (K.2.2.2.2 _ (List.mem_cons_of_mem _ m_constantLong_PortProcessor_119_4)) d_P_step_52 ?_
        refine lv_ladd K.1 K.2.1 d_P_step_55 (lv_asl K (lN_add _ _) ?_)
        refine pp_stateCount (v := (z_x_st σ) + 4) K hw d_P_step_56 (fun H locs hw => ?_)
        have hO44 : z_Ok (z_s_st σ ((z_x_st σ) + 4)) := z_ok_st hO
        refine nv_iconst (v := 0) K d_P_step_59 (by decide) ?_
        exact prz K hr hlk hw (by first | rfl | (simp [z_sx, z_sv, h2, h24, h26]; done) | (simp only [z_sx, z_sv, h2, h24, h26]; rfl)) (by omega) (by first | rfl | (simp [z_sx, z_sv, h2, h24, h26]; done) | (congr 1; omega) | (simp [z_sx, z_sv, h2, h24, h26]; omega)) d_P_step_60
    · refine lv_aload_n K.1 K.2.1 d_P_step_15 rfl (lv_at hl 0 rfl) ?_
      refine pg_lastLetInterruptsIn (v := z_x_la σ) K hw rfl d_P_step_16 ?_
      have hb45 : z_x_la σ < 2 := z_k_la hO
      refine nv_if_ne K (by omega) d_P_step_19 rfl (fun h46 => ?_) (fun h46 => ?_)
      · refine lv_aload_n K.1 K.2.1 d_P_step_40 rfl (lv_at hl 0 rfl) ?_
        refine pg_halted (v := z_x_ha σ) K hw rfl d_P_step_41 ?_
        have hb47 : z_x_ha σ < 2 := z_k_ha hO
        refine nv_if_eq K (by omega) d_P_step_44 rfl (fun h48 => ?_) (fun h48 => ?_)
        · refine lv_aload_n K.1 K.2.1 d_P_step_61 rfl (lv_at hl 0 rfl) ?_
          refine pki K (c_nextByte (σ := σ) l D cI a hO) (cw_P_121 K (Nat.le_of_ble_eq_true rfl) (Nat.le_of_ble_eq_true rfl)) hw (va_recv (ci := 0) (q0 := 0) hw.2.2.2.1 hw.1 rfl rfl) rfl hl.1 rfl (Nat.le_of_ble_eq_true rfl) d_P_step_62 ⟨Nat.zero_le _, Nat.zero_le _⟩ (fun H locs hw => ?_)
          have hO49 : z_Ok (z_nx σ) := z_ok_nx hO
          have hb50 : z_nb σ < 256 := z_nb_lt hO
          refine lv_istore_n (lv' := [(1, .int (nI (z_nb σ))), (0, .ref a.1)]) K.1 K.2.1 d_P_step_65 rfl hl (by decide) rfl (fun ls hl => ?_)
          refine lv_aload_n K.1 K.2.1 d_P_step_66 rfl (lv_at hl 1 rfl) ?_
          refine lv_iload_n K.1 K.2.1 d_P_step_67 rfl (lv_at hl 0 rfl) ?_
          refine nv_sipush (v := 251) K d_P_step_68 (by decide) ?_
          refine nf_icmp_ne (u := 0) (v := 1) (Y := 79) K (by omega) (by omega) d_P_step_71 rfl (fun _ k => nv_iconst (v := 0) K d_P_step_78 (by decide) k) (fun _ k => nv_iconst (v := 1) K d_P_step_74 (by decide) (lv_goto K.1 K.2.1 d_P_step_75 rfl k)) ?_
          have hb51 : (if (z_nb σ) = 251 then 1 else 0) < 2 := z_ite_ltB _ (by omega) (by omega)
          refine pp_lastLetInterruptsIn (v := (if (z_nb σ) = 251 then 1 else 0)) K hw (by omega) d_P_step_79 (fun H locs hw => ?_)
          have hO52 : z_Ok (z_s_la (z_nx σ) (if (z_nb σ) = 251 then 1 else 0)) := z_ok_la hO49 (by omega)
          refine lv_iload_n K.1 K.2.1 d_P_step_82 rfl (lv_at hl 0 rfl) ?_
          refine nv_bipush (v := 6) K d_P_step_83 (by decide) ?_
          refine nv_ishr (M := 64) K (by omega) rfl (by omega) d_P_step_85 ?_
          rcases (by omega : ((z_nb σ) / 64) = 0 ∨ ((z_nb σ) / 64) = 1 ∨ ((z_nb σ) / 64) = 2 ∨ ((z_nb σ) / 64) = 3) with h53 | h53 | h53 | h53
          · refine nv_as K (congrArg nI h53) ?_
            refine nv_tabIn (a := 0) (tgt := 112) K d_P_step_86 (by decide) (by decide) (by decide) rfl rfl ?_
            refine lv_aload_n K.1 K.2.1 d_P_step_112 rfl (lv_at hl 1 rfl) ?_
            refine lv_dup K.1 K.2.1 d_P_step_113 rfl ?_
            refine pg_stateCount (v := z_x_st σ) K hw rfl d_P_step_114 ?_
            refine lv_aload_n K.1 K.2.1 d_P_step_117 rfl (lv_at hl 1 rfl) ?_
            refine lv_iload_n K.1 K.2.1 d_P_step_118 rfl (lv_at hl 0 rfl) ?_
            refine pki K (c_doFirstQuarter (σ := z_s_la (z_nx σ) (if (z_nb σ) = 251 then 1 else 0)) (b := z_nb σ) l D cI a hO52 (by omega)) (cw_P_124 K (Nat.le_of_ble_eq_true rfl) (Nat.le_of_ble_eq_true rfl)) hw (va_recv (ci := 0) (q0 := 0) hw.2.2.2.1 hw.1 rfl rfl) rfl hl.1 rfl (Nat.le_of_ble_eq_true rfl) d_P_step_119 ⟨Nat.zero_le _, Nat.zero_le _⟩ (fun H locs hw => ?_)
            have hO54 : z_Ok (z_ea (z_s_la (z_nx σ) (if (z_nb σ) = 251 then 1 else 0)) (z_nb σ)) := z_ok_ea hO52 _
            have hb55 : z_ta (z_nb σ) < 17 := z_ta_lt _
            refine lv_i2l K.1 K.2.1 d_P_step_122 (nI_l (by omega)) ?_
            refine lv_ladd K.1 K.2.1 d_P_step_123 (lv_asl K (lN_add _ _) ?_)
            refine pp_stateCount (v := (z_x_st σ) + (z_ta (z_nb σ))) K hw d_P_step_124 (fun H locs hw => ?_)
            have hO56 : z_Ok (z_s_st (z_ea (z_s_la (z_nx σ) (if (z_nb σ) = 251 then 1 else 0)) (z_nb σ)) ((z_x_st σ) + (z_ta (z_nb σ)))) := z_ok_st hO54
            refine lv_goto K.1 K.2.1 d_P_step_127 rfl ?_
            refine nv_iconst (v := 1) K d_P_step_181 (by decide) ?_
            exact prz K hr hlk hw (by first | rfl | (simp [z_sx, z_sv, h2, h24, h46, h48, h53]; done) | (simp only [z_sx, z_sv, h2, h24, h46, h48, h53]; rfl)) (by omega) (by first | rfl | (simp [z_sx, z_sv, h2, h24, h46, h48, h53]; done) | (congr 1; omega) | (simp [z_sx, z_sv, h2, h24, h46, h48, h53]; omega)) d_P_step_182
          · refine nv_as K (congrArg nI h53) ?_
            refine nv_tabIn (a := 1) (tgt := 130) K d_P_step_86 (by decide) (by decide) (by decide) rfl rfl ?_
            refine lv_aload_n K.1 K.2.1 d_P_step_130 rfl (lv_at hl 1 rfl) ?_
            refine lv_dup K.1 K.2.1 d_P_step_131 rfl ?_
            refine pg_stateCount (v := z_x_st σ) K hw rfl d_P_step_132 ?_
            refine lv_aload_n K.1 K.2.1 d_P_step_135 rfl (lv_at hl 1 rfl) ?_
            refine lv_iload_n K.1 K.2.1 d_P_step_136 rfl (lv_at hl 0 rfl) ?_
            refine pki K (c_move (σ := z_s_la (z_nx σ) (if (z_nb σ) = 251 then 1 else 0)) (b := z_nb σ) l D cI a hO52 (by omega)) (cw_P_127 K (Nat.le_of_ble_eq_true rfl) (Nat.le_of_ble_eq_true rfl)) hw (va_recv (ci := 0) (q0 := 0) hw.2.2.2.1 hw.1 rfl rfl) rfl hl.1 rfl (Nat.le_of_ble_eq_true rfl) d_P_step_137 ⟨Nat.zero_le _, Nat.zero_le _⟩ (fun H locs hw => ?_)
            have hO57 : z_Ok (z_eb (z_s_la (z_nx σ) (if (z_nb σ) = 251 then 1 else 0)) (z_nb σ)) := z_ok_eb hO52 _
            have hb58 : z_tb (z_nb σ) < 8 := z_tb_lt _
            refine lv_i2l K.1 K.2.1 d_P_step_140 (nI_l (by omega)) ?_
            refine lv_ladd K.1 K.2.1 d_P_step_141 (lv_asl K (lN_add _ _) ?_)
            refine pp_stateCount (v := (z_x_st σ) + (z_tb (z_nb σ))) K hw d_P_step_142 (fun H locs hw => ?_)
            have hO59 : z_Ok (z_s_st (z_eb (z_s_la (z_nx σ) (if (z_nb σ) = 251 then 1 else 0)) (z_nb σ)) ((z_x_st σ) + (z_tb (z_nb σ)))) := z_ok_st hO57
            refine lv_goto K.1 K.2.1 d_P_step_145 rfl ?_
            refine nv_iconst (v := 1) K d_P_step_181 (by decide) ?_
            exact prz K hr hlk hw (by first | rfl | (simp [z_sx, z_sv, h2, h24, h46, h48, h53]; done) | (simp only [z_sx, z_sv, h2, h24, h46, h48, h53]; rfl)) (by omega) (by first | rfl | (simp [z_sx, z_sv, h2, h24, h46, h48, h53]; done) | (congr 1; omega) | (simp [z_sx, z_sv, h2, h24, h46, h48, h53]; omega)) d_P_step_182
          · refine nv_as K (congrArg nI h53) ?_
            refine nv_tabIn (a := 2) (tgt := 148) K d_P_step_86 (by decide) (by decide) (by decide) rfl rfl ?_
            refine lv_aload_n K.1 K.2.1 d_P_step_148 rfl (lv_at hl 1 rfl) ?_
            refine lv_dup K.1 K.2.1 d_P_step_149 rfl ?_
            refine pg_stateCount (v := z_x_st σ) K hw rfl d_P_step_150 ?_
            refine lv_aload_n K.1 K.2.1 d_P_step_153 rfl (lv_at hl 1 rfl) ?_
            refine lv_iload_n K.1 K.2.1 d_P_step_154 rfl (lv_at hl 0 rfl) ?_
            refine pki K (c_combineWithRegister (σ := z_s_la (z_nx σ) (if (z_nb σ) = 251 then 1 else 0)) (b := z_nb σ) l D cI a hO52 (by omega)) (cw_P_130 K (Nat.le_of_ble_eq_true rfl) (Nat.le_of_ble_eq_true rfl)) hw (va_recv (ci := 0) (q0 := 0) hw.2.2.2.1 hw.1 rfl rfl) rfl hl.1 rfl (Nat.le_of_ble_eq_true rfl) d_P_step_155 ⟨Nat.zero_le _, Nat.zero_le _⟩ (fun H locs hw => ?_)
            have hO60 : z_Ok (z_ec (z_s_la (z_nx σ) (if (z_nb σ) = 251 then 1 else 0)) (z_nb σ)) := z_ok_ec hO52 _
            have hb61 : z_tc (z_nb σ) < 8 := z_tc_lt _
            refine lv_i2l K.1 K.2.1 d_P_step_158 (nI_l (by omega)) ?_
            refine lv_ladd K.1 K.2.1 d_P_step_159 (lv_asl K (lN_add _ _) ?_)
            refine pp_stateCount (v := (z_x_st σ) + (z_tc (z_nb σ))) K hw d_P_step_160 (fun H locs hw => ?_)
            have hO62 : z_Ok (z_s_st (z_ec (z_s_la (z_nx σ) (if (z_nb σ) = 251 then 1 else 0)) (z_nb σ)) ((z_x_st σ) + (z_tc (z_nb σ)))) := z_ok_st hO60
            refine lv_goto K.1 K.2.1 d_P_step_163 rfl ?_
            refine nv_iconst (v := 1) K d_P_step_181 (by decide) ?_
            exact prz K hr hlk hw (by first | rfl | (simp [z_sx, z_sv, h2, h24, h46, h48, h53]; done) | (simp only [z_sx, z_sv, h2, h24, h46, h48, h53]; rfl)) (by omega) (by first | rfl | (simp [z_sx, z_sv, h2, h24, h46, h48, h53]; done) | (congr 1; omega) | (simp [z_sx, z_sv, h2, h24, h46, h48, h53]; omega)) d_P_step_182
          · refine nv_as K (congrArg nI h53) ?_
            refine nv_tabOut (a := 3) (tgt := 166) K d_P_step_86 (by decide) (by decide) rfl ?_
            refine lv_aload_n K.1 K.2.1 d_P_step_166 rfl (lv_at hl 1 rfl) ?_
            refine lv_dup K.1 K.2.1 d_P_step_167 rfl ?_
            refine pg_stateCount (v := z_x_st σ) K hw rfl d_P_step_168 ?_
            refine lv_aload_n K.1 K.2.1 d_P_step_171 rfl (lv_at hl 1 rfl) ?_
            refine lv_iload_n K.1 K.2.1 d_P_step_172 rfl (lv_at hl 0 rfl) ?_
            refine pki K (c_doLastQuarter (σ := z_s_la (z_nx σ) (if (z_nb σ) = 251 then 1 else 0)) (b := z_nb σ) l D cI a hO52 (by omega)) (cw_P_133 K (Nat.le_of_ble_eq_true rfl) (Nat.le_of_ble_eq_true rfl)) hw (va_recv (ci := 0) (q0 := 0) hw.2.2.2.1 hw.1 rfl rfl) rfl hl.1 rfl (Nat.le_of_ble_eq_true rfl) d_P_step_173 ⟨Nat.zero_le _, Nat.zero_le _⟩ (fun H locs hw => ?_)
            have hO63 : z_Ok (z_ed (z_s_la (z_nx σ) (if (z_nb σ) = 251 then 1 else 0)) (z_nb σ)) := z_ok_ed hO52 _
            refine nv_as K (y := nI (z_td σ (z_nb σ))) rfl ?_
            have hb64 : z_td σ (z_nb σ) < 19 := z_td_lt _ _
            refine lv_i2l K.1 K.2.1 d_P_step_176 (nI_l (by omega)) ?_
            refine lv_ladd K.1 K.2.1 d_P_step_177 (lv_asl K (lN_add _ _) ?_)
            refine pp_stateCount (v := (z_x_st σ) + (z_td σ (z_nb σ))) K hw d_P_step_178 (fun H locs hw => ?_)
            have hO65 : z_Ok (z_s_st (z_ed (z_s_la (z_nx σ) (if (z_nb σ) = 251 then 1 else 0)) (z_nb σ)) ((z_x_st σ) + (z_td σ (z_nb σ)))) := z_ok_st hO63
            refine nv_iconst (v := 1) K d_P_step_181 (by decide) ?_
            exact prz K hr hlk hw (by first | rfl | (simp [z_sx, z_sv, h2, h24, h46, h48, h53]; done) | (simp only [z_sx, z_sv, h2, h24, h46, h48, h53]; rfl)) (by omega) (by first | rfl | (simp [z_sx, z_sv, h2, h24, h46, h48, h53]; done) | (congr 1; omega) | (simp [z_sx, z_sv, h2, h24, h46, h48, h53]; omega)) d_P_step_182
        · refine lv_aload_n K.1 K.2.1 d_P_step_47 rfl (lv_at hl 0 rfl) ?_
          refine lv_dup K.1 K.2.1 d_P_step_48 rfl ?_
          refine pg_stateCount (v := z_x_st σ) K hw rfl d_P_step_49 ?_
          refine lv_ldc2 (v := lN 4) K.1 K.2.1 K.2.2.2.1 (K.2.2.2.2 _ (List.mem_cons_of_mem _ m_constantLong_PortProcessor_119_4)) d_P_step_52 ?_
          refine lv_ladd K.1 K.2.1 d_P_step_55 (lv_asl K (lN_add _ _) ?_)
          refine pp_stateCount (v := (z_x_st σ) + 4) K hw d_P_step_56 (fun H locs hw => ?_)
          have hO66 : z_Ok (z_s_st σ ((z_x_st σ) + 4)) := z_ok_st hO
          refine nv_iconst (v := 0) K d_P_step_59 (by decide) ?_
          exact prz K hr hlk hw (by first | rfl | (simp [z_sx, z_sv, h2, h24, h46, h48]; done) | (simp only [z_sx, z_sv, h2, h24, h46, h48]; rfl)) (by omega) (by first | rfl | (simp [z_sx, z_sv, h2, h24, h46, h48]; done) | (congr 1; omega) | (simp [z_sx, z_sv, h2, h24, h46, h48]; omega)) d_P_step_60
      · refine lv_aload_n K.1 K.2.1 d_P_step_22 rfl (lv_at hl 0 rfl) ?_
        refine pkv K (c_letInterruptIn (σ := σ) l D cI a hO (by omega)) (cw_P_114 K (Nat.le_of_ble_eq_true rfl) (Nat.le_of_ble_eq_true rfl)) hw (va_recv (ci := 0) (q0 := 0) hw.2.2.2.1 hw.1 rfl rfl) rfl hl.1 rfl (Nat.le_of_ble_eq_true rfl) d_P_step_23 ⟨Nat.zero_le _, Nat.zero_le _⟩ (fun H locs hw => ?_)
        have hO67 : z_Ok (z_li σ) := z_ok_li hO
        refine lv_aload_n K.1 K.2.1 d_P_step_26 rfl (lv_at hl 0 rfl) ?_
        refine lv_dup K.1 K.2.1 d_P_step_27 rfl ?_
        refine pg_stateCount (v := z_x_st σ) K hw rfl d_P_step_28 ?_
        refine lv_ldc2 (v := lN 11) K.1 K.2.1 K.2.2.2.1 (K.2.2.2.2 _ (List.mem_cons_of_mem _ m_constantLong_PortProcessor_117_11)) d_P_step_31 ?_
        refine lv_ladd K.1 K.2.1 d_P_step_34 (lv_asl K (lN_add _ _) ?_)
        refine pp_stateCount (v := (z_x_st σ) + 11) K hw d_P_step_35 (fun H locs hw => ?_)
        have hO68 : z_Ok (z_s_st (z_li σ) ((z_x_st σ) + 11)) := z_ok_st hO67
        refine nv_iconst (v := 1) K d_P_step_38 (by decide) ?_
        exact prz K hr hlk hw (by first | rfl | (simp [z_sx, z_sv, h2, h24, h46]; done) | (simp only [z_sx, z_sv, h2, h24, h46]; rfl)) (by omega) (by first | rfl | (simp [z_sx, z_sv, h2, h24, h46]; done) | (congr 1; omega) | (simp [z_sx, z_sv, h2, h24, h46]; omega)) d_P_step_39

set_option maxHeartbeats 4000000 in
set_option maxRecDepth 100000 in
theorem c_doLastQuarter {σ : z_St} {b : Nat} (l : Launch) (D : va_G) (cI : ClassId) (a : pAd) (hO : z_Ok σ) (hb : b < 256) : pCi l y_P_doLastQuarter w_P_doLastQuarter 4 93 D cI a [.ref a.1, .int (nI b)] σ (z_ed σ b) (nI (z_td σ b)) := by
  refine pci_of (cc := b_P_doLastQuarter) (maxL := 2) (ret := (some .int)) (by decide) rfl (Nat.le_of_ble_eq_true rfl) ?_
  intro p e s m below meth c ls K hr hlk hl hw
  have K : CallFix p m c b_P_doLastQuarter 2 s _ (_ :: T0) "PortProcessor" := K
  have hl : lv_has ls 2 [(0, .ref a.1), (1, .int (nI b))] := hl
  refine lv_iload_n K.1 K.2.1 d_P_doLastQuarter_0 rfl (lv_at hl 1 rfl) ?_
  refine nv_bipush (v := 7) K d_P_doLastQuarter_1 (by decide) ?_
  refine nv_mask (M := 8) K 3 rfl rfl d_P_doLastQuarter_3 ?_
  rcases (by omega : (b % 8) = 0 ∨ (b % 8) = 1 ∨ (b % 8) = 2 ∨ (b % 8) = 3 ∨ (b % 8) = 4 ∨ (b % 8) = 5 ∨ (b % 8) = 6 ∨ (b % 8) = 7) with h1 | h1 | h1 | h1 | h1 | h1 | h1 | h1
  · refine nv_as K (congrArg nI h1) ?_
    refine nv_tabIn (a := 0) (tgt := 48) K d_P_doLastQuarter_4 (by decide) (by decide) (by decide) rfl rfl ?_
    refine lv_aload_n K.1 K.2.1 d_P_doLastQuarter_48 rfl (lv_at hl 0 rfl) ?_
    refine lv_iload_n K.1 K.2.1 d_P_doLastQuarter_49 rfl (lv_at hl 1 rfl) ?_
    refine pki K (c_returnOnCondition (σ := σ) (b := b) l D cI a hO (by omega)) (cw_P_163 K (Nat.le_of_ble_eq_true rfl) (Nat.le_of_ble_eq_true rfl)) hw (va_recv (ci := 0) (q0 := 0) hw.2.2.2.1 hw.1 rfl rfl) rfl hl.1 rfl (Nat.le_of_ble_eq_true rfl) d_P_doLastQuarter_50 ⟨Nat.zero_le _, Nat.zero_le _⟩ (fun H locs hw => ?_)
    have hO2 : z_Ok (if z_hold σ (b / 8 % 8) = 1 then z_rt σ else σ) := z_ok_j3 hO _
    have hb3 : (if z_hold σ (b / 8 % 8) = 1 then 11 else 5) < 12 := z_ite_ltB _ (by omega) (by omega)
    exact pri K hr hlk hw (by unfold z_ed; rw [h1]; rfl) (by unfold z_td; rw [h1]; rfl) d_P_doLastQuarter_53
  · refine nv_as K (congrArg nI h1) ?_
    refine nv_tabIn (a := 1) (tgt := 54) K d_P_doLastQuarter_4 (by decide) (by decide) (by decide) rfl rfl ?_
    refine lv_iload_n K.1 K.2.1 d_P_doLastQuarter_54 rfl (lv_at hl 1 rfl) ?_
    refine nv_bipush (v := 8) K d_P_doLastQuarter_55 (by decide) ?_
    refine nv_iand K d_P_doLastQuarter_57 ?_
    have hb4 : b &&& 8 ≤ 8 := Nat.and_le_right
    have hb5 : b &&& 8 = 8 * (b / 8 % 2) := nz_b8 _ (by omega)
    refine nv_if_ne K (by omega) d_P_doLastQuarter_58 rfl (fun h6 => ?_) (fun h6 => ?_)
    · refine lv_aload_n K.1 K.2.1 d_P_doLastQuarter_69 rfl (lv_at hl 0 rfl) ?_
      refine lv_iload_n K.1 K.2.1 d_P_doLastQuarter_70 rfl (lv_at hl 1 rfl) ?_
      refine pki K (c_returnOrCopyHl (σ := σ) (b := b) l D cI a hO (by omega)) (cw_P_169 K (Nat.le_of_ble_eq_true rfl) (Nat.le_of_ble_eq_true rfl)) hw (va_recv (ci := 0) (q0 := 0) hw.2.2.2.1 hw.1 rfl rfl) rfl hl.1 rfl (Nat.le_of_ble_eq_true rfl) d_P_doLastQuarter_71 ⟨Nat.zero_le _, Nat.zero_le _⟩ (fun H locs hw => ?_)
      have hO7 : z_Ok (if b / 16 % 4 = 2 then z_s_pc σ (z_pg σ 2) else if b / 16 % 4 = 3 then z_s_sp σ (z_pg σ 2) else z_rt σ) := z_ok_j4 hO _
      have hb8 : (if b / 16 % 4 = 2 then 5 else if b / 16 % 4 = 3 then 5 else 10) < 11 := z_ite_ltB _ (by omega) (z_ite_ltB _ (by omega) (by omega))
      exact pri K hr hlk hw (by unfold z_ed; exact ((if_neg (by omega)).trans ((if_pos h1).trans (if_neg (by omega)))).symm) (congrArg nI (by unfold z_td; exact ((if_neg (by omega)).trans ((if_pos h1).trans (if_neg (by omega)))).symm)) d_P_doLastQuarter_74
    · refine lv_aload_n K.1 K.2.1 d_P_doLastQuarter_61 rfl (lv_at hl 0 rfl) ?_
      refine lv_iload_n K.1 K.2.1 d_P_doLastQuarter_62 rfl (lv_at hl 1 rfl) ?_
      refine pki K (c_popPair (σ := σ) (b := b) l D cI a hO (by omega)) (cw_P_166 K (Nat.le_of_ble_eq_true rfl) (Nat.le_of_ble_eq_true rfl)) hw (va_recv (ci := 0) (q0 := 0) hw.2.2.2.1 hw.1 rfl rfl) rfl hl.1 rfl (Nat.le_of_ble_eq_true rfl) d_P_doLastQuarter_63 ⟨Nat.zero_le _, Nat.zero_le _⟩ (fun H locs hw => ?_)
      have hO9 : z_Ok (z_pp σ (b / 16 % 4)) := z_ok_pp hO _
      refine lv_goto K.1 K.2.1 d_P_doLastQuarter_66 rfl ?_
      exact pri K hr hlk hw (by unfold z_ed; exact ((if_neg (by omega)).trans ((if_pos h1).trans (if_pos (by omega)))).symm) (congrArg nI (by unfold z_td; exact ((if_neg (by omega)).trans ((if_pos h1).trans (if_pos (by omega)))).symm)) d_P_doLastQuarter_74
  · refine nv_as K (congrArg nI h1) ?_
    refine nv_tabIn (a := 2) (tgt := 75) K d_P_doLastQuarter_4 (by decide) (by decide) (by decide) rfl rfl ?_
    refine lv_aload_n K.1 K.2.1 d_P_doLastQuarter_75 rfl (lv_at hl 0 rfl) ?_
    refine lv_iload_n K.1 K.2.1 d_P_doLastQuarter_76 rfl (lv_at hl 1 rfl) ?_
    refine pki K (c_jumpOnCondition (σ := σ) (b := b) l D cI a hO (by omega)) (cw_P_172 K (Nat.le_of_ble_eq_true rfl) (Nat.le_of_ble_eq_true rfl)) hw (va_recv (ci := 0) (q0 := 0) hw.2.2.2.1 hw.1 rfl rfl) rfl hl.1 rfl (Nat.le_of_ble_eq_true rfl) d_P_doLastQuarter_77 ⟨Nat.zero_le _, Nat.zero_le _⟩ (fun H locs hw => ?_)
    have hO10 : z_Ok (if z_hold σ (b / 8 % 8) = 1 then z_s_pc (z_nn σ) (z_nw σ) else z_nn σ) := z_ok_j1 hO _
    exact pri K hr hlk hw (by unfold z_ed; rw [h1]; rfl) (by unfold z_td; rw [h1]; rfl) d_P_doLastQuarter_80
  · refine nv_as K (congrArg nI h1) ?_
    refine nv_tabIn (a := 3) (tgt := 81) K d_P_doLastQuarter_4 (by decide) (by decide) (by decide) rfl rfl ?_
    refine lv_aload_n K.1 K.2.1 d_P_doLastQuarter_81 rfl (lv_at hl 0 rfl) ?_
    refine lv_iload_n K.1 K.2.1 d_P_doLastQuarter_82 rfl (lv_at hl 1 rfl) ?_
    refine pki K (c_jumpExchangeOrSwitch (σ := σ) (b := b) l D cI a hO (by omega)) (cw_P_175 K (Nat.le_of_ble_eq_true rfl) (Nat.le_of_ble_eq_true rfl)) hw (va_recv (ci := 0) (q0 := 0) hw.2.2.2.1 hw.1 rfl rfl) rfl hl.1 rfl (Nat.le_of_ble_eq_true rfl) d_P_doLastQuarter_83 ⟨Nat.zero_le _, Nat.zero_le _⟩ (fun H locs hw => ?_)
    have hO11 : z_Ok (z_e3 σ (b / 8 % 8)) := z_ok_e3 hO _
    have hb12 : z_t3 (b / 8 % 8) < 19 := z_t3_lt _
    exact pri K hr hlk hw (by unfold z_ed; rw [h1]; rfl) (by unfold z_td; rw [h1]; rfl) d_P_doLastQuarter_86
  · refine nv_as K (congrArg nI h1) ?_
    refine nv_tabIn (a := 4) (tgt := 87) K d_P_doLastQuarter_4 (by decide) (by decide) (by decide) rfl rfl ?_
    refine lv_aload_n K.1 K.2.1 d_P_doLastQuarter_87 rfl (lv_at hl 0 rfl) ?_
    refine lv_iload_n K.1 K.2.1 d_P_doLastQuarter_88 rfl (lv_at hl 1 rfl) ?_
    refine pki K (c_callOnCondition (σ := σ) (b := b) l D cI a hO (by omega)) (cw_P_178 K (Nat.le_of_ble_eq_true rfl) (Nat.le_of_ble_eq_true rfl)) hw (va_recv (ci := 0) (q0 := 0) hw.2.2.2.1 hw.1 rfl rfl) rfl hl.1 rfl (Nat.le_of_ble_eq_true rfl) d_P_doLastQuarter_89 ⟨Nat.zero_le _, Nat.zero_le _⟩ (fun H locs hw => ?_)
    have hO13 : z_Ok (if z_hold σ (b / 8 % 8) = 1 then z_ct (z_nn σ) (z_nw σ) else z_nn σ) := z_ok_j2 hO _
    have hb14 : (if z_hold σ (b / 8 % 8) = 1 then 17 else 11) < 18 := z_ite_ltB _ (by omega) (by omega)
    exact pri K hr hlk hw (by unfold z_ed; rw [h1]; rfl) (by unfold z_td; rw [h1]; rfl) d_P_doLastQuarter_92
  · refine nv_as K (congrArg nI h1) ?_
    refine nv_tabIn (a := 5) (tgt := 93) K d_P_doLastQuarter_4 (by decide) (by decide) (by decide) rfl rfl ?_
    refine lv_iload_n K.1 K.2.1 d_P_doLastQuarter_93 rfl (lv_at hl 1 rfl) ?_
    refine nv_bipush (v := 8) K d_P_doLastQuarter_94 (by decide) ?_
    refine nv_iand K d_P_doLastQuarter_96 ?_
    have hb15 : b &&& 8 ≤ 8 := Nat.and_le_right
    have hb16 : b &&& 8 = 8 * (b / 8 % 2) := nz_b8 _ (by omega)
    refine nv_if_ne K (by omega) d_P_doLastQuarter_97 rfl (fun h17 => ?_) (fun h17 => ?_)
    · refine lv_aload_n K.1 K.2.1 d_P_doLastQuarter_108 rfl (lv_at hl 0 rfl) ?_
      refine pki K (c_callAlways (σ := σ) l D cI a hO) (cw_P_184 K (Nat.le_of_ble_eq_true rfl) (Nat.le_of_ble_eq_true rfl)) hw (va_recv (ci := 0) (q0 := 0) hw.2.2.2.1 hw.1 rfl rfl) rfl hl.1 rfl (Nat.le_of_ble_eq_true rfl) d_P_doLastQuarter_109 ⟨Nat.zero_le _, Nat.zero_le _⟩ (fun H locs hw => ?_)
      have hO18 : z_Ok (z_ct (z_nn σ) (z_nw σ)) := z_ok_ct (z_ok_nn hO) (z_nw_lt hO)
      exact pri K hr hlk hw (by unfold z_ed; exact ((if_neg (by omega)).trans ((if_neg (by omega)).trans ((if_neg (by omega)).trans ((if_neg (by omega)).trans ((if_neg (by omega)).trans ((if_pos h1).trans (if_neg (by omega)))))))).symm) (congrArg nI (by unfold z_td; exact ((if_neg (by omega)).trans ((if_neg (by omega)).trans ((if_neg (by omega)).trans ((if_neg (by omega)).trans ((if_neg (by omega)).trans ((if_pos h1).trans (if_neg (by omega)))))))).symm)) d_P_doLastQuarter_112
    · refine lv_aload_n K.1 K.2.1 d_P_doLastQuarter_100 rfl (lv_at hl 0 rfl) ?_
      refine lv_iload_n K.1 K.2.1 d_P_doLastQuarter_101 rfl (lv_at hl 1 rfl) ?_
      refine pki K (c_pushPair (σ := σ) (b := b) l D cI a hO (by omega)) (cw_P_181 K (Nat.le_of_ble_eq_true rfl) (Nat.le_of_ble_eq_true rfl)) hw (va_recv (ci := 0) (q0 := 0) hw.2.2.2.1 hw.1 rfl rfl) rfl hl.1 rfl (Nat.le_of_ble_eq_true rfl) d_P_doLastQuarter_102 ⟨Nat.zero_le _, Nat.zero_le _⟩ (fun H locs hw => ?_)
      have hO19 : z_Ok (z_pu σ (z_pq σ (b / 16 % 4))) := z_ok_pu hO (z_pq_lt hO _)
      refine lv_goto K.1 K.2.1 d_P_doLastQuarter_105 rfl ?_
      exact pri K hr hlk hw (by unfold z_ed; exact ((if_neg (by omega)).trans ((if_neg (by omega)).trans ((if_neg (by omega)).trans ((if_neg (by omega)).trans ((if_neg (by omega)).trans ((if_pos h1).trans (if_pos (by omega)))))))).symm) (congrArg nI (by unfold z_td; exact ((if_neg (by omega)).trans ((if_neg (by omega)).trans ((if_neg (by omega)).trans ((if_neg (by omega)).trans ((if_neg (by omega)).trans ((if_pos h1).trans (if_pos (by omega)))))))).symm)) d_P_doLastQuarter_112
  · refine nv_as K (congrArg nI h1) ?_
    refine nv_tabIn (a := 6) (tgt := 113) K d_P_doLastQuarter_4 (by decide) (by decide) (by decide) rfl rfl ?_
    refine lv_aload_n K.1 K.2.1 d_P_doLastQuarter_113 rfl (lv_at hl 0 rfl) ?_
    refine lv_iload_n K.1 K.2.1 d_P_doLastQuarter_114 rfl (lv_at hl 1 rfl) ?_
    refine pki K (c_combineWithNext (σ := σ) (b := b) l D cI a hO (by omega)) (cw_P_187 K (Nat.le_of_ble_eq_true rfl) (Nat.le_of_ble_eq_true rfl)) hw (va_recv (ci := 0) (q0 := 0) hw.2.2.2.1 hw.1 rfl rfl) rfl hl.1 rfl (Nat.le_of_ble_eq_true rfl) d_P_doLastQuarter_115 ⟨Nat.zero_le _, Nat.zero_le _⟩ (fun H locs hw => ?_)
    have hO20 : z_Ok (z_rk (z_nx σ) (b / 8 % 8) (z_nb σ)) := z_ok_rk (z_ok_nx hO) _ (z_nb_lt hO)
    exact pri K hr hlk hw (by unfold z_ed; rw [h1]; rfl) (by unfold z_td; rw [h1]; rfl) d_P_doLastQuarter_118
  · refine nv_as K (congrArg nI h1) ?_
    refine nv_tabOut (a := 7) (tgt := 119) K d_P_doLastQuarter_4 (by decide) (by decide) rfl ?_
    refine lv_aload_n K.1 K.2.1 d_P_doLastQuarter_119 rfl (lv_at hl 0 rfl) ?_
    refine lv_iload_n K.1 K.2.1 d_P_doLastQuarter_120 rfl (lv_at hl 1 rfl) ?_
    refine nv_bipush (v := 56) K d_P_doLastQuarter_121 (by decide) ?_
    refine nv_iand K d_P_doLastQuarter_123 ?_
    have hb21 : b &&& 56 ≤ 56 := Nat.and_le_right
    have hb22 : b &&& 56 = 8 * (b / 8 % 8) := nz_b56 _ (by omega)
    refine pkv K (c_callTo (σ := σ) (x := b &&& 56) l D cI a hO (by omega)) (cw_P_136 K (Nat.le_of_ble_eq_true rfl) (Nat.le_of_ble_eq_true rfl)) hw (va_recv (ci := 0) (q0 := 0) hw.2.2.2.1 hw.1 rfl rfl) rfl hl.1 rfl (Nat.le_of_ble_eq_true rfl) d_P_doLastQuarter_124 ⟨Nat.zero_le _, Nat.zero_le _⟩ (fun H locs hw => ?_)
    have hO23 : z_Ok (z_ct σ (b &&& 56)) := z_ok_ct hO (by omega)
    refine nv_bipush (v := 11) K d_P_doLastQuarter_127 (by decide) ?_
    exact pri K hr hlk hw (by unfold z_ed; rw [h1]; simp [nz_b56 b hb]) (by unfold z_td; rw [h1]; rfl) d_P_doLastQuarter_129

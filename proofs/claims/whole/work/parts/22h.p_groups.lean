set_option maxHeartbeats 4000000 in
set_option maxRecDepth 100000 in
theorem c_move {σ : z_St} {b : Nat} (l : Launch) (D : va_G) (cI : ClassId) (a : pAd) (hO : z_Ok σ) (hb : b < 256) : pCi l y_P_move w_P_move 2 44 D cI a [.ref a.1, .int (nI b)] σ (z_eb σ b) (nI (z_tb b)) := by
  refine pci_of (cc := b_P_move) (maxL := 4) (ret := (some .int)) (by decide) rfl (Nat.le_of_ble_eq_true rfl) ?_
  intro p e s m below meth c ls K hr hlk hl hw
  have K : CallFix p m c b_P_move 4 s _ (_ :: T0) "PortProcessor" := K
  have hl : lv_has ls 4 [(0, .ref a.1), (1, .int (nI b))] := hl
  refine lv_iload_n K.1 K.2.1 d_P_move_0 rfl (lv_at hl 1 rfl) ?_
  refine nv_bipush (v := 118) K d_P_move_1 (by decide) ?_
  refine nv_icmp_ne K (by omega) (by omega) d_P_move_3 rfl (fun h1 => ?_) (fun h1 => ?_)
  · refine lv_iload_n K.1 K.2.1 d_P_move_14 rfl (lv_at hl 1 rfl) ?_
    refine psi K (c_targetOf (σ := σ) (b := b) l D cI a hO (by omega)) (cw_P_212 K (Nat.le_of_ble_eq_true rfl) (Nat.le_of_ble_eq_true rfl)) hw rfl hl.1 rfl (Nat.le_of_ble_eq_true rfl) d_P_move_15 ⟨Nat.zero_le _, Nat.zero_le _⟩ (fun H locs hw => ?_)
    refine lv_istore_n (lv' := [(2, .int (nI (b / 8 % 8))), (0, .ref a.1), (1, .int (nI b))]) K.1 K.2.1 d_P_move_18 rfl hl (by decide) rfl (fun ls hl => ?_)
    refine lv_iload_n K.1 K.2.1 d_P_move_19 rfl (lv_at hl 2 rfl) ?_
    refine nv_bipush (v := 7) K d_P_move_20 (by decide) ?_
    refine nv_mask (M := 8) K 3 rfl rfl d_P_move_22 ?_
    refine lv_istore_n (lv' := [(3, .int (nI (b % 8))), (2, .int (nI (b / 8 % 8))), (0, .ref a.1), (1, .int (nI b))]) K.1 K.2.1 d_P_move_23 rfl hl (by decide) rfl (fun ls hl => ?_)
    refine lv_aload_n K.1 K.2.1 d_P_move_24 rfl (lv_at hl 2 rfl) ?_
    refine lv_iload_n K.1 K.2.1 d_P_move_25 rfl (lv_at hl 1 rfl) ?_
    refine lv_aload_n K.1 K.2.1 d_P_move_26 rfl (lv_at hl 2 rfl) ?_
    refine lv_iload_n K.1 K.2.1 d_P_move_27 rfl (lv_at hl 0 rfl) ?_
    refine pki K (c_readRegister (σ := σ) (r := b % 8) l D cI a hO (by omega)) (cw_P_91 K (Nat.le_of_ble_eq_true rfl) (Nat.le_of_ble_eq_true rfl)) hw (va_recv (ci := 0) (q0 := 0) hw.2.2.2.1 hw.1 rfl rfl) rfl hl.1 rfl (Nat.le_of_ble_eq_true rfl) d_P_move_28 ⟨Nat.zero_le _, Nat.zero_le _⟩ (fun H locs hw => ?_)
    have hb2 : z_rg σ (b % 8) < 256 := z_rg_lt hO _
    refine pkv K (c_writeRegister (σ := σ) (r := b / 8 % 8) (v := z_rg σ (b % 8)) l D cI a hO (by omega) (by omega)) (cw_P_218 K (Nat.le_of_ble_eq_true rfl) (Nat.le_of_ble_eq_true rfl)) hw (va_recv (ci := 0) (q0 := 0) hw.2.2.2.1 hw.1 rfl rfl) rfl hl.1 rfl (Nat.le_of_ble_eq_true rfl) d_P_move_31 ⟨Nat.zero_le _, Nat.zero_le _⟩ (fun H locs hw => ?_)
    have hO3 : z_Ok (z_rs σ (b / 8 % 8) (z_rg σ (b % 8))) := z_ok_rs hO _ (by omega)
    refine lv_iload_n K.1 K.2.1 d_P_move_34 rfl (lv_at hl 1 rfl) ?_
    refine nv_bipush (v := 6) K d_P_move_35 (by decide) ?_
    refine nv_icmp_eq K (by omega) (by omega) d_P_move_37 rfl (fun h4 => ?_) (fun h4 => ?_)
    · refine nv_bipush (v := 7) K d_P_move_46 (by decide) ?_
      refine lv_goto K.1 K.2.1 d_P_move_48 rfl ?_
      exact pri K hr hlk hw (by unfold z_eb; first | (rw [if_pos (by omega)]; done) | (rw [if_neg (by omega)]; done)) (congrArg nI (by unfold z_tb; (repeat' split) <;> omega)) d_P_move_52
    · refine lv_iload_n K.1 K.2.1 d_P_move_40 rfl (lv_at hl 0 rfl) ?_
      refine nv_bipush (v := 6) K d_P_move_41 (by decide) ?_
      refine nf_icmp_ne (u := 5) (v := 7) (Y := 52) K (by omega) (by omega) d_P_move_43 rfl (fun _ k => nv_iconst (v := 5) K d_P_move_51 (by decide) k) (fun _ k => nv_bipush (v := 7) K d_P_move_46 (by decide) (lv_goto K.1 K.2.1 d_P_move_48 rfl k)) ?_
      have hb5 : (if (b % 8) = 6 then 7 else 5) < 8 := z_ite_ltB _ (by omega) (by omega)
      exact pri K hr hlk hw (by unfold z_eb; first | (rw [if_pos (by omega)]; done) | (rw [if_neg (by omega)]; done)) (congrArg nI (by unfold z_tb; (repeat' split) <;> omega)) d_P_move_52
  · refine lv_aload_n K.1 K.2.1 d_P_move_6 rfl (lv_at hl 0 rfl) ?_
    refine nv_iconst (v := 1) K d_P_move_7 (by decide) ?_
    refine pp_halted (v := 1) K hw (by omega) d_P_move_8 (fun H locs hw => ?_)
    have hO6 : z_Ok (z_s_ha σ 1) := z_ok_ha hO (by omega)
    refine nv_bipush (v := 7) K d_P_move_11 (by decide) ?_
    exact pri K hr hlk hw (by unfold z_eb; first | (rw [if_pos (by omega)]; done) | (rw [if_neg (by omega)]; done)) (congrArg nI (by unfold z_tb; (repeat' split) <;> omega)) d_P_move_13

set_option maxHeartbeats 4000000 in
set_option maxRecDepth 100000 in
theorem c_returnOrCopyHl {σ : z_St} {b : Nat} (l : Launch) (D : va_G) (cI : ClassId) (a : pAd) (hO : z_Ok σ) (hb : b < 256) : pCi l y_P_returnOrCopyHl w_P_returnOrCopyHl 2 43 D cI a [.ref a.1, .int (nI b)] σ (if b / 16 % 4 = 2 then z_s_pc σ (z_pg σ 2) else if b / 16 % 4 = 3 then z_s_sp σ (z_pg σ 2) else z_rt σ) (nI (if b / 16 % 4 = 2 then 5 else if b / 16 % 4 = 3 then 5 else 10)) := by
  refine pci_of (cc := b_P_returnOrCopyHl) (maxL := 2) (ret := (some .int)) (by decide) rfl (Nat.le_of_ble_eq_true rfl) ?_
  intro p e s m below meth c ls K hr hlk hl hw
  have K : CallFix p m c b_P_returnOrCopyHl 2 s _ (_ :: T0) "PortProcessor" := K
  have hl : lv_has ls 2 [(0, .ref a.1), (1, .int (nI b))] := hl
  refine lv_iload_n K.1 K.2.1 d_P_returnOrCopyHl_0 rfl (lv_at hl 1 rfl) ?_
  refine psi K (c_pairOf (σ := σ) (b := b) l D cI a hO (by omega)) (cw_P_190 K (Nat.le_of_ble_eq_true rfl) (Nat.le_of_ble_eq_true rfl)) hw rfl hl.1 rfl (Nat.le_of_ble_eq_true rfl) d_P_returnOrCopyHl_1 ⟨Nat.zero_le _, Nat.zero_le _⟩ (fun H locs hw => ?_)
  rcases (by omega : (b / 16 % 4) = 0 ∨ (b / 16 % 4) = 1 ∨ (b / 16 % 4) = 2 ∨ (b / 16 % 4) = 3) with h1 | h1 | h1 | h1
  · refine nv_as K (congrArg nI h1) ?_
    refine nv_lookup (a := 0) (tgt := 54) K d_P_returnOrCopyHl_4 (by decide) rfl rfl rfl ?_
    refine lv_aload_n K.1 K.2.1 d_P_returnOrCopyHl_54 rfl (lv_at hl 0 rfl) ?_
    refine lv_aload_n K.1 K.2.1 d_P_returnOrCopyHl_55 rfl (lv_at hl 0 rfl) ?_
    refine pki K (c_pop (σ := σ) l D cI a hO) (cw_P_244 K (Nat.le_of_ble_eq_true rfl) (Nat.le_of_ble_eq_true rfl)) hw (va_recv (ci := 0) (q0 := 0) hw.2.2.2.1 hw.1 rfl rfl) rfl hl.1 rfl (Nat.le_of_ble_eq_true rfl) d_P_returnOrCopyHl_56 ⟨Nat.zero_le _, Nat.zero_le _⟩ (fun H locs hw => ?_)
    have hO2 : z_Ok (z_po σ) := z_ok_po hO
    have hb3 : z_pv σ < 65536 := z_pv_lt hO
    refine pp_programCounter (v := z_pv σ) K hw d_P_returnOrCopyHl_59 (fun H locs hw => ?_)
    have hO4 : z_Ok (z_s_pc (z_po σ) (z_pv σ)) := z_ok_pc hO2 (by omega)
    refine nv_bipush (v := 10) K d_P_returnOrCopyHl_62 (by decide) ?_
    exact pri K hr hlk hw (by rw [h1]; rfl) (by rw [h1]; rfl) d_P_returnOrCopyHl_64
  · refine nv_as K (congrArg nI h1) ?_
    refine nv_lookup (a := 1) (tgt := 54) K d_P_returnOrCopyHl_4 (by decide) rfl rfl rfl ?_
    refine lv_aload_n K.1 K.2.1 d_P_returnOrCopyHl_54 rfl (lv_at hl 0 rfl) ?_
    refine lv_aload_n K.1 K.2.1 d_P_returnOrCopyHl_55 rfl (lv_at hl 0 rfl) ?_
    refine pki K (c_pop (σ := σ) l D cI a hO) (cw_P_244 K (Nat.le_of_ble_eq_true rfl) (Nat.le_of_ble_eq_true rfl)) hw (va_recv (ci := 0) (q0 := 0) hw.2.2.2.1 hw.1 rfl rfl) rfl hl.1 rfl (Nat.le_of_ble_eq_true rfl) d_P_returnOrCopyHl_56 ⟨Nat.zero_le _, Nat.zero_le _⟩ (fun H locs hw => ?_)
    have hO5 : z_Ok (z_po σ) := z_ok_po hO
    have hb6 : z_pv σ < 65536 := z_pv_lt hO
    refine pp_programCounter (v := z_pv σ) K hw d_P_returnOrCopyHl_59 (fun H locs hw => ?_)
    have hO7 : z_Ok (z_s_pc (z_po σ) (z_pv σ)) := z_ok_pc hO5 (by omega)
    refine nv_bipush (v := 10) K d_P_returnOrCopyHl_62 (by decide) ?_
    exact pri K hr hlk hw (by rw [h1]; rfl) (by rw [h1]; rfl) d_P_returnOrCopyHl_64
  · refine nv_as K (congrArg nI h1) ?_
    refine nv_lookup (a := 2) (tgt := 32) K d_P_returnOrCopyHl_4 (by decide) rfl rfl rfl ?_
    refine lv_aload_n K.1 K.2.1 d_P_returnOrCopyHl_32 rfl (lv_at hl 0 rfl) ?_
    refine lv_aload_n K.1 K.2.1 d_P_returnOrCopyHl_33 rfl (lv_at hl 0 rfl) ?_
    refine nv_iconst (v := 2) K d_P_returnOrCopyHl_34 (by decide) ?_
    refine pki K (c_readPair (σ := σ) (k := 2) l D cI a hO (by omega)) (cw_P_199 K (Nat.le_of_ble_eq_true rfl) (Nat.le_of_ble_eq_true rfl)) hw (va_recv (ci := 0) (q0 := 0) hw.2.2.2.1 hw.1 rfl rfl) rfl hl.1 rfl (Nat.le_of_ble_eq_true rfl) d_P_returnOrCopyHl_35 ⟨Nat.zero_le _, Nat.zero_le _⟩ (fun H locs hw => ?_)
    have hb8 : z_pg σ 2 < 65536 := z_pg_lt hO _
    refine pp_programCounter (v := z_pg σ 2) K hw d_P_returnOrCopyHl_38 (fun H locs hw => ?_)
    have hO9 : z_Ok (z_s_pc σ (z_pg σ 2)) := z_ok_pc hO (by omega)
    refine nv_iconst (v := 5) K d_P_returnOrCopyHl_41 (by decide) ?_
    exact pri K hr hlk hw (by rw [h1]; rfl) (by rw [h1]; rfl) d_P_returnOrCopyHl_42
  · refine nv_as K (congrArg nI h1) ?_
    refine nv_lookup (a := 3) (tgt := 43) K d_P_returnOrCopyHl_4 (by decide) rfl rfl rfl ?_
    refine lv_aload_n K.1 K.2.1 d_P_returnOrCopyHl_43 rfl (lv_at hl 0 rfl) ?_
    refine lv_aload_n K.1 K.2.1 d_P_returnOrCopyHl_44 rfl (lv_at hl 0 rfl) ?_
    refine nv_iconst (v := 2) K d_P_returnOrCopyHl_45 (by decide) ?_
    refine pki K (c_readPair (σ := σ) (k := 2) l D cI a hO (by omega)) (cw_P_199 K (Nat.le_of_ble_eq_true rfl) (Nat.le_of_ble_eq_true rfl)) hw (va_recv (ci := 0) (q0 := 0) hw.2.2.2.1 hw.1 rfl rfl) rfl hl.1 rfl (Nat.le_of_ble_eq_true rfl) d_P_returnOrCopyHl_46 ⟨Nat.zero_le _, Nat.zero_le _⟩ (fun H locs hw => ?_)
    have hb10 : z_pg σ 2 < 65536 := z_pg_lt hO _
    refine pp_stackPointer (v := z_pg σ 2) K hw d_P_returnOrCopyHl_49 (fun H locs hw => ?_)
    have hO11 : z_Ok (z_s_sp σ (z_pg σ 2)) := z_ok_sp hO (by omega)
    refine nv_iconst (v := 5) K d_P_returnOrCopyHl_52 (by decide) ?_
    exact pri K hr hlk hw (by rw [h1]; rfl) (by rw [h1]; rfl) d_P_returnOrCopyHl_53
set_option maxHeartbeats 4000000 in
set_option maxRecDepth 100000 in
theorem c_popPair {σ : z_St} {b : Nat} (l : Launch) (D : va_G) (cI : ClassId) (a : pAd) (hO : z_Ok σ) (hb : b < 256) : pCi l y_P_popPair w_P_popPair 2 43 D cI a [.ref a.1, .int (nI b)] σ (z_pp σ (b / 16 % 4)) (nI 10) := by
  refine pci_of (cc := b_P_popPair) (maxL := 4) (ret := (some .int)) (by decide) rfl (Nat.le_of_ble_eq_true rfl) ?_
  intro p e s m below meth c ls K hr hlk hl hw
  have K : CallFix p m c b_P_popPair 4 s _ (_ :: T0) "PortProcessor" := K
  have hl : lv_has ls 4 [(0, .ref a.1), (1, .int (nI b))] := hl
  refine lv_aload_n K.1 K.2.1 d_P_popPair_0 rfl (lv_at hl 0 rfl) ?_
  refine pki K (c_pop (σ := σ) l D cI a hO) (cw_P_244 K (Nat.le_of_ble_eq_true rfl) (Nat.le_of_ble_eq_true rfl)) hw (va_recv (ci := 0) (q0 := 0) hw.2.2.2.1 hw.1 rfl rfl) rfl hl.1 rfl (Nat.le_of_ble_eq_true rfl) d_P_popPair_1 ⟨Nat.zero_le _, Nat.zero_le _⟩ (fun H locs hw => ?_)
  have hO1 : z_Ok (z_po σ) := z_ok_po hO
  have hb2 : z_pv σ < 65536 := z_pv_lt hO
  refine lv_istore_n (lv' := [(2, .int (nI (z_pv σ))), (0, .ref a.1), (1, .int (nI b))]) K.1 K.2.1 d_P_popPair_4 rfl hl (by decide) rfl (fun ls hl => ?_)
  refine lv_iload_n K.1 K.2.1 d_P_popPair_5 rfl (lv_at hl 2 rfl) ?_
  refine psi K (c_pairOf (σ := z_po σ) (b := b) l D cI a hO1 (by omega)) (cw_P_190 K (Nat.le_of_ble_eq_true rfl) (Nat.le_of_ble_eq_true rfl)) hw rfl hl.1 rfl (Nat.le_of_ble_eq_true rfl) d_P_popPair_6 ⟨Nat.zero_le _, Nat.zero_le _⟩ (fun H locs hw => ?_)
  refine lv_istore_n (lv' := [(3, .int (nI (b / 16 % 4))), (2, .int (nI (z_pv σ))), (0, .ref a.1), (1, .int (nI b))]) K.1 K.2.1 d_P_popPair_9 rfl hl (by decide) rfl (fun ls hl => ?_)
  refine lv_iload_n K.1 K.2.1 d_P_popPair_10 rfl (lv_at hl 0 rfl) ?_
  refine nv_iconst (v := 3) K d_P_popPair_11 (by decide) ?_
  refine nv_icmp_ne K (by omega) (by omega) d_P_popPair_12 rfl (fun h3 => ?_) (fun h3 => ?_)
  · refine lv_aload_n K.1 K.2.1 d_P_popPair_41 rfl (lv_at hl 2 rfl) ?_
    refine lv_iload_n K.1 K.2.1 d_P_popPair_42 rfl (lv_at hl 0 rfl) ?_
    refine lv_iload_n K.1 K.2.1 d_P_popPair_43 rfl (lv_at hl 1 rfl) ?_
    refine pkv K (c_writePair (σ := z_po σ) (k := b / 16 % 4) (v := z_pv σ) l D cI a hO1 (by omega) (by omega)) (cw_P_196 K (Nat.le_of_ble_eq_true rfl) (Nat.le_of_ble_eq_true rfl)) hw (va_recv (ci := 0) (q0 := 0) hw.2.2.2.1 hw.1 rfl rfl) rfl hl.1 rfl (Nat.le_of_ble_eq_true rfl) d_P_popPair_44 ⟨Nat.zero_le _, Nat.zero_le _⟩ (fun H locs hw => ?_)
    have hO4 : z_Ok (z_ps (z_po σ) (b / 16 % 4) (z_pv σ)) := z_ok_ps hO1 _ (by omega)
    refine nv_bipush (v := 10) K d_P_popPair_47 (by decide) ?_
    exact pri K hr hlk hw (by unfold z_pp; first | (rw [if_pos (by omega)]; rfl) | (rw [if_neg (by omega)]; done)) (by first | rfl | (simp [h3]; done) | (congr 1; omega) | (simp [h3]; omega)) d_P_popPair_49
  · refine lv_aload_n K.1 K.2.1 d_P_popPair_15 rfl (lv_at hl 2 rfl) ?_
    refine pg_registers K hw d_P_popPair_16 ?_
    refine nv_bipush (v := 7) K d_P_popPair_19 (by decide) ?_
    refine lv_iload_n K.1 K.2.1 d_P_popPair_21 rfl (lv_at hl 1 rfl) ?_
    refine nv_bipush (v := 8) K d_P_popPair_22 (by decide) ?_
    refine nv_ishr (M := 256) K (by omega) rfl (by omega) d_P_popPair_24 ?_
    refine ps_reg (i := 7) (v := (z_pv σ) / 256) K hw (by omega) d_P_popPair_25 (fun H locs hw => ?_)
    have hO5 : z_Ok (z_s_reg (z_po σ) (z_fs (z_x_reg σ) 7 ((z_pv σ) / 256))) := z_ok_reg hO1 (z_fs_lt (z_k_reg hO) (by omega))
    refine lv_aload_n K.1 K.2.1 d_P_popPair_26 rfl (lv_at hl 2 rfl) ?_
    refine pg_flags K hw d_P_popPair_27 ?_
    refine lv_iload_n K.1 K.2.1 d_P_popPair_30 rfl (lv_at hl 1 rfl) ?_
    refine nv_sipush (v := 255) K d_P_popPair_31 (by decide) ?_
    refine nv_mask (M := 256) K 8 rfl rfl d_P_popPair_34 ?_
    refine pkv K (c_takeByte (σ := z_s_reg (z_po σ) (z_fs (z_x_reg σ) 7 ((z_pv σ) / 256))) (v := (z_pv σ) % 256) l D cI a hO5 (by omega)) (cw_P_98 K (Nat.le_of_ble_eq_true rfl) (Nat.le_of_ble_eq_true rfl)) hw (va_recv (ci := 2) (q0 := 2) hw.2.2.2.1 hw.1 rfl rfl) rfl hl.1 rfl (Nat.le_of_ble_eq_true rfl) d_P_popPair_35 ⟨Nat.zero_le _, Nat.zero_le _⟩ (fun H locs hw => ?_)
    have hO6 : z_Ok (z_ff (z_s_reg (z_po σ) (z_fs (z_x_reg σ) 7 ((z_pv σ) / 256))) ((z_pv σ) % 256)) := z_ok_ff hO5 _
    refine lv_goto K.1 K.2.1 d_P_popPair_38 rfl ?_
    refine nv_bipush (v := 10) K d_P_popPair_47 (by decide) ?_
    exact pri K hr hlk hw (by unfold z_pp; first | (rw [if_pos (by omega)]; rfl) | (rw [if_neg (by omega)]; done)) (by first | rfl | (simp [h3]; done) | (congr 1; omega) | (simp [h3]; omega)) d_P_popPair_49
set_option maxHeartbeats 4000000 in
set_option maxRecDepth 100000 in
theorem c_pushPair {σ : z_St} {b : Nat} (l : Launch) (D : va_G) (cI : ClassId) (a : pAd) (hO : z_Ok σ) (hb : b < 256) : pCi l y_P_pushPair w_P_pushPair 2 43 D cI a [.ref a.1, .int (nI b)] σ (z_pu σ (z_pq σ (b / 16 % 4))) (nI 11) := by
  refine pci_of (cc := b_P_pushPair) (maxL := 3) (ret := (some .int)) (by decide) rfl (Nat.le_of_ble_eq_true rfl) ?_
  intro p e s m below meth c ls K hr hlk hl hw
  have K : CallFix p m c b_P_pushPair 3 s _ (_ :: T0) "PortProcessor" := K
  have hl : lv_has ls 3 [(0, .ref a.1), (1, .int (nI b))] := hl
  refine lv_iload_n K.1 K.2.1 d_P_pushPair_0 rfl (lv_at hl 1 rfl) ?_
  refine psi K (c_pairOf (σ := σ) (b := b) l D cI a hO (by omega)) (cw_P_190 K (Nat.le_of_ble_eq_true rfl) (Nat.le_of_ble_eq_true rfl)) hw rfl hl.1 rfl (Nat.le_of_ble_eq_true rfl) d_P_pushPair_1 ⟨Nat.zero_le _, Nat.zero_le _⟩ (fun H locs hw => ?_)
  refine lv_istore_n (lv' := [(2, .int (nI (b / 16 % 4))), (0, .ref a.1), (1, .int (nI b))]) K.1 K.2.1 d_P_pushPair_4 rfl hl (by decide) rfl (fun ls hl => ?_)
  refine lv_aload_n K.1 K.2.1 d_P_pushPair_5 rfl (lv_at hl 1 rfl) ?_
  refine lv_iload_n K.1 K.2.1 d_P_pushPair_6 rfl (lv_at hl 0 rfl) ?_
  refine nv_iconst (v := 3) K d_P_pushPair_7 (by decide) ?_
  refine nv_icmp_ne K (by omega) (by omega) d_P_pushPair_8 rfl (fun h1 => ?_) (fun h1 => ?_)
  · refine lv_aload_n K.1 K.2.1 d_P_pushPair_32 rfl (lv_at hl 1 rfl) ?_
    refine lv_iload_n K.1 K.2.1 d_P_pushPair_33 rfl (lv_at hl 0 rfl) ?_
    refine pki K (c_readPair (σ := σ) (k := b / 16 % 4) l D cI a hO (by omega)) (cw_P_199 K (Nat.le_of_ble_eq_true rfl) (Nat.le_of_ble_eq_true rfl)) hw (va_recv (ci := 0) (q0 := 0) hw.2.2.2.1 hw.1 rfl rfl) rfl hl.1 rfl (Nat.le_of_ble_eq_true rfl) d_P_pushPair_34 ⟨Nat.zero_le _, Nat.zero_le _⟩ (fun H locs hw => ?_)
    have hb2 : z_pg σ (b / 16 % 4) < 65536 := z_pg_lt hO _
    refine pkv K (c_push (σ := σ) (v := z_pg σ (b / 16 % 4)) l D cI a hO (by omega)) (cw_P_247 K (Nat.le_of_ble_eq_true rfl) (Nat.le_of_ble_eq_true rfl)) hw (va_recv (ci := 0) (q0 := 0) hw.2.2.2.1 hw.1 rfl rfl) rfl hl.1 rfl (Nat.le_of_ble_eq_true rfl) d_P_pushPair_37 ⟨Nat.zero_le _, Nat.zero_le _⟩ (fun H locs hw => ?_)
    have hO3 : z_Ok (z_pu σ (z_pg σ (b / 16 % 4))) := z_ok_pu hO (by omega)
    refine nv_bipush (v := 11) K d_P_pushPair_40 (by decide) ?_
    exact pri K hr hlk hw (by unfold z_pq; first | (rw [if_pos (by omega)]; done) | (rw [if_neg (by omega)]; done)) (by first | rfl | (simp [h1]; done) | (congr 1; omega) | (simp [h1]; omega)) d_P_pushPair_42
  · refine lv_aload_n K.1 K.2.1 d_P_pushPair_11 rfl (lv_at hl 1 rfl) ?_
    refine pg_registers K hw d_P_pushPair_12 ?_
    refine nv_bipush (v := 7) K d_P_pushPair_15 (by decide) ?_
    refine pl_reg (i := 7) (v := z_x_reg σ 7) K hw (by omega) rfl d_P_pushPair_17 ?_
    have hb4 : z_x_reg σ 7 < 256 := z_k_reg hO _
    refine nv_bipush (v := 8) K d_P_pushPair_18 (by decide) ?_
    refine nv_ishl (M := 256) K (by omega) rfl (by omega) d_P_pushPair_20 ?_
    refine lv_aload_n K.1 K.2.1 d_P_pushPair_21 rfl (lv_at hl 1 rfl) ?_
    refine pg_flags K hw d_P_pushPair_22 ?_
    refine pki K (c_asByte (σ := σ) l D cI a hO) (cw_P_84 K (Nat.le_of_ble_eq_true rfl) (Nat.le_of_ble_eq_true rfl)) hw (va_recv (ci := 2) (q0 := 2) hw.2.2.2.1 hw.1 rfl rfl) rfl hl.1 rfl (Nat.le_of_ble_eq_true rfl) d_P_pushPair_25 ⟨Nat.zero_le _, Nat.zero_le _⟩ (fun H locs hw => ?_)
    have hb5 : z_fb σ < 256 := z_fb_lt hO
    refine nv_or256 K (by omega) d_P_pushPair_28 ?_
    refine lv_goto K.1 K.2.1 d_P_pushPair_29 rfl ?_
    refine pkv K (c_push (σ := σ) (v := (z_x_reg σ 7) * 256 + (z_fb σ)) l D cI a hO (by omega)) (cw_P_247 K (Nat.le_of_ble_eq_true rfl) (Nat.le_of_ble_eq_true rfl)) hw (va_recv (ci := 0) (q0 := 0) hw.2.2.2.1 hw.1 rfl rfl) rfl hl.1 rfl (Nat.le_of_ble_eq_true rfl) d_P_pushPair_37 ⟨Nat.zero_le _, Nat.zero_le _⟩ (fun H locs hw => ?_)
    have hO6 : z_Ok (z_pu σ ((z_x_reg σ 7) * 256 + (z_fb σ))) := z_ok_pu hO (by omega)
    refine nv_bipush (v := 11) K d_P_pushPair_40 (by decide) ?_
    exact pri K hr hlk hw (by unfold z_pq; first | (rw [if_pos (by omega)]; done) | (rw [if_neg (by omega)]; done)) (by first | rfl | (simp [h1]; done) | (congr 1; omega) | (simp [h1]; omega)) d_P_pushPair_42

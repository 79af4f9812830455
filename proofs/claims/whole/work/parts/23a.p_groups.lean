set_option maxHeartbeats 4000000 in
set_option maxRecDepth 100000 in
theorem c_jumpOnCondition {σ : z_St} {b : Nat} (l : Launch) (D : va_G) (cI : ClassId) (a : pAd) (hO : z_Ok σ) (hb : b < 256) : pCi l y_P_jumpOnCondition w_P_jumpOnCondition 3 63 D cI a [.ref a.1, .int (nI b)] σ (if z_hold σ (b / 8 % 8) = 1 then z_s_pc (z_nn σ) (z_nw σ) else z_nn σ) (nI 10) := by
  refine pci_of (cc := b_P_jumpOnCondition) (maxL := 3) (ret := (some .int)) (by decide) rfl (Nat.le_of_ble_eq_true rfl) ?_
  intro p e s m below meth c ls K hr hlk hl hw
  have K : CallFix p m c b_P_jumpOnCondition 3 s _ (_ :: T0) "PortProcessor" := K
  have hl : lv_has ls 3 [(0, .ref a.1), (1, .int (nI b))] := hl
  refine lv_aload_n K.1 K.2.1 d_P_jumpOnCondition_0 rfl (lv_at hl 0 rfl) ?_
  refine pki K (c_nextTwoBytes (σ := σ) l D cI a hO) (cw_P_193 K (Nat.le_of_ble_eq_true rfl) (Nat.le_of_ble_eq_true rfl)) hw (va_recv (ci := 0) (q0 := 0) hw.2.2.2.1 hw.1 rfl rfl) rfl hl.1 rfl (Nat.le_of_ble_eq_true rfl) d_P_jumpOnCondition_1 ⟨Nat.zero_le _, Nat.zero_le _⟩ (fun H locs hw => ?_)
  have hO1 : z_Ok (z_nn σ) := z_ok_nn hO
  have hb2 : z_nw σ < 65536 := z_nw_lt hO
  refine lv_istore_n (lv' := [(2, .int (nI (z_nw σ))), (0, .ref a.1), (1, .int (nI b))]) K.1 K.2.1 d_P_jumpOnCondition_4 rfl hl (by decide) rfl (fun ls hl => ?_)
  refine lv_aload_n K.1 K.2.1 d_P_jumpOnCondition_5 rfl (lv_at hl 1 rfl) ?_
  refine pg_flags K hw d_P_jumpOnCondition_6 ?_
  refine lv_iload_n K.1 K.2.1 d_P_jumpOnCondition_9 rfl (lv_at hl 2 rfl) ?_
  refine psi K (c_targetOf (σ := z_nn σ) (b := b) l D cI a hO1 (by omega)) (cw_P_212 K (Nat.le_of_ble_eq_true rfl) (Nat.le_of_ble_eq_true rfl)) hw rfl hl.1 rfl (Nat.le_of_ble_eq_true rfl) d_P_jumpOnCondition_10 ⟨Nat.zero_le _, Nat.zero_le _⟩ (fun H locs hw => ?_)
  refine pki K (c_meet (σ := z_nn σ) (k := b / 8 % 8) l D cI a hO1 (by omega)) (cw_P_241 K (Nat.le_of_ble_eq_true rfl) (Nat.le_of_ble_eq_true rfl)) hw (va_recv (ci := 2) (q0 := 2) hw.2.2.2.1 hw.1 rfl rfl) rfl hl.1 rfl (Nat.le_of_ble_eq_true rfl) d_P_jumpOnCondition_13 ⟨Nat.zero_le _, Nat.zero_le _⟩ (fun H locs hw => ?_)
  refine nv_as K (y := nI (z_hold σ (b / 8 % 8))) rfl ?_
  have hb3 : z_hold σ (b / 8 % 8) < 2 := z_hold_lt _ _
  refine nv_if_eq K (by omega) d_P_jumpOnCondition_16 rfl (fun h4 => ?_) (fun h4 => ?_)
  · refine nv_bipush (v := 10) K d_P_jumpOnCondition_24 (by decide) ?_
    exact pri K hr hlk hw (by first | (rw [if_pos (by omega)]; done) | (rw [if_neg (by omega)]; done)) (by first | rfl | (simp [h4]; done) | (congr 1; omega) | (simp [h4]; omega)) d_P_jumpOnCondition_26
  · refine lv_aload_n K.1 K.2.1 d_P_jumpOnCondition_19 rfl (lv_at hl 1 rfl) ?_
    refine lv_iload_n K.1 K.2.1 d_P_jumpOnCondition_20 rfl (lv_at hl 0 rfl) ?_
    refine pp_programCounter (v := z_nw σ) K hw d_P_jumpOnCondition_21 (fun H locs hw => ?_)
    have hO5 : z_Ok (z_s_pc (z_nn σ) (z_nw σ)) := z_ok_pc hO1 (by omega)
    refine nv_bipush (v := 10) K d_P_jumpOnCondition_24 (by decide) ?_
    exact pri K hr hlk hw (by first | (rw [if_pos (by omega)]; done) | (rw [if_neg (by omega)]; done)) (by first | rfl | (simp [h4]; done) | (congr 1; omega) | (simp [h4]; omega)) d_P_jumpOnCondition_26
set_option maxHeartbeats 4000000 in
set_option maxRecDepth 100000 in
theorem c_callOnCondition {σ : z_St} {b : Nat} (l : Launch) (D : va_G) (cI : ClassId) (a : pAd) (hO : z_Ok σ) (hb : b < 256) : pCi l y_P_callOnCondition w_P_callOnCondition 3 64 D cI a [.ref a.1, .int (nI b)] σ (if z_hold σ (b / 8 % 8) = 1 then z_ct (z_nn σ) (z_nw σ) else z_nn σ) (nI (if z_hold σ (b / 8 % 8) = 1 then 17 else 11)) := by
  refine pci_of (cc := b_P_callOnCondition) (maxL := 3) (ret := (some .int)) (by decide) rfl (Nat.le_of_ble_eq_true rfl) ?_
  intro p e s m below meth c ls K hr hlk hl hw
  have K : CallFix p m c b_P_callOnCondition 3 s _ (_ :: T0) "PortProcessor" := K
  have hl : lv_has ls 3 [(0, .ref a.1), (1, .int (nI b))] := hl
  refine lv_aload_n K.1 K.2.1 d_P_callOnCondition_0 rfl (lv_at hl 0 rfl) ?_
  refine pki K (c_nextTwoBytes (σ := σ) l D cI a hO) (cw_P_193 K (Nat.le_of_ble_eq_true rfl) (Nat.le_of_ble_eq_true rfl)) hw (va_recv (ci := 0) (q0 := 0) hw.2.2.2.1 hw.1 rfl rfl) rfl hl.1 rfl (Nat.le_of_ble_eq_true rfl) d_P_callOnCondition_1 ⟨Nat.zero_le _, Nat.zero_le _⟩ (fun H locs hw => ?_)
  have hO1 : z_Ok (z_nn σ) := z_ok_nn hO
  have hb2 : z_nw σ < 65536 := z_nw_lt hO
  refine lv_istore_n (lv' := [(2, .int (nI (z_nw σ))), (0, .ref a.1), (1, .int (nI b))]) K.1 K.2.1 d_P_callOnCondition_4 rfl hl (by decide) rfl (fun ls hl => ?_)
  refine lv_aload_n K.1 K.2.1 d_P_callOnCondition_5 rfl (lv_at hl 1 rfl) ?_
  refine pg_flags K hw d_P_callOnCondition_6 ?_
  refine lv_iload_n K.1 K.2.1 d_P_callOnCondition_9 rfl (lv_at hl 2 rfl) ?_
  refine psi K (c_targetOf (σ := z_nn σ) (b := b) l D cI a hO1 (by omega)) (cw_P_212 K (Nat.le_of_ble_eq_true rfl) (Nat.le_of_ble_eq_true rfl)) hw rfl hl.1 rfl (Nat.le_of_ble_eq_true rfl) d_P_callOnCondition_10 ⟨Nat.zero_le _, Nat.zero_le _⟩ (fun H locs hw => ?_)
  refine pki K (c_meet (σ := z_nn σ) (k := b / 8 % 8) l D cI a hO1 (by omega)) (cw_P_241 K (Nat.le_of_ble_eq_true rfl) (Nat.le_of_ble_eq_true rfl)) hw (va_recv (ci := 2) (q0 := 2) hw.2.2.2.1 hw.1 rfl rfl) rfl hl.1 rfl (Nat.le_of_ble_eq_true rfl) d_P_callOnCondition_13 ⟨Nat.zero_le _, Nat.zero_le _⟩ (fun H locs hw => ?_)
  refine nv_as K (y := nI (z_hold σ (b / 8 % 8))) rfl ?_
  have hb3 : z_hold σ (b / 8 % 8) < 2 := z_hold_lt _ _
  refine nv_if_ne K (by omega) d_P_callOnCondition_16 rfl (fun h4 => ?_) (fun h4 => ?_)
  · refine lv_aload_n K.1 K.2.1 d_P_callOnCondition_22 rfl (lv_at hl 1 rfl) ?_
    refine lv_iload_n K.1 K.2.1 d_P_callOnCondition_23 rfl (lv_at hl 0 rfl) ?_
    refine pkv K (c_callTo (σ := z_nn σ) (x := z_nw σ) l D cI a hO1 (by omega)) (cw_P_136 K (Nat.le_of_ble_eq_true rfl) (Nat.le_of_ble_eq_true rfl)) hw (va_recv (ci := 0) (q0 := 0) hw.2.2.2.1 hw.1 rfl rfl) rfl hl.1 rfl (Nat.le_of_ble_eq_true rfl) d_P_callOnCondition_24 ⟨Nat.zero_le _, Nat.zero_le _⟩ (fun H locs hw => ?_)
    have hO5 : z_Ok (z_ct (z_nn σ) (z_nw σ)) := z_ok_ct hO1 (by omega)
    refine nv_bipush (v := 17) K d_P_callOnCondition_27 (by decide) ?_
    exact pri K hr hlk hw (by first | (rw [if_pos (by omega)]; done) | (rw [if_neg (by omega)]; done)) (by first | (rw [if_pos (by omega)]; done) | (rw [if_neg (by omega)]; done)) d_P_callOnCondition_29
  · refine nv_bipush (v := 11) K d_P_callOnCondition_19 (by decide) ?_
    exact pri K hr hlk hw (by first | (rw [if_pos (by omega)]; done) | (rw [if_neg (by omega)]; done)) (by first | (rw [if_pos (by omega)]; done) | (rw [if_neg (by omega)]; done)) d_P_callOnCondition_21
set_option maxHeartbeats 4000000 in
set_option maxRecDepth 100000 in
theorem c_callAlways {σ : z_St} (l : Launch) (D : va_G) (cI : ClassId) (a : pAd) (hO : z_Ok σ) : pCi l y_P_callAlways w_P_callAlways 3 64 D cI a [.ref a.1] σ (z_ct (z_nn σ) (z_nw σ)) (nI 17) := by
  refine pci_of (cc := b_P_callAlways) (maxL := 1) (ret := (some .int)) (by decide) rfl (Nat.le_of_ble_eq_true rfl) ?_
  intro p e s m below meth c ls K hr hlk hl hw
  have K : CallFix p m c b_P_callAlways 1 s _ (_ :: T0) "PortProcessor" := K
  have hl : lv_has ls 1 [(0, .ref a.1)] := hl
  refine lv_aload_n K.1 K.2.1 d_P_callAlways_0 rfl (lv_at hl 0 rfl) ?_
  refine lv_aload_n K.1 K.2.1 d_P_callAlways_1 rfl (lv_at hl 0 rfl) ?_
  refine pki K (c_nextTwoBytes (σ := σ) l D cI a hO) (cw_P_193 K (Nat.le_of_ble_eq_true rfl) (Nat.le_of_ble_eq_true rfl)) hw (va_recv (ci := 0) (q0 := 0) hw.2.2.2.1 hw.1 rfl rfl) rfl hl.1 rfl (Nat.le_of_ble_eq_true rfl) d_P_callAlways_2 ⟨Nat.zero_le _, Nat.zero_le _⟩ (fun H locs hw => ?_)
  have hO1 : z_Ok (z_nn σ) := z_ok_nn hO
  have hb2 : z_nw σ < 65536 := z_nw_lt hO
  refine pkv K (c_callTo (σ := z_nn σ) (x := z_nw σ) l D cI a hO1 (by omega)) (cw_P_136 K (Nat.le_of_ble_eq_true rfl) (Nat.le_of_ble_eq_true rfl)) hw (va_recv (ci := 0) (q0 := 0) hw.2.2.2.1 hw.1 rfl rfl) rfl hl.1 rfl (Nat.le_of_ble_eq_true rfl) d_P_callAlways_5 ⟨Nat.zero_le _, Nat.zero_le _⟩ (fun H locs hw => ?_)
  have hO3 : z_Ok (z_ct (z_nn σ) (z_nw σ)) := z_ok_ct hO1 (by omega)
  refine nv_bipush (v := 17) K d_P_callAlways_8 (by decide) ?_
  exact pri K hr hlk hw (by first | rfl | (simp; done) | (skip; rfl)) (by first | rfl | (simp; done) | (congr 1; omega) | (simp; omega)) d_P_callAlways_10
set_option maxHeartbeats 4000000 in
set_option maxRecDepth 100000 in
theorem c_returnOnCondition {σ : z_St} {b : Nat} (l : Launch) (D : va_G) (cI : ClassId) (a : pAd) (hO : z_Ok σ) (hb : b < 256) : pCi l y_P_returnOnCondition w_P_returnOnCondition 2 43 D cI a [.ref a.1, .int (nI b)] σ (if z_hold σ (b / 8 % 8) = 1 then z_rt σ else σ) (nI (if z_hold σ (b / 8 % 8) = 1 then 11 else 5)) := by
  refine pci_of (cc := b_P_returnOnCondition) (maxL := 2) (ret := (some .int)) (by decide) rfl (Nat.le_of_ble_eq_true rfl) ?_
  intro p e s m below meth c ls K hr hlk hl hw
  have K : CallFix p m c b_P_returnOnCondition 2 s _ (_ :: T0) "PortProcessor" := K
  have hl : lv_has ls 2 [(0, .ref a.1), (1, .int (nI b))] := hl
  refine lv_aload_n K.1 K.2.1 d_P_returnOnCondition_0 rfl (lv_at hl 0 rfl) ?_
  refine pg_flags K hw d_P_returnOnCondition_1 ?_
  refine lv_iload_n K.1 K.2.1 d_P_returnOnCondition_4 rfl (lv_at hl 1 rfl) ?_
  refine psi K (c_targetOf (σ := σ) (b := b) l D cI a hO (by omega)) (cw_P_212 K (Nat.le_of_ble_eq_true rfl) (Nat.le_of_ble_eq_true rfl)) hw rfl hl.1 rfl (Nat.le_of_ble_eq_true rfl) d_P_returnOnCondition_5 ⟨Nat.zero_le _, Nat.zero_le _⟩ (fun H locs hw => ?_)
  refine pki K (c_meet (σ := σ) (k := b / 8 % 8) l D cI a hO (by omega)) (cw_P_241 K (Nat.le_of_ble_eq_true rfl) (Nat.le_of_ble_eq_true rfl)) hw (va_recv (ci := 2) (q0 := 2) hw.2.2.2.1 hw.1 rfl rfl) rfl hl.1 rfl (Nat.le_of_ble_eq_true rfl) d_P_returnOnCondition_8 ⟨Nat.zero_le _, Nat.zero_le _⟩ (fun H locs hw => ?_)
  have hb1 : z_hold σ (b / 8 % 8) < 2 := z_hold_lt _ _
  refine nv_if_ne K (by omega) d_P_returnOnCondition_11 rfl (fun h2 => ?_) (fun h2 => ?_)
  · refine lv_aload_n K.1 K.2.1 d_P_returnOnCondition_16 rfl (lv_at hl 0 rfl) ?_
    refine lv_aload_n K.1 K.2.1 d_P_returnOnCondition_17 rfl (lv_at hl 0 rfl) ?_
    refine pki K (c_pop (σ := σ) l D cI a hO) (cw_P_244 K (Nat.le_of_ble_eq_true rfl) (Nat.le_of_ble_eq_true rfl)) hw (va_recv (ci := 0) (q0 := 0) hw.2.2.2.1 hw.1 rfl rfl) rfl hl.1 rfl (Nat.le_of_ble_eq_true rfl) d_P_returnOnCondition_18 ⟨Nat.zero_le _, Nat.zero_le _⟩ (fun H locs hw => ?_)
    have hO3 : z_Ok (z_po σ) := z_ok_po hO
    have hb4 : z_pv σ < 65536 := z_pv_lt hO
    refine pp_programCounter (v := z_pv σ) K hw d_P_returnOnCondition_21 (fun H locs hw => ?_)
    have hO5 : z_Ok (z_s_pc (z_po σ) (z_pv σ)) := z_ok_pc hO3 (by omega)
    refine nv_bipush (v := 11) K d_P_returnOnCondition_24 (by decide) ?_
    exact pri K hr hlk hw (by first | (rw [if_pos (by omega)]; rfl) | (rw [if_neg (by omega)]; done)) (by first | (rw [if_pos (by omega)]; done) | (rw [if_neg (by omega)]; done)) d_P_returnOnCondition_26
  · refine nv_iconst (v := 5) K d_P_returnOnCondition_14 (by decide) ?_
    exact pri K hr hlk hw (by first | (rw [if_pos (by omega)]; rfl) | (rw [if_neg (by omega)]; done)) (by first | (rw [if_pos (by omega)]; done) | (rw [if_neg (by omega)]; done)) d_P_returnOnCondition_15

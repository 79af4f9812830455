set_option maxHeartbeats 4000000 in
set_option maxRecDepth 100000 in
theorem c_jumpOnCondition {σ : z_St} {b : Nat} (l : Launch) (D : va_G) (cI : ClassId) (a : pAd) (hO : z_Ok σ) (hb : b < 256) : pCi l y_P_jumpOnCondition w_P_jumpOnCondition 3 63 D cI a [.ref a.1, .int (nI b)] σ (if z_hold σ (b / 8 % 8) = 1 then z_s_pc (z_nn σ) (z_nw σ) else z_nn σ) (nI 10) := by
  refine pci_of (cc := b_P_jumpOnCondition) (maxL := 3) (ret := (some .int)) (by decide) rfl (Nat.le_of_ble_eq_true rfl) ?_
  intro p e s m below meth c ls K hr hlk hl hw
  have K : CallFix p m c b_P_jumpOnCondition 3 s _ (_ :: T0) "PortProcessor" := K
  have hl : lv_has ls 3 [(0, .ref a.1), (1, .int (nI b))] := hl
  refine lv_aload_n K.1 K.2.1 d_P_jumpOnCondition_0 rfl (lv_at hl 0 rfl) ?_
  refine pki K (c_nextTwoBytes (σ := σ) l D cI a hO) (cw_P_193 K (Nat.le_of_ble_eq_true rfl) (Nat.le_of_ble_eq_true rfl)) hw (va_recv (ci := 0) (q0 := 0) hw.2.2.2.1 hw.1 rfl rfl) rfl hl.1 rfl (Nat.le_of_ble_eq_true rfl) d_P_jumpOnCondition_1 ⟨Nat.zero_le _, Nat.zero_le _⟩ (fun H locs hw => ?_)
  have hO1 : z_Ok (z_nn σ) := z_ok_nn hO
  have hb2 : z_nw σ < 65536 := z_nw_lt hO
  refine lv_istore_n (lv' := [(2, .int (nI (z_nw σ))), (0, .ref a.1), (1, .int (nI b))]) K.1 K.2.1 d_P_jumpOnCondition_4 rfl hl (by decide) rfl (fun ls hl => ?_)
  refine lv_aload_n K.1 K.2.1 d_P_jumpOnCondition_5 rfl (lv_at hl 1 rfl) ?_
  refine pg_flags K hw d_P_jumpOnCondition_6 ?_
  refine lv_iload_n K.1 K.2.1 d_P_jumpOnCondition_9 rfl (lv_at hl 2 rfl) ?_
  refine psi K (c_targetOf (σ := z_nn σ) (b := b) l D cI a hO1 (by omega)) (cw_P_212 K (Nat.le_of_ble_eq_true rfl) (Nat.le_of_ble_eq_true rfl)) hw rfl hl.1 rfl (Nat.le_of_ble_eq_true rfl) d_P_jumpOnCondition_10 ⟨Nat.zero_le _, Nat.zero_le _⟩ (fun H locs hw => ?_)
  refine pki K (c_meet (σ := z_nn σ) (k := b / 8 % 8) l D cI a hO1 (by omega)) (cw_P_241 K (Nat.le_of_ble_eq_true rfl) (Nat.le_of_ble_eq_true rfl)) hw (va_recv (ci := 2) (q0 := 2) hw.2.2.2.1 hw.1 rfl rfl) rfl hl.1 rfl (Nat.le_of_ble_eq_true rfl) d_P_jumpOnCondition_13 ⟨Nat.zero_le _, Nat.zero_le _⟩ (fun H locs hw => ?_)
  refine nv_as K (y := nI (z_hold σ (b / 8 % 8))) rfl ?_
  have hb3 : z_hold σ (b / 8 % 8) < 2 := z_hold_lt _ _
  refine nv_if_eq K (by omega) d_P_jumpOnCondition_16 rfl (fun h4 => ?_) (fun h4 => ?_)
  · refine nv_bipush (v := 10) K d_P_jumpOnCondition_24 (by decide) ?_
    exact pri K hr hlk hw (by first | rfl | (simp [h4]; done) | (simp only [h4]; rfl)) (by first | rfl | (simp [h4]; done) | (congr 1; omega) | (simp [h4]; omega)) d_P_jumpOnCondition_26
  · refine lv_aload_n K.1 K.2.1 d_P_jumpOnCondition_19 rfl (lv_at hl 1 rfl) ?_
    refine lv_iload_n K.1 K.2.1 d_P_jumpOnCondition_20 rfl (lv_at hl 0 rfl) ?_
    refine pp_programCounter (v := z_nw σ) K hw d_P_jumpOnCondition_21 (fun H locs hw => ?_)
    have hO5 : z_Ok (z_s_pc (z_nn σ) (z_nw σ)) := z_ok_pc hO1 (by omega)
    refine nv_bipush (v := 10) K d_P_jumpOnCondition_24 (by decide) ?_
    exact pri K hr hlk hw (by first | rfl | (simp [h4]; done) | (simp only [h4]; rfl)) (by first | rfl | (simp [h4]; done) | (congr 1; omega) | (simp [h4]; omega)) d_P_jumpOnCondition_26
set_option maxHeartbeats 4000000 in
set_option maxRecDepth 100000 in
theorem c_callOnCondition {σ : z_St} {b : Nat} (l : Launch) (D : va_G) (cI : ClassId) (a : pAd) (hO : z_Ok σ) (hb : b < 256) : pCi l y_P_callOnCondition w_P_callOnCondition 3 64 D cI a [.ref a.1, .int (nI b)] σ (if z_hold σ (b / 8 % 8) = 1 then z_ct (z_nn σ) (z_nw σ) else z_nn σ) (nI (if z_hold σ (b / 8 % 8) = 1 then 17 else 11)) := by
  refine pci_of (cc := b_P_callOnCondition) (maxL := 3) (ret := (some .int)) (by decide) rfl (Nat.le_of_ble_eq_true rfl) ?_
  intro p e s m below meth c ls K hr hlk hl hw
  have K : CallFix p m c b_P_callOnCondition 3 s _ (_ :: T0) "PortProcessor" := K
  have hl : lv_has ls 3 [(0, .ref a.1), (1, .int (nI b))] := hl
  refine lv_aload_n K.1 K.2.1 d_P_callOnCondition_0 rfl (lv_at hl 0 rfl) ?_
  refine pki K (c_nextTwoBytes (σ := σ) l D cI a hO) (cw_P_193 K (Nat.le_of_ble_eq_true rfl) (Nat.le_of_ble_eq_true rfl)) hw (va_recv (ci := 0) (q0 := 0) hw.2.2.2.1 hw.1 rfl rfl) rfl hl.1 rfl (Nat.le_of_ble_eq_true rfl) d_P_callOnCondition_1 ⟨Nat.zero_le _, Nat.zero_le _⟩ (fun H locs hw => ?_)
  have hO1 : z_Ok (z_nn σ) := z_ok_nn hO
  have hb2 : z_nw σ < 65536 := z_nw_lt hO
  refine lv_istore_n (lv' := [(2, .int (nI (z_nw σ))), (0, .ref a.1), (1, .int (nI b))]) K.1 K.2.1 d_P_callOnCondition_4 rfl hl (by decide) rfl (fun ls hl => ?_)
  refine lv_aload_n K.1 K.2.1 d_P_callOnCondition_5 rfl (lv_at hl 1 rfl) ?_
  refine pg_flags K hw d_P_callOnCondition_6 ?_
  refine lv_iload_n K.1 K.2.1 d_P_callOnCondition_9 rfl (lv_at hl 2 rfl) ?_
  refine psi K (c_targetOf (σ := z_nn σ) (b := b) l D cI a hO1 (by omega)) (cw_P_212 K (Nat.le_of_ble_eq_true rfl) (Nat.le_of_ble_eq_true rfl)) hw rfl hl.1 rfl (Nat.le_of_ble_eq_true rfl) d_P_callOnCondition_10 ⟨Nat.zero_le _, Nat.zero_le _⟩ (fun H locs hw => ?_)
  refine pki K (c_meet (σ := z_nn σ) (k := b / 8 % 8) l D cI a hO1 (by omega)) (cw_P_241 K (Nat.le_of_ble_eq_true rfl) (Nat.le_of_ble_eq_true rfl)) hw (va_recv (ci := 2) (q0 := 2) hw.2.2.2.1 hw.1 rfl rfl) rfl hl.1 rfl (Nat.le_of_ble_eq_true rfl) d_P_callOnCondition_13 ⟨Nat.zero_le _, Nat.zero_le _⟩ (fun H locs hw => ?_)
  refine nv_as K (y := nI (z_hold σ (b / 8 % 8))) rfl ?_
  have hb3 : z_hold σ (b / 8 % 8) < 2 := z_hold_lt _ _
  refine nv_if_ne K (by omega) d_P_callOnCondition_16 rfl (fun h4 => ?_) (fun h4 => ?_)
  · refine lv_aload_n K.1 K.2.1 d_P_callOnCondition_22 rfl (lv_at hl 1 rfl) ?_
    refine lv_iload_n K.1 K.2.1 d_P_callOnCondition_23 rfl (lv_at hl 0 rfl) ?_
    refine pkv K (c_callTo (σ := z_nn σ) (x := z_nw σ) l D cI a hO1 (by omega)) (cw_P_136 K (Nat.le_of_ble_eq_true rfl) (Nat.le_of_ble_eq_true rfl)) hw (va_recv (ci := 0) (q0 := 0) hw.2.2.2.1 hw.1 rfl rfl) rfl hl.1 rfl (Nat.le_of_ble_eq_true rfl) d_P_callOnCondition_24 ⟨Nat.zero_le _, Nat.zero_le _⟩ (fun H locs hw => ?_)
    have hO5 : z_Ok (z_ct (z_nn σ) (z_nw σ)) := z_ok_ct hO1 (by omega)
    refine nv_bipush (v := 17) K d_P_callOnCondition_27 (by decide) ?_
    exact pri K hr hlk hw (by first | rfl | (simp [h4]; done) | (simp only [h4]; rfl)) (by first | rfl | (simp [h4]; done) | (congr 1; omega) | (simp [h4]; omega)) d_P_callOnCondition_29
  · refine nv_bipush (v := 11) K d_P_callOnCondition_19 (by decide) ?_
    exact pri K hr hlk hw (by first | rfl | (simp [h4]; done) | (simp only [h4]; rfl)) (by first | rfl | (simp [h4]; done) | (congr 1; omega) | (simp [h4]; omega)) d_P_callOnCondition_21
set_option maxHeartbeats 4000000 in
set_option maxRecDepth 100000 in
theorem c_callAlways {σ : z_St} (l : Launch) (D : va_G) (cI : ClassId) (a : pAd) (hO : z_Ok σ) : pCi l y_P_callAlways w_P_callAlways 3 64 D cI a [.ref a.1] σ (z_ct (z_nn σ) (z_nw σ)) (nI 17) := by
  refine pci_of (cc := b_P_callAlways) (maxL := 1) (ret := (some .int)) (by decide) rfl (Nat.le_of_ble_eq_true rfl) ?_
  intro p e s m below meth c ls K hr hlk hl hw
  have K : CallFix p m c b_P_callAlways 1 s _ (_ :: T0) "PortProcessor" := K
  have hl : lv_has ls 1 [(0, .ref a.1)] := hl
  refine lv_aload_n K.1 K.2.1 d_P_callAlways_0 rfl (lv_at hl 0 rfl) ?_
  refine lv_aload_n K.1 K.2.1 d_P_callAlways_1 rfl (lv_at hl 0 rfl) ?_
  refine pki K (c_nextTwoBytes (σ := σ) l D cI a hO) (cw_P_193 K (Nat.le_of_ble_eq_true rfl) (Nat.le_of_ble_eq_true rfl)) hw (va_recv (ci := 0) (q0 := 0) hw.2.2.2.1 hw.1 rfl rfl) rfl hl.1 rfl (Nat.le_of_ble_eq_true rfl) d_P_callAlways_2 ⟨Nat.zero_le _, Nat.zero_le _⟩ (fun H locs hw => ?_)
  have hO1 : z_Ok (z_nn σ) := z_ok_nn hO
  have hb2 : z_nw σ < 65536 := z_nw_lt hO
  refine pkv K (c_callTo (σ := z_nn σ) (x := z_nw σ) l D cI a hO1 (by omega)) (cw_P_136 K (Nat.le_of_ble_eq_true rfl) (Nat.le_of_ble_eq_true rfl)) hw (va_recv (ci := 0) (q0 := 0) hw.2.2.2.1 hw.1 rfl rfl) rfl hl.1 rfl (Nat.le_of_ble_eq_true rfl) d_P_callAlways_5 ⟨Nat.zero_le _, Nat.zero_le _⟩ (fun H locs hw => ?_)
  have hO3 : z_Ok (z_ct (z_nn σ) (z_nw σ)) := z_ok_ct hO1 (by omega)
  refine nv_bipush (v := 17) K d_P_callAlways_8 (by decide) ?_
  exact pri K hr hlk hw (by first | rfl | (simp; done) | (skip; rfl)) (by first | rfl | (simp; done) | (congr 1; omega) | (simp; omega)) d_P_callAlways_10
set_option maxHeartbeats 4000000 in
set_option maxRecDepth 100000 in
theorem c_returnOnCondition {σ : z_St} {b : Nat} (l : Launch) (D : va_G) (cI : ClassId) (a : pAd) (hO : z_Ok σ) (hb : b < 256) : pCi l y_P_returnOnCondition w_P_returnOnCondition 2 43 D cI a [.ref a.1, .int (nI b)] σ (if z_hold σ (b / 8 % 8) = 1 then z_rt σ else σ) (nI (if z_hold σ (b / 8 % 8) = 1 then 11 else 5)) := by
  refine pci_of (cc := b_P_returnOnCondition) (maxL := 2) (ret := (some .int)) (by decide) rfl (Nat.le_of_ble_eq_true rfl) ?_
  intro p e s m below meth c ls K hr hlk hl hw
  have K : CallFix p m c b_P_returnOnCondition 2 s _ (_ :: T0) "PortProcessor" := K
  have hl : lv_has ls 2 [(0, .ref a.1), (1, .int (nI b))] := hl
  refine lv_aload_n K.1 K.2.1 d_P_returnOnCondition_0 rfl (lv_at hl 0 rfl) ?_
  refine pg_flags K hw d_P_returnOnCondition_1 ?_
  refine lv_iload_n K.1 K.2.1 d_P_returnOnCondition_4 rfl (lv_at hl 1 rfl) ?_
  refine psi K (c_targetOf (σ := σ) (b := b) l D cI a hO (by omega)) (cw_P_212 K (Nat.le_of_ble_eq_true rfl) (Nat.le_of_ble_eq_true rfl)) hw rfl hl.1 rfl (Nat.le_of_ble_eq_true rfl) d_P_returnOnCondition_5 ⟨Nat.zero_le _, Nat.zero_le _⟩ (fun H locs hw => ?_)
  refine pki K (c_meet (σ := σ) (k := b / 8 % 8) l D cI a hO (by omega)) (cw_P_241 K (Nat.le_of_ble_eq_true rfl) (Nat.le_of_ble_eq_true rfl)) hw (va_recv (ci := 2) (q0 := 2) hw.2.2.2.1 hw.1 rfl rfl) rfl hl.1 rfl (Nat.le_of_ble_eq_true rfl) d_P_returnOnCondition_8 ⟨Nat.zero_le _, Nat.zero_le _⟩ (fun H locs hw => ?_)
  have hb1 : z_hold σ (b / 8 % 8) < 2 := z_hold_lt _ _
  refine nv_if_ne K (by omega) d_P_returnOnCondition_11 rfl (fun h2 => ?_) (fun h2 => ?_)
  · refine lv_aload_n K.1 K.2.1 d_P_returnOnCondition_16 rfl (lv_at hl 0 rfl) ?_
    refine lv_aload_n K.1 K.2.1 d_P_returnOnCondition_17 rfl (lv_at hl 0 rfl) ?_
    refine pki K (c_pop (σ := σ) l D cI a hO) (cw_P_244 K (Nat.le_of_ble_eq_true rfl) (Nat.le_of_ble_eq_true rfl)) hw (va_recv (ci := 0) (q0 := 0) hw.2.2.2.1 hw.1 rfl rfl) rfl hl.1 rfl (Nat.le_of_ble_eq_true rfl) d_P_returnOnCondition_18 ⟨Nat.zero_le _, Nat.zero_le _⟩ (fun H locs hw => ?_)
    have hO3 : z_Ok (z_po σ) := z_ok_po hO
    have hb4 : z_pv σ < 65536 := z_pv_lt hO
    refine pp_programCounter (v := z_pv σ) K hw d_P_returnOnCondition_21 (fun H locs hw => ?_)
    have hO5 : z_Ok (z_s_pc (z_po σ) (z_pv σ)) := z_ok_pc hO3 (by omega)
    refine nv_bipush (v := 11) K d_P_returnOnCondition_24 (by decide) ?_
    exact pri K hr hlk hw (by first | rfl | (simp [h2]; done) | (simp only [h2]; rfl)) (by first | rfl | (simp [h2]; done) | (congr 1; omega) | (simp [h2]; omega)) d_P_returnOnCondition_26
  · refine nv_iconst (v := 5) K d_P_returnOnCondition_14 (by decide) ?_
    exact pri K hr hlk hw (by first | rfl | (simp [h2]; done) | (simp only [h2]; rfl)) (by first | rfl | (simp [h2]; done) | (congr 1; omega) | (simp [h2]; omega)) d_P_returnOnCondition_15
set_option maxHeartbeats 4000000 in
set_option maxRecDepth 100000 in
theorem c_returnOrCopyHl {σ : z_St} {b : Nat} (l : Launch) (D : va_G) (cI : ClassId) (a : pAd) (hO : z_Ok σ) (hb : b < 256) : pCi l y_P_returnOrCopyHl w_P_returnOrCopyHl 2 43 D cI a [.ref a.1, .int (nI b)] σ (if b / 16 % 4 = 2 then z_s_pc σ (z_pg σ 2) else if b / 16 % 4 = 3 then z_s_sp σ (z_pg σ 2) else z_rt σ) (nI (if b / 16 % 4 = 2 then 5 else if b / 16 % 4 = 3 then 5 else 10)) := by
  refine pci_of (cc := b_P_returnOrCopyHl) (maxL := 2) (ret := (some .int)) (by decide) rfl (Nat.le_of_ble_eq_true rfl) ?_
  intro p e s m below meth c ls K hr hlk hl hw
  have K : CallFix p m c b_P_returnOrCopyHl 2 s _ (_ :: T0) "PortProcessor" := K
  have hl : lv_has ls 2 [(0, .ref a.1), (1, .int (nI b))] := hl
  refine lv_iload_n K.1 K.2.1 d_P_returnOrCopyHl_0 rfl (lv_at hl 1 rfl) ?_
  refine psi K (c_pairOf (σ := σ) (b := b) l D cI a hO (by omega)) (cw_P_190 K (Nat.le_of_ble_eq_true rfl) (Nat.le_of_ble_eq_true rfl)) hw rfl hl.1 rfl (Nat.le_of_ble_eq_true rfl) d_P_returnOrCopyHl_1 ⟨Nat.zero_le _, Nat.zero_le _⟩ (fun H locs hw => ?_)
  rcases (by omega : (b / 16 % 4) = 0 ∨ (b / 16 % 4) = 1 ∨ (b / 16 % 4) = 2 ∨ (b / 16 % 4) = 3) with h1 | h1 | h1 | h1
  · refine nv_as K (congrArg nI h1) ?_
    refine nv_lookup (a := 0) (tgt := 54) K d_P_returnOrCopyHl_4 (by decide) rfl rfl rfl ?_
    refine lv_aload_n K.1 K.2.1 d_P_returnOrCopyHl_54 rfl (lv_at hl 0 rfl) ?_
    refine lv_aload_n K.1 K.2.1 d_P_returnOrCopyHl_55 rfl (lv_at hl 0 rfl) ?_
    refine pki K (c_pop (σ := σ) l D cI a hO) (cw_P_244 K (Nat.le_of_ble_eq_true rfl) (Nat.le_of_ble_eq_true rfl)) hw (va_recv (ci := 0) (q0 := 0) hw.2.2.2.1 hw.1 rfl rfl) rfl hl.1 rfl (Nat.le_of_ble_eq_true rfl) d_P_returnOrCopyHl_56 ⟨Nat.zero_le _, Nat.zero_le _⟩ (fun H locs hw => ?_)
    have hO2 : z_Ok (z_po σ) := z_ok_po hO
    have hb3 : z_pv σ < 65536 := z_pv_lt hO
    refine pp_programCounter (v := z_pv σ) K hw d_P_returnOrCopyHl_59 (fun H locs hw => ?_)
    have hO4 : z_Ok (z_s_pc (z_po σ) (z_pv σ)) := z_ok_pc hO2 (by omega)
    refine nv_bipush (v := 10) K d_P_returnOrCopyHl_62 (by decide) ?_
    exact pri K hr hlk hw (by first | rfl | (simp [h1]; done) | (simp only [h1]; rfl)) (by first | rfl | (simp [h1]; done) | (congr 1; omega) | (simp [h1]; omega)) d_P_returnOrCopyHl_64
  · refine nv_as K (congrArg nI h1) ?_
    refine nv_lookup (a := 1) (tgt := 54) K d_P_returnOrCopyHl_4 (by decide) rfl rfl rfl ?_
    refine lv_aload_n K.1 K.2.1 d_P_returnOrCopyHl_54 rfl (lv_at hl 0 rfl) ?_
    refine lv_aload_n K.1 K.2.1 d_P_returnOrCopyHl_55 rfl (lv_at hl 0 rfl) ?_
    refine pki K (c_pop (σ := σ) l D cI a hO) (cw_P_244 K (Nat.le_of_ble_eq_true rfl) (Nat.le_of_ble_eq_true rfl)) hw (va_recv (ci := 0) (q0 := 0) hw.2.2.2.1 hw.1 rfl rfl) rfl hl.1 rfl (Nat.le_of_ble_eq_true rfl) d_P_returnOrCopyHl_56 ⟨Nat.zero_le _, Nat.zero_le _⟩ (fun H locs hw => ?_)
    have hO5 : z_Ok (z_po σ) := z_ok_po hO
    have hb6 : z_pv σ < 65536 := z_pv_lt hO
    refine pp_programCounter (v := z_pv σ) K hw d_P_returnOrCopyHl_59 (fun H locs hw => ?_)
    have hO7 : z_Ok (z_s_pc (z_po σ) (z_pv σ)) := z_ok_pc hO5 (by omega)
    refine nv_bipush (v := 10) K d_P_returnOrCopyHl_62 (by decide) ?_
    exact pri K hr hlk hw (by first | rfl | (simp [h1]; done) | (simp only [h1]; rfl)) (by first | rfl | (simp [h1]; done) | (congr 1; omega) | (simp [h1]; omega)) d_P_returnOrCopyHl_64
  · refine nv_as K (congrArg nI h1) ?_
    refine nv_lookup (a := 2) (tgt := 32) K d_P_returnOrCopyHl_4 (by decide) rfl rfl rfl ?_
    refine lv_aload_n K.1 K.2.1 d_P_returnOrCopyHl_32 rfl (lv_at hl 0 rfl) ?_
    refine lv_aload_n K.1 K.2.1 d_P_returnOrCopyHl_33 rfl (lv_at hl 0 rfl) ?_
    refine nv_iconst (v := 2) K d_P_returnOrCopyHl_34 (by decide) ?_
    refine pki K (c_readPair (σ := σ) (k := 2) l D cI a hO (by omega)) (cw_P_199 K (Nat.le_of_ble_eq_true rfl) (Nat.le_of_ble_eq_true rfl)) hw (va_recv (ci := 0) (q0 := 0) hw.2.2.2.1 hw.1 rfl rfl) rfl hl.1 rfl (Nat.le_of_ble_eq_true rfl) d_P_returnOrCopyHl_35 ⟨Nat.zero_le _, Nat.zero_le _⟩ (fun H locs hw => ?_)
    have hb8 : z_pg σ 2 < 65536 := z_pg_lt hO _
    refine pp_programCounter (v := z_pg σ 2) K hw d_P_returnOrCopyHl_38 (fun H locs hw => ?_)
    have hO9 : z_Ok (z_s_pc σ (z_pg σ 2)) := z_ok_pc hO (by omega)
    refine nv_iconst (v := 5) K d_P_returnOrCopyHl_41 (by decide) ?_
    exact pri K hr hlk hw (by first | rfl | (simp [h1]; done) | (simp only [h1]; rfl)) (by first | rfl | (simp [h1]; done) | (congr 1; omega) | (simp [h1]; omega)) d_P_returnOrCopyHl_42
  · refine nv_as K (congrArg nI h1) ?_
    refine nv_lookup (a := 3) (tgt := 43) K d_P_returnOrCopyHl_4 (by decide) rfl rfl rfl ?_
    refine lv_aload_n K.1 K.2.1 d_P_returnOrCopyHl_43 rfl (lv_at hl 0 rfl) ?_
    refine lv_aload_n K.1 K.2.1 d_P_returnOrCopyHl_44 rfl (lv_at hl 0 rfl) ?_
    refine nv_iconst (v := 2) K d_P_returnOrCopyHl_45 (by decide) ?_
    refine pki K (c_readPair (σ := σ) (k := 2) l D cI a hO (by omega)) (cw_P_199 K (Nat.le_of_ble_eq_true rfl) (Nat.le_of_ble_eq_true rfl)) hw (va_recv (ci := 0) (q0 := 0) hw.2.2.2.1 hw.1 rfl rfl) rfl hl.1 rfl (Nat.le_of_ble_eq_true rfl) d_P_returnOrCopyHl_46 ⟨Nat.zero_le _, Nat.zero_le _⟩ (fun H locs hw => ?_)
    have hb10 : z_pg σ 2 < 65536 := z_pg_lt hO _
    refine pp_stackPointer (v := z_pg σ 2) K hw d_P_returnOrCopyHl_49 (fun H locs hw => ?_)
    have hO11 : z_Ok (z_s_sp σ (z_pg σ 2)) := z_ok_sp hO (by omega)
    refine nv_iconst (v := 5) K d_P_returnOrCopyHl_52 (by decide) ?_
    exact pri K hr hlk hw (by first | rfl | (simp [h1]; done) | (simp only [h1]; rfl)) (by first | rfl | (simp [h1]; done) | (congr 1; omega) | (simp [h1]; omega)) d_P_returnOrCopyHl_53
set_option maxHeartbeats 4000000 in
set_option maxRecDepth 100000 in
theorem c_popPair {σ : z_St} {b : Nat} (l : Launch) (D : va_G) (cI : ClassId) (a : pAd) (hO : z_Ok σ) (hb : b < 256) : pCi l y_P_popPair w_P_popPair 2 43 D cI a [.ref a.1, .int (nI b)] σ (z_pp σ (b / 16 % 4)) (nI 10) := by
  refine pci_of (cc := b_P_popPair) (maxL := 4) (ret := (some .int)) (by decide) rfl (Nat.le_of_ble_eq_true rfl) ?_
  intro p e s m below meth c ls K hr hlk hl hw
  have K : CallFix p m c b_P_popPair 4 s _ (_ :: T0) "PortProcessor" := K
  have hl : lv_has ls 4 [(0, .ref a.1), (1, .int (nI b))] := hl
  refine lv_aload_n K.1 K.2.1 d_P_popPair_0 rfl (lv_at hl 0 rfl) ?_
  refine pki K (c_pop (σ := σ) l D cI a hO) (cw_P_244 K (Nat.le_of_ble_eq_true rfl) (Nat.le_of_ble_eq_true rfl)) hw (va_recv (ci := 0) (q0 := 0) hw.2.2.2.1 hw.1 rfl rfl) rfl hl.1 rfl (Nat.le_of_ble_eq_true rfl) d_P_popPair_1 ⟨Nat.zero_le _, Nat.zero_le _⟩ (fun H locs hw => ?_)
  have hO1 : z_Ok (z_po σ) := z_ok_po hO
  have hb2 : z_pv σ < 65536 := z_pv_lt hO
  refine lv_istore_n (lv' := [(2, .int (nI (z_pv σ))), (0, .ref a.1), (1, .int (nI b))]) K.1 K.2.1 d_P_popPair_4 rfl hl (by decide) rfl (fun ls hl => ?_)
  refine lv_iload_n K.1 K.2.1 d_P_popPair_5 rfl (lv_at hl 2 rfl) ?_
  refine psi K (c_pairOf (σ := z_po σ) (b := b) l D cI a hO1 (by omega)) (cw_P_190 K (Nat.le_of_ble_eq_true rfl) (Nat.le_of_ble_eq_true rfl)) hw rfl hl.1 rfl (Nat.le_of_ble_eq_true rfl) d_P_popPair_6 ⟨Nat.zero_le _, Nat.zero_le _⟩ (fun H locs hw => ?_)
  refine lv_istore_n (lv' := [(3, .int (nI (b / 16 % 4))), (2, .int (nI (z_pv σ))), (0, .ref a.1), (1, .int (nI b))]) K.1 K.2.1 d_P_popPair_9 rfl hl (by decide) rfl (fun ls hl => ?_)
  refine lv_iload_n K.1 K.2.1 d_P_popPair_10 rfl (lv_at hl 0 rfl) ?_
  refine nv_iconst (v := 3) K d_P_popPair_11 (by decide) ?_
  refine nv_icmp_ne K (by omega) (by omega) d_P_popPair_12 rfl (fun h3 => ?_) (fun h3 => ?_)
  · refine lv_aload_n K.1 K.2.1 d_P_popPair_41 rfl (lv_at hl 2 rfl) ?_
    refine lv_iload_n K.1 K.2.1 d_P_popPair_42 rfl (lv_at hl 0 rfl) ?_
    refine lv_iload_n K.1 K.2.1 d_P_popPair_43 rfl (lv_at hl 1 rfl) ?_
    refine pkv K (c_writePair (σ := z_po σ) (k := b / 16 % 4) (v := z_pv σ) l D cI a hO1 (by omega) (by omega)) (cw_P_196 K (Nat.le_of_ble_eq_true rfl) (Nat.le_of_ble_eq_true rfl)) hw (va_recv (ci := 0) (q0 := 0) hw.2.2.2.1 hw.1 rfl rfl) rfl hl.1 rfl (Nat.le_of_ble_eq_true rfl) d_P_popPair_44 ⟨Nat.zero_le _, Nat.zero_le _⟩ (fun H locs hw => ?_)
    have hO4 : z_Ok (z_ps (z_po σ) (b / 16 % 4) (z_pv σ)) := z_ok_ps hO1 _ (by omega)
    refine nv_bipush (v := 10) K d_P_popPair_47 (by decide) ?_
    exact pri K hr hlk hw (by first | rfl | (simp [h3]; done) | (simp only [h3]; rfl)) (by first | rfl | (simp [h3]; done) | (congr 1; omega) | (simp [h3]; omega)) d_P_popPair_49
  · refine lv_aload_n K.1 K.2.1 d_P_popPair_15 rfl (lv_at hl 2 rfl) ?_
    refine pg_registers K hw d_P_popPair_16 ?_
    refine nv_bipush (v := 7) K d_P_popPair_19 (by decide) ?_
    refine lv_iload_n K.1 K.2.1 d_P_popPair_21 rfl (lv_at hl 1 rfl) ?_
    refine nv_bipush (v := 8) K d_P_popPair_22 (by decide) ?_
    refine nv_ishr (M := 256) K (by omega) rfl (by omega) d_P_popPair_24 ?_
    refine ps_reg (i := 7) (v := (z_pv σ) / 256) K hw (by omega) d_P_popPair_25 (fun H locs hw => ?_)
    have hO5 : z_Ok (z_s_reg (z_po σ) (z_fs (z_x_reg σ) 7 ((z_pv σ) / 256))) := z_ok_reg hO1 (z_fs_lt (z_k_reg hO1) (by omega))
    refine lv_aload_n K.1 K.2.1 d_P_popPair_26 rfl (lv_at hl 2 rfl) ?_
    refine pg_flags K hw d_P_popPair_27 ?_
    refine lv_iload_n K.1 K.2.1 d_P_popPair_30 rfl (lv_at hl 1 rfl) ?_
    refine nv_sipush (v := 255) K d_P_popPair_31 (by decide) ?_
    refine nv_mask (M := 256) K 8 rfl rfl d_P_popPair_34 ?_
    refine pkv K (c_takeByte (σ := z_s_reg (z_po σ) (z_fs (z_x_reg σ) 7 ((z_pv σ) / 256))) (v := (z_pv σ) % 256) l D cI a hO5 (by omega)) (cw_P_98 K (Nat.le_of_ble_eq_true rfl) (Nat.le_of_ble_eq_true rfl)) hw (va_recv (ci := 2) (q0 := 2) hw.2.2.2.1 hw.1 rfl rfl) rfl hl.1 rfl (Nat.le_of_ble_eq_true rfl) d_P_popPair_35 ⟨Nat.zero_le _, Nat.zero_le _⟩ (fun H locs hw => ?_)
    have hO6 : z_Ok (z_ff (z_s_reg (z_po σ) (z_fs (z_x_reg σ) 7 ((z_pv σ) / 256))) ((z_pv σ) % 256)) := z_ok_ff hO5 _
    refine lv_goto K.1 K.2.1 d_P_popPair_38 rfl ?_
    refine nv_bipush (v := 10) K d_P_popPair_47 (by decide) ?_
    exact pri K hr hlk hw (by first | rfl | (simp [h3]; done) | (simp only [h3]; rfl)) (by first | rfl | (simp [h3]; done) | (congr 1; omega) | (simp [h3]; omega)) d_P_popPair_49
set_option maxHeartbeats 4000000 in
set_option maxRecDepth 100000 in
theorem c_pushPair {σ : z_St} {b : Nat} (l : Launch) (D : va_G) (cI : ClassId) (a : pAd) (hO : z_Ok σ) (hb : b < 256) : pCi l y_P_pushPair w_P_pushPair 2 43 D cI a [.ref a.1, .int (nI b)] σ (z_pu σ (z_pq σ (b / 16 % 4))) (nI 11) := by
  refine pci_of (cc := b_P_pushPair) (maxL := 3) (ret := (some .int)) (by decide) rfl (Nat.le_of_ble_eq_true rfl) ?_
  intro p e s m below meth c ls K hr hlk hl hw
  have K : CallFix p m c b_P_pushPair 3 s _ (_ :: T0) "PortProcessor" := K
  have hl : lv_has ls 3 [(0, .ref a.1), (1, .int (nI b))] := hl
  refine lv_iload_n K.1 K.2.1 d_P_pushPair_0 rfl (lv_at hl 1 rfl) ?_
  refine psi K (c_pairOf (σ := σ) (b := b) l D cI a hO (by omega)) (cw_P_190 K (Nat.le_of_ble_eq_true rfl) (Nat.le_of_ble_eq_true rfl)) hw rfl hl.1 rfl (Nat.le_of_ble_eq_true rfl) d_P_pushPair_1 ⟨Nat.zero_le _, Nat.zero_le _⟩ (fun H locs hw => ?_)
  refine lv_istore_n (lv' := [(2, .int (nI (b / 16 % 4))), (0, .ref a.1), (1, .int (nI b))]) K.1 K.2.1 d_P_pushPair_4 rfl hl (by decide) rfl (fun ls hl => ?_)
  refine lv_aload_n K.1 K.2.1 d_P_pushPair_5 rfl (lv_at hl 1 rfl) ?_
  refine lv_iload_n K.1 K.2.1 d_P_pushPair_6 rfl (lv_at hl 0 rfl) ?_
  refine nv_iconst (v := 3) K d_P_pushPair_7 (by decide) ?_
  refine nv_icmp_ne K (by omega) (by omega) d_P_pushPair_8 rfl (fun h1 => ?_) (fun h1 => ?_)
  · refine lv_aload_n K.1 K.2.1 d_P_pushPair_32 rfl (lv_at hl 1 rfl) ?_
    refine lv_iload_n K.1 K.2.1 d_P_pushPair_33 rfl (lv_at hl 0 rfl) ?_
    refine pki K (c_readPair (σ := σ) (k := b / 16 % 4) l D cI a hO (by omega)) (cw_P_199 K (Nat.le_of_ble_eq_true rfl) (Nat.le_of_ble_eq_true rfl)) hw (va_recv (ci := 0) (q0 := 0) hw.2.2.2.1 hw.1 rfl rfl) rfl hl.1 rfl (Nat.le_of_ble_eq_true rfl) d_P_pushPair_34 ⟨Nat.zero_le _, Nat.zero_le _⟩ (fun H locs hw => ?_)
    have hb2 : z_pg σ (b / 16 % 4) < 65536 := z_pg_lt hO _
    refine pkv K (c_push (σ := σ) (v := z_pg σ (b / 16 % 4)) l D cI a hO (by omega)) (cw_P_247 K (Nat.le_of_ble_eq_true rfl) (Nat.le_of_ble_eq_true rfl)) hw (va_recv (ci := 0) (q0 := 0) hw.2.2.2.1 hw.1 rfl rfl) rfl hl.1 rfl (Nat.le_of_ble_eq_true rfl) d_P_pushPair_37 ⟨Nat.zero_le _, Nat.zero_le _⟩ (fun H locs hw => ?_)
    have hO3 : z_Ok (z_pu σ (z_pg σ (b / 16 % 4))) := z_ok_pu hO (by omega)
    refine nv_bipush (v := 11) K d_P_pushPair_40 (by decide) ?_
    exact pri K hr hlk hw (by first | rfl | (simp [h1]; done) | (simp only [h1]; rfl)) (by first | rfl | (simp [h1]; done) | (congr 1; omega) | (simp [h1]; omega)) d_P_pushPair_42
  · refine lv_aload_n K.1 K.2.1 d_P_pushPair_11 rfl (lv_at hl 1 rfl) ?_
    refine pg_registers K hw d_P_pushPair_12 ?_
    refine nv_bipush (v := 7) K d_P_pushPair_15 (by decide) ?_
    refine pl_reg (i := 7) (v := z_x_reg σ 7) K hw (by omega) rfl d_P_pushPair_17 ?_
    have hb4 : z_x_reg σ 7 < 256 := z_k_reg hO _
    refine nv_bipush (v := 8) K d_P_pushPair_18 (by decide) ?_
    refine nv_ishl (M := 256) K (by omega) rfl (by omega) d_P_pushPair_20 ?_
    refine lv_aload_n K.1 K.2.1 d_P_pushPair_21 rfl (lv_at hl 1 rfl) ?_
    refine pg_flags K hw d_P_pushPair_22 ?_
    refine pki K (c_asByte (σ := σ) l D cI a hO) (cw_P_84 K (Nat.le_of_ble_eq_true rfl) (Nat.le_of_ble_eq_true rfl)) hw (va_recv (ci := 2) (q0 := 2) hw.2.2.2.1 hw.1 rfl rfl) rfl hl.1 rfl (Nat.le_of_ble_eq_true rfl) d_P_pushPair_25 ⟨Nat.zero_le _, Nat.zero_le _⟩ (fun H locs hw => ?_)
    have hb5 : z_fb σ < 256 := z_fb_lt hO
    refine nv_or256 K (by omega) d_P_pushPair_28 ?_
    refine lv_goto K.1 K.2.1 d_P_pushPair_29 rfl ?_
    refine pkv K (c_push (σ := σ) (v := (z_x_reg σ 7) * 256 + (z_fb σ)) l D cI a hO (by omega)) (cw_P_247 K (Nat.le_of_ble_eq_true rfl) (Nat.le_of_ble_eq_true rfl)) hw (va_recv (ci := 0) (q0 := 0) hw.2.2.2.1 hw.1 rfl rfl) rfl hl.1 rfl (Nat.le_of_ble_eq_true rfl) d_P_pushPair_37 ⟨Nat.zero_le _, Nat.zero_le _⟩ (fun H locs hw => ?_)
    have hO6 : z_Ok (z_pu σ ((z_x_reg σ 7) * 256 + (z_fb σ))) := z_ok_pu hO (by omega)
    refine nv_bipush (v := 11) K d_P_pushPair_40 (by decide) ?_
    exact pri K hr hlk hw (by first | rfl | (simp [h1]; done) | (simp only [h1]; rfl)) (by first | rfl | (simp [h1]; done) | (congr 1; omega) | (simp [h1]; omega)) d_P_pushPair_42
set_option maxHeartbeats 4000000 in
set_option maxRecDepth 100000 in
theorem c_exchangeHlWithStack {σ : z_St} (l : Launch) (D : va_G) (cI : ClassId) (a : pAd) (hO : z_Ok σ) : pCi l y_P_exchangeHlWithStack w_P_exchangeHlWithStack 1 22 D cI a [.ref a.1] σ (z_xs σ) (nI 18) := by
  refine pci_of (cc := b_P_exchangeHlWithStack) (maxL := 4) (ret := (some .int)) (by decide) rfl (Nat.le_of_ble_eq_true rfl) ?_
  intro p e s m below meth c ls K hr hlk hl hw
  have K : CallFix p m c b_P_exchangeHlWithStack 4 s _ (_ :: T0) "PortProcessor" := K
  have hl : lv_has ls 4 [(0, .ref a.1)] := hl
  refine lv_aload_n K.1 K.2.1 d_P_exchangeHlWithStack_0 rfl (lv_at hl 0 rfl) ?_
  refine pg_stackPointer (v := z_x_sp σ) K hw rfl d_P_exchangeHlWithStack_1 ?_
  have hb1 : z_x_sp σ < 65536 := z_k_sp hO
  refine nv_iconst (v := 1) K d_P_exchangeHlWithStack_4 (by decide) ?_
  refine nv_iadd K d_P_exchangeHlWithStack_5 ?_
  refine nv_ldc (v := 65535) K d_P_exchangeHlWithStack_6 (K.2.2.2.2 _ (List.mem_cons_of_mem _ m_constant_PortProcessor_56_65535)) ?_
  refine nv_mask (M := 65536) K 16 rfl rfl d_P_exchangeHlWithStack_8 ?_
  refine lv_istore_n (lv' := [(1, .int (nI (((z_x_sp σ) + 1) % 65536))), (0, .ref a.1)]) K.1 K.2.1 d_P_exchangeHlWithStack_9 rfl hl (by decide) rfl (fun ls hl => ?_)
  refine lv_aload_n K.1 K.2.1 d_P_exchangeHlWithStack_10 rfl (lv_at hl 1 rfl) ?_
  refine pg_memory K hw d_P_exchangeHlWithStack_11 ?_
  refine lv_aload_n K.1 K.2.1 d_P_exchangeHlWithStack_14 rfl (lv_at hl 1 rfl) ?_
  refine pg_stackPointer (v := z_x_sp σ) K hw rfl d_P_exchangeHlWithStack_15 ?_
  refine pki K (c_read (σ := σ) (x := z_x_sp σ) l D cI a hO (by omega)) (cw_P_52 K (Nat.le_of_ble_eq_true rfl) (Nat.le_of_ble_eq_true rfl)) hw (va_recv (ci := 1) (q0 := 1) hw.2.2.2.1 hw.1 rfl rfl) rfl hl.1 rfl (Nat.le_of_ble_eq_true rfl) d_P_exchangeHlWithStack_18 ⟨Nat.zero_le _, Nat.zero_le _⟩ (fun H locs hw => ?_)
  have hb2 : z_rd σ (z_x_sp σ) < 256 := z_rd_lt hO _
  refine lv_istore_n (lv' := [(2, .int (nI (z_rd σ (z_x_sp σ)))), (1, .int (nI (((z_x_sp σ) + 1) % 65536))), (0, .ref a.1)]) K.1 K.2.1 d_P_exchangeHlWithStack_21 rfl hl (by decide) rfl (fun ls hl => ?_)
  refine lv_aload_n K.1 K.2.1 d_P_exchangeHlWithStack_22 rfl (lv_at hl 2 rfl) ?_
  refine pg_memory K hw d_P_exchangeHlWithStack_23 ?_
  refine lv_iload_n K.1 K.2.1 d_P_exchangeHlWithStack_26 rfl (lv_at hl 1 rfl) ?_
  refine pki K (c_read (σ := σ) (x := ((z_x_sp σ) + 1) % 65536) l D cI a hO (by omega)) (cw_P_52 K (Nat.le_of_ble_eq_true rfl) (Nat.le_of_ble_eq_true rfl)) hw (va_recv (ci := 1) (q0 := 1) hw.2.2.2.1 hw.1 rfl rfl) rfl hl.1 rfl (Nat.le_of_ble_eq_true rfl) d_P_exchangeHlWithStack_27 ⟨Nat.zero_le _, Nat.zero_le _⟩ (fun H locs hw => ?_)
  have hb3 : z_rd σ (((z_x_sp σ) + 1) % 65536) < 256 := z_rd_lt hO _
  refine lv_istore_n (lv' := [(3, .int (nI (z_rd σ (((z_x_sp σ) + 1) % 65536)))), (2, .int (nI (z_rd σ (z_x_sp σ)))), (1, .int (nI (((z_x_sp σ) + 1) % 65536))), (0, .ref a.1)]) K.1 K.2.1 d_P_exchangeHlWithStack_30 rfl hl (by decide) rfl (fun ls hl => ?_)
  refine lv_aload_n K.1 K.2.1 d_P_exchangeHlWithStack_31 rfl (lv_at hl 3 rfl) ?_
  refine pg_memory K hw d_P_exchangeHlWithStack_32 ?_
  refine lv_aload_n K.1 K.2.1 d_P_exchangeHlWithStack_35 rfl (lv_at hl 3 rfl) ?_
  refine pg_stackPointer (v := z_x_sp σ) K hw rfl d_P_exchangeHlWithStack_36 ?_
  refine lv_aload_n K.1 K.2.1 d_P_exchangeHlWithStack_39 rfl (lv_at hl 3 rfl) ?_
  refine pg_registers K hw d_P_exchangeHlWithStack_40 ?_
  refine nv_iconst (v := 5) K d_P_exchangeHlWithStack_43 (by decide) ?_
  refine pl_reg (i := 5) (v := z_x_reg σ 5) K hw (by omega) rfl d_P_exchangeHlWithStack_44 ?_
  have hb4 : z_x_reg σ 5 < 256 := z_k_reg hO _
  refine pkv K (c_write (σ := σ) (x := z_x_sp σ) (v := z_x_reg σ 5) l D cI a hO (by omega) (by omega)) (cw_P_46 K (Nat.le_of_ble_eq_true rfl) (Nat.le_of_ble_eq_true rfl)) hw (va_recv (ci := 1) (q0 := 1) hw.2.2.2.1 hw.1 rfl rfl) rfl hl.1 rfl (Nat.le_of_ble_eq_true rfl) d_P_exchangeHlWithStack_45 ⟨Nat.zero_le _, Nat.zero_le _⟩ (fun H locs hw => ?_)
  have hO5 : z_Ok (z_wr σ (z_x_sp σ) (z_x_reg σ 5)) := z_ok_wr hO _ (by omega)
  refine lv_aload_n K.1 K.2.1 d_P_exchangeHlWithStack_48 rfl (lv_at hl 3 rfl) ?_
  refine pg_memory K hw d_P_exchangeHlWithStack_49 ?_
  refine lv_iload_n K.1 K.2.1 d_P_exchangeHlWithStack_52 rfl (lv_at hl 2 rfl) ?_
  refine lv_aload_n K.1 K.2.1 d_P_exchangeHlWithStack_53 rfl (lv_at hl 3 rfl) ?_
  refine pg_registers K hw d_P_exchangeHlWithStack_54 ?_
  refine nv_iconst (v := 4) K d_P_exchangeHlWithStack_57 (by decide) ?_
  refine pl_reg (i := 4) (v := z_x_reg σ 4) K hw (by omega) rfl d_P_exchangeHlWithStack_58 ?_
  have hb6 : z_x_reg σ 4 < 256 := z_k_reg hO5 _
  refine pkv K (c_write (σ := z_wr σ (z_x_sp σ) (z_x_reg σ 5)) (x := ((z_x_sp σ) + 1) % 65536) (v := z_x_reg σ 4) l D cI a hO5 (by omega) (by omega)) (cw_P_46 K (Nat.le_of_ble_eq_true rfl) (Nat.le_of_ble_eq_true rfl)) hw (va_recv (ci := 1) (q0 := 1) hw.2.2.2.1 hw.1 rfl rfl) rfl hl.1 rfl (Nat.le_of_ble_eq_true rfl) d_P_exchangeHlWithStack_59 ⟨Nat.zero_le _, Nat.zero_le _⟩ (fun H locs hw => ?_)
  have hO7 : z_Ok (z_wr (z_wr σ (z_x_sp σ) (z_x_reg σ 5)) (((z_x_sp σ) + 1) % 65536) (z_x_reg σ 4)) := z_ok_wr hO5 _ (by omega)
  refine lv_aload_n K.1 K.2.1 d_P_exchangeHlWithStack_62 rfl (lv_at hl 3 rfl) ?_
  refine pg_registers K hw d_P_exchangeHlWithStack_63 ?_
  refine nv_iconst (v := 5) K d_P_exchangeHlWithStack_66 (by decide) ?_
  refine lv_iload_n K.1 K.2.1 d_P_exchangeHlWithStack_67 rfl (lv_at hl 1 rfl) ?_
  refine ps_reg (i := 5) (v := z_rd σ (z_x_sp σ)) K hw (by omega) d_P_exchangeHlWithStack_68 (fun H locs hw => ?_)
  have hO8 : z_Ok (z_s_reg (z_wr (z_wr σ (z_x_sp σ) (z_x_reg σ 5)) (((z_x_sp σ) + 1) % 65536) (z_x_reg σ 4)) (z_fs (z_x_reg σ) 5 (z_rd σ (z_x_sp σ)))) := z_ok_reg hO7 (z_fs_lt (z_k_reg hO7) (by omega))
  refine lv_aload_n K.1 K.2.1 d_P_exchangeHlWithStack_69 rfl (lv_at hl 3 rfl) ?_
  refine pg_registers K hw d_P_exchangeHlWithStack_70 ?_
  refine nv_iconst (v := 4) K d_P_exchangeHlWithStack_73 (by decide) ?_
  refine lv_iload_n K.1 K.2.1 d_P_exchangeHlWithStack_74 rfl (lv_at hl 0 rfl) ?_
  refine ps_reg (i := 4) (v := z_rd σ (((z_x_sp σ) + 1) % 65536)) K hw (by omega) d_P_exchangeHlWithStack_75 (fun H locs hw => ?_)
  have hO9 : z_Ok (z_s_reg (z_s_reg (z_wr (z_wr σ (z_x_sp σ) (z_x_reg σ 5)) (((z_x_sp σ) + 1) % 65536) (z_x_reg σ 4)) (z_fs (z_x_reg σ) 5 (z_rd σ (z_x_sp σ)))) (z_fs (z_fs (z_x_reg σ) 5 (z_rd σ (z_x_sp σ))) 4 (z_rd σ (((z_x_sp σ) + 1) % 65536)))) := z_ok_reg hO8 (z_fs_lt (z_k_reg hO8) (by omega))
  refine nv_bipush (v := 18) K d_P_exchangeHlWithStack_76 (by decide) ?_
  exact pri K hr hlk hw (by first | rfl | (simp; done) | (skip; rfl)) (by first | rfl | (simp; done) | (congr 1; omega) | (simp; omega)) d_P_exchangeHlWithStack_78
set_option maxHeartbeats 4000000 in
set_option maxRecDepth 100000 in
theorem c_exchangeHlWithDe {σ : z_St} (l : Launch) (D : va_G) (cI : ClassId) (a : pAd) (hO : z_Ok σ) : pCi l y_P_exchangeHlWithDe w_P_exchangeHlWithDe 1 22 D cI a [.ref a.1] σ (z_xd σ) (nI 4) := by
  refine pci_of (cc := b_P_exchangeHlWithDe) (maxL := 2) (ret := (some .int)) (by decide) rfl (Nat.le_of_ble_eq_true rfl) ?_
  intro p e s m below meth c ls K hr hlk hl hw
  have K : CallFix p m c b_P_exchangeHlWithDe 2 s _ (_ :: T0) "PortProcessor" := K
  have hl : lv_has ls 2 [(0, .ref a.1)] := hl
  refine lv_aload_n K.1 K.2.1 d_P_exchangeHlWithDe_0 rfl (lv_at hl 0 rfl) ?_
  refine nv_iconst (v := 2) K d_P_exchangeHlWithDe_1 (by decide) ?_
  refine pki K (c_readPair (σ := σ) (k := 2) l D cI a hO (by omega)) (cw_P_199 K (Nat.le_of_ble_eq_true rfl) (Nat.le_of_ble_eq_true rfl)) hw (va_recv (ci := 0) (q0 := 0) hw.2.2.2.1 hw.1 rfl rfl) rfl hl.1 rfl (Nat.le_of_ble_eq_true rfl) d_P_exchangeHlWithDe_2 ⟨Nat.zero_le _, Nat.zero_le _⟩ (fun H locs hw => ?_)
  have hb1 : z_pg σ 2 < 65536 := z_pg_lt hO _
  refine lv_istore_n (lv' := [(1, .int (nI (z_pg σ 2))), (0, .ref a.1)]) K.1 K.2.1 d_P_exchangeHlWithDe_5 rfl hl (by decide) rfl (fun ls hl => ?_)
  refine lv_aload_n K.1 K.2.1 d_P_exchangeHlWithDe_6 rfl (lv_at hl 1 rfl) ?_
  refine nv_iconst (v := 2) K d_P_exchangeHlWithDe_7 (by decide) ?_
  refine lv_aload_n K.1 K.2.1 d_P_exchangeHlWithDe_8 rfl (lv_at hl 1 rfl) ?_
  refine nv_iconst (v := 1) K d_P_exchangeHlWithDe_9 (by decide) ?_
  refine pki K (c_readPair (σ := σ) (k := 1) l D cI a hO (by omega)) (cw_P_199 K (Nat.le_of_ble_eq_true rfl) (Nat.le_of_ble_eq_true rfl)) hw (va_recv (ci := 0) (q0 := 0) hw.2.2.2.1 hw.1 rfl rfl) rfl hl.1 rfl (Nat.le_of_ble_eq_true rfl) d_P_exchangeHlWithDe_10 ⟨Nat.zero_le _, Nat.zero_le _⟩ (fun H locs hw => ?_)
  have hb2 : z_pg σ 1 < 65536 := z_pg_lt hO _
  refine pkv K (c_writePair (σ := σ) (k := 2) (v := z_pg σ 1) l D cI a hO (by omega) (by omega)) (cw_P_196 K (Nat.le_of_ble_eq_true rfl) (Nat.le_of_ble_eq_true rfl)) hw (va_recv (ci := 0) (q0 := 0) hw.2.2.2.1 hw.1 rfl rfl) rfl hl.1 rfl (Nat.le_of_ble_eq_true rfl) d_P_exchangeHlWithDe_13 ⟨Nat.zero_le _, Nat.zero_le _⟩ (fun H locs hw => ?_)
  have hO3 : z_Ok (z_ps σ 2 (z_pg σ 1)) := z_ok_ps hO _ (by omega)
  refine lv_aload_n K.1 K.2.1 d_P_exchangeHlWithDe_16 rfl (lv_at hl 1 rfl) ?_
  refine nv_iconst (v := 1) K d_P_exchangeHlWithDe_17 (by decide) ?_
  refine lv_iload_n K.1 K.2.1 d_P_exchangeHlWithDe_18 rfl (lv_at hl 0 rfl) ?_
  refine pkv K (c_writePair (σ := z_ps σ 2 (z_pg σ 1)) (k := 1) (v := z_pg σ 2) l D cI a hO3 (by omega) (by omega)) (cw_P_196 K (Nat.le_of_ble_eq_true rfl) (Nat.le_of_ble_eq_true rfl)) hw (va_recv (ci := 0) (q0 := 0) hw.2.2.2.1 hw.1 rfl rfl) rfl hl.1 rfl (Nat.le_of_ble_eq_true rfl) d_P_exchangeHlWithDe_19 ⟨Nat.zero_le _, Nat.zero_le _⟩ (fun H locs hw => ?_)
  have hO4 : z_Ok (z_ps (z_ps σ 2 (z_pg σ 1)) 1 (z_pg σ 2)) := z_ok_ps hO3 _ (by omega)
  refine nv_iconst (v := 4) K d_P_exchangeHlWithDe_22 (by decide) ?_
  exact pri K hr hlk hw (by first | rfl | (simp; done) | (skip; rfl)) (by first | rfl | (simp; done) | (congr 1; omega) | (simp; omega)) d_P_exchangeHlWithDe_23
set_option maxHeartbeats 4000000 in
set_option maxRecDepth 100000 in
theorem c_jumpExchangeOrSwitch {σ : z_St} {b : Nat} (l : Launch) (D : va_G) (cI : ClassId) (a : pAd) (hO : z_Ok σ) (hb : b < 256) : pCi l y_P_jumpExchangeOrSwitch w_P_jumpExchangeOrSwitch 3 63 D cI a [.ref a.1, .int (nI b)] σ (z_e3 σ (b / 8 % 8)) (nI (z_t3 (b / 8 % 8))) := by
  refine pci_of (cc := b_P_jumpExchangeOrSwitch) (maxL := 2) (ret := (some .int)) (by decide) rfl (Nat.le_of_ble_eq_true rfl) ?_
  intro p e s m below meth c ls K hr hlk hl hw
  have K : CallFix p m c b_P_jumpExchangeOrSwitch 2 s _ (_ :: T0) "PortProcessor" := K
  have hl : lv_has ls 2 [(0, .ref a.1), (1, .int (nI b))] := hl
  refine lv_iload_n K.1 K.2.1 d_P_jumpExchangeOrSwitch_0 rfl (lv_at hl 1 rfl) ?_
  refine psi K (c_targetOf (σ := σ) (b := b) l D cI a hO (by omega)) (cw_P_212 K (Nat.le_of_ble_eq_true rfl) (Nat.le_of_ble_eq_true rfl)) hw rfl hl.1 rfl (Nat.le_of_ble_eq_true rfl) d_P_jumpExchangeOrSwitch_1 ⟨Nat.zero_le _, Nat.zero_le _⟩ (fun H locs hw => ?_)
  rcases (by omega : (b / 8 % 8) = 0 ∨ (b / 8 % 8) = 1 ∨ (b / 8 % 8) = 2 ∨ (b / 8 % 8) = 3 ∨ (b / 8 % 8) = 4 ∨ (b / 8 % 8) = 5 ∨ (b / 8 % 8) = 6 ∨ (b / 8 % 8) = 7) with h1 | h1 | h1 | h1 | h1 | h1 | h1 | h1
  · refine nv_as K (congrArg nI h1) ?_
    refine nv_tabOut (a := 0) (tgt := 106) K d_P_jumpExchangeOrSwitch_4 (by decide) (by decide) rfl ?_
    refine lv_aload_n K.1 K.2.1 d_P_jumpExchangeOrSwitch_106 rfl (lv_at hl 0 rfl) ?_
    refine lv_aload_n K.1 K.2.1 d_P_jumpExchangeOrSwitch_107 rfl (lv_at hl 0 rfl) ?_
    refine pki K (c_nextTwoBytes (σ := σ) l D cI a hO) (cw_P_193 K (Nat.le_of_ble_eq_true rfl) (Nat.le_of_ble_eq_true rfl)) hw (va_recv (ci := 0) (q0 := 0) hw.2.2.2.1 hw.1 rfl rfl) rfl hl.1 rfl (Nat.le_of_ble_eq_true rfl) d_P_jumpExchangeOrSwitch_108 ⟨Nat.zero_le _, Nat.zero_le _⟩ (fun H locs hw => ?_)
    have hO2 : z_Ok (z_nn σ) := z_ok_nn hO
    have hb3 : z_nw σ < 65536 := z_nw_lt hO
    refine pp_programCounter (v := z_nw σ) K hw d_P_jumpExchangeOrSwitch_111 (fun H locs hw => ?_)
    have hO4 : z_Ok (z_s_pc (z_nn σ) (z_nw σ)) := z_ok_pc hO2 (by omega)
    refine nv_bipush (v := 10) K d_P_jumpExchangeOrSwitch_114 (by decide) ?_
    exact pri K hr hlk hw (by rw [h2]; rfl) (by rw [h2]; rfl) d_P_jumpExchangeOrSwitch_116
  · refine nv_as K (congrArg nI h1) ?_
    refine nv_tabOut (a := 1) (tgt := 106) K d_P_jumpExchangeOrSwitch_4 (by decide) (by decide) rfl ?_
    refine lv_aload_n K.1 K.2.1 d_P_jumpExchangeOrSwitch_106 rfl (lv_at hl 0 rfl) ?_
    refine lv_aload_n K.1 K.2.1 d_P_jumpExchangeOrSwitch_107 rfl (lv_at hl 0 rfl) ?_
    refine pki K (c_nextTwoBytes (σ := σ) l D cI a hO) (cw_P_193 K (Nat.le_of_ble_eq_true rfl) (Nat.le_of_ble_eq_true rfl)) hw (va_recv (ci := 0) (q0 := 0) hw.2.2.2.1 hw.1 rfl rfl) rfl hl.1 rfl (Nat.le_of_ble_eq_true rfl) d_P_jumpExchangeOrSwitch_108 ⟨Nat.zero_le _, Nat.zero_le _⟩ (fun H locs hw => ?_)
    have hO5 : z_Ok (z_nn σ) := z_ok_nn hO
    have hb6 : z_nw σ < 65536 := z_nw_lt hO
    refine pp_programCounter (v := z_nw σ) K hw d_P_jumpExchangeOrSwitch_111 (fun H locs hw => ?_)
    have hO7 : z_Ok (z_s_pc (z_nn σ) (z_nw σ)) := z_ok_pc hO5 (by omega)
    refine nv_bipush (v := 10) K d_P_jumpExchangeOrSwitch_114 (by decide) ?_
    exact pri K hr hlk hw (by rw [h2]; rfl) (by rw [h2]; rfl) d_P_jumpExchangeOrSwitch_116
  · refine nv_as K (congrArg nI h1) ?_
    refine nv_tabIn (a := 2) (tgt := 44) K d_P_jumpExchangeOrSwitch_4 (by decide) (by decide) (by decide) rfl rfl ?_
    refine lv_aload_n K.1 K.2.1 d_P_jumpExchangeOrSwitch_44 rfl (lv_at hl 0 rfl) ?_
    refine pg_putOut K hw d_P_jumpExchangeOrSwitch_45 ?_
    refine lv_aload_n K.1 K.2.1 d_P_jumpExchangeOrSwitch_48 rfl (lv_at hl 0 rfl) ?_
    refine pki K (c_nextByte (σ := σ) l D cI a hO) (cw_P_121 K (Nat.le_of_ble_eq_true rfl) (Nat.le_of_ble_eq_true rfl)) hw (va_recv (ci := 0) (q0 := 0) hw.2.2.2.1 hw.1 rfl rfl) rfl hl.1 rfl (Nat.le_of_ble_eq_true rfl) d_P_jumpExchangeOrSwitch_49 ⟨Nat.zero_le _, Nat.zero_le _⟩ (fun H locs hw => ?_)
    have hO8 : z_Ok (z_nx σ) := z_ok_nx hO
    have hb9 : z_nb σ < 256 := z_nb_lt hO
    refine lv_aload_n K.1 K.2.1 d_P_jumpExchangeOrSwitch_52 rfl (lv_at hl 0 rfl) ?_
    refine pg_registers K hw d_P_jumpExchangeOrSwitch_53 ?_
    refine nv_bipush (v := 7) K d_P_jumpExchangeOrSwitch_56 (by decide) ?_
    refine pl_reg (i := 7) (v := z_x_reg σ 7) K hw (by omega) rfl d_P_jumpExchangeOrSwitch_58 ?_
    have hb10 : z_x_reg σ 7 < 256 := z_k_reg hO8 _
    refine ps_put (i := z_nb σ) (v := z_x_reg σ 7) K hw (by omega) d_P_jumpExchangeOrSwitch_59 (fun H locs hw => ?_)
    have hO11 : z_Ok (z_s_put (z_nx σ) (z_fs (z_x_put σ) (z_nb σ) ((z_x_reg σ 7) + 1))) := z_ok_put hO8 (z_fs_lt (z_k_put hO8) (by omega))
    refine nv_bipush (v := 10) K d_P_jumpExchangeOrSwitch_60 (by decide) ?_
    exact pri K hr hlk hw (by rw [h2]; rfl) (by rw [h2]; rfl) d_P_jumpExchangeOrSwitch_62
  · refine nv_as K (congrArg nI h1) ?_
    refine nv_tabIn (a := 3) (tgt := 63) K d_P_jumpExchangeOrSwitch_4 (by decide) (by decide) (by decide) rfl rfl ?_
    refine lv_aload_n K.1 K.2.1 d_P_jumpExchangeOrSwitch_63 rfl (lv_at hl 0 rfl) ?_
    refine pg_registers K hw d_P_jumpExchangeOrSwitch_64 ?_
    refine nv_bipush (v := 7) K d_P_jumpExchangeOrSwitch_67 (by decide) ?_
    refine lv_aload_n K.1 K.2.1 d_P_jumpExchangeOrSwitch_69 rfl (lv_at hl 0 rfl) ?_
    refine pg_broughtIn K hw d_P_jumpExchangeOrSwitch_70 ?_
    refine lv_aload_n K.1 K.2.1 d_P_jumpExchangeOrSwitch_73 rfl (lv_at hl 0 rfl) ?_
    refine pki K (c_nextByte (σ := σ) l D cI a hO) (cw_P_121 K (Nat.le_of_ble_eq_true rfl) (Nat.le_of_ble_eq_true rfl)) hw (va_recv (ci := 0) (q0 := 0) hw.2.2.2.1 hw.1 rfl rfl) rfl hl.1 rfl (Nat.le_of_ble_eq_true rfl) d_P_jumpExchangeOrSwitch_74 ⟨Nat.zero_le _, Nat.zero_le _⟩ (fun H locs hw => ?_)
    have hO12 : z_Ok (z_nx σ) := z_ok_nx hO
    have hb13 : z_nb σ < 256 := z_nb_lt hO
    refine pl_inn (i := z_nb σ) (v := z_x_inn σ (z_nb σ)) K hw (by omega) rfl d_P_jumpExchangeOrSwitch_77 ?_
    have hb14 : z_x_inn σ (z_nb σ) < 256 := z_k_inn hO12 _
    refine ps_reg (i := 7) (v := z_x_inn σ (z_nb σ)) K hw (by omega) d_P_jumpExchangeOrSwitch_78 (fun H locs hw => ?_)
    have hO15 : z_Ok (z_s_reg (z_nx σ) (z_fs (z_x_reg σ) 7 (z_x_inn σ (z_nb σ)))) := z_ok_reg hO12 (z_fs_lt (z_k_reg hO12) (by omega))
    refine nv_bipush (v := 10) K d_P_jumpExchangeOrSwitch_79 (by decide) ?_
    exact pri K hr hlk hw (by rw [h2]; rfl) (by rw [h2]; rfl) d_P_jumpExchangeOrSwitch_81
  · refine nv_as K (congrArg nI h1) ?_
    refine nv_tabIn (a := 4) (tgt := 82) K d_P_jumpExchangeOrSwitch_4 (by decide) (by decide) (by decide) rfl rfl ?_
    refine lv_aload_n K.1 K.2.1 d_P_jumpExchangeOrSwitch_82 rfl (lv_at hl 0 rfl) ?_
    refine pki K (c_exchangeHlWithStack (σ := σ) l D cI a hO) (cw_P_250 K (Nat.le_of_ble_eq_true rfl) (Nat.le_of_ble_eq_true rfl)) hw (va_recv (ci := 0) (q0 := 0) hw.2.2.2.1 hw.1 rfl rfl) rfl hl.1 rfl (Nat.le_of_ble_eq_true rfl) d_P_jumpExchangeOrSwitch_83 ⟨Nat.zero_le _, Nat.zero_le _⟩ (fun H locs hw => ?_)
    have hO16 : z_Ok (z_xs σ) := z_ok_xs hO
    exact pri K hr hlk hw (by rw [h2]; rfl) (by rw [h2]; rfl) d_P_jumpExchangeOrSwitch_86
  · refine nv_as K (congrArg nI h1) ?_
    refine nv_tabIn (a := 5) (tgt := 87) K d_P_jumpExchangeOrSwitch_4 (by decide) (by decide) (by decide) rfl rfl ?_
    refine lv_aload_n K.1 K.2.1 d_P_jumpExchangeOrSwitch_87 rfl (lv_at hl 0 rfl) ?_
    refine pki K (c_exchangeHlWithDe (σ := σ) l D cI a hO) (cw_P_253 K (Nat.le_of_ble_eq_true rfl) (Nat.le_of_ble_eq_true rfl)) hw (va_recv (ci := 0) (q0 := 0) hw.2.2.2.1 hw.1 rfl rfl) rfl hl.1 rfl (Nat.le_of_ble_eq_true rfl) d_P_jumpExchangeOrSwitch_88 ⟨Nat.zero_le _, Nat.zero_le _⟩ (fun H locs hw => ?_)
    have hO17 : z_Ok (z_xd σ) := z_ok_xd hO
    exact pri K hr hlk hw (by rw [h2]; rfl) (by rw [h2]; rfl) d_P_jumpExchangeOrSwitch_91
  · refine nv_as K (congrArg nI h1) ?_
    refine nv_tabIn (a := 6) (tgt := 92) K d_P_jumpExchangeOrSwitch_4 (by decide) (by decide) (by decide) rfl rfl ?_
    refine lv_aload_n K.1 K.2.1 d_P_jumpExchangeOrSwitch_92 rfl (lv_at hl 0 rfl) ?_
    refine nv_iconst (v := 0) K d_P_jumpExchangeOrSwitch_93 (by decide) ?_
    refine pp_interruptsOn (v := 0) K hw (by omega) d_P_jumpExchangeOrSwitch_94 (fun H locs hw => ?_)
    have hO18 : z_Ok (z_s_it σ 0) := z_ok_it hO (by omega)
    refine nv_iconst (v := 4) K d_P_jumpExchangeOrSwitch_97 (by decide) ?_
    exact pri K hr hlk hw (by rw [h2]; rfl) (by rw [h2]; rfl) d_P_jumpExchangeOrSwitch_98
  · refine nv_as K (congrArg nI h1) ?_
    refine nv_tabIn (a := 7) (tgt := 99) K d_P_jumpExchangeOrSwitch_4 (by decide) (by decide) (by decide) rfl rfl ?_
    refine lv_aload_n K.1 K.2.1 d_P_jumpExchangeOrSwitch_99 rfl (lv_at hl 0 rfl) ?_
    refine nv_iconst (v := 1) K d_P_jumpExchangeOrSwitch_100 (by decide) ?_
    refine pp_interruptsOn (v := 1) K hw (by omega) d_P_jumpExchangeOrSwitch_101 (fun H locs hw => ?_)
    have hO19 : z_Ok (z_s_it σ 1) := z_ok_it hO (by omega)
    refine nv_iconst (v := 4) K d_P_jumpExchangeOrSwitch_104 (by decide) ?_
    exact pri K hr hlk hw (by rw [h2]; rfl) (by rw [h2]; rfl) d_P_jumpExchangeOrSwitch_105

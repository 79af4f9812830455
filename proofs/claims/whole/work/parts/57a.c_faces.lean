set_option maxHeartbeats 4000000 in
set_option maxRecDepth 100000 in
theorem c_isByte {σ : z_St} {x : Nat} (l : Launch) (D : va_G) (cI : ClassId) (a : pAd) (hO : z_Ok σ) (hx : x < 256) : pCi l y_P_isByte w_P_isByte 0 0 D cI a [.int (nI x)] σ σ (nI 1) := by
  refine pci_of (cc := b_P_isByte) (maxL := 1) (ret := (some .boolean)) (by decide) rfl (Nat.le_of_ble_eq_true rfl) ?_
  intro p e s m below meth c ls K hr hlk hl hw
  have K : CallFix p m c b_P_isByte 1 s _ (_ :: T0) "PortProcessor" := K
  have hl : lv_has ls 1 [(0, .int (nI x))] := hl
  refine lv_iload_n K.1 K.2.1 d_P_isByte_0 rfl (lv_at hl 0 rfl) ?_
  refine nv_if_lt K (by omega) d_P_isByte_1 rfl ?_
  refine lv_iload_n K.1 K.2.1 d_P_isByte_4 rfl (lv_at hl 0 rfl) ?_
  refine nv_sipush (v := 255) K d_P_isByte_5 (by decide) ?_
  refine nv_icmp_gt K (by omega) (by omega) d_P_isByte_8 rfl (fun h => (by omega : False).elim) (fun _ => ?_)
  refine nv_iconst (v := 1) K d_P_isByte_11 (by decide) ?_
  refine lv_goto K.1 K.2.1 d_P_isByte_12 rfl ?_
  exact prz K hr hlk hw (by rfl) (by omega) (by rfl) d_P_isByte_16
set_option maxHeartbeats 4000000 in
set_option maxRecDepth 100000 in
theorem c_isByteX {σ : z_St} {x : Int32} (l : Launch) (D : va_G) (cI : ClassId) (a : pAd) (hO : z_Ok σ) (hx : x < 0 ∨ nI 256 ≤ x) : pCi l y_P_isByte w_P_isByte 0 0 D cI a [.int x] σ σ (nI 0) := by
  refine pci_of (cc := b_P_isByte) (maxL := 1) (ret := (some .boolean)) (by decide) rfl (Nat.le_of_ble_eq_true rfl) ?_
  intro p e s m below meth c ls K hr hlk hl hw
  have K : CallFix p m c b_P_isByte 1 s _ (_ :: T0) "PortProcessor" := K
  have hl : lv_has ls 1 [(0, .int x)] := hl
  refine lv_iload_n K.1 K.2.1 d_P_isByte_0 rfl (lv_at hl 0 rfl) ?_
  refine lv_if_lt K.1 K.2.1 d_P_isByte_1 rfl (fun h1 => ?_) (fun h1 => ?_)
  · refine nv_iconst (v := 0) K d_P_isByte_15 (by decide) ?_
    exact prz K hr hlk hw (by rfl) (by omega) (by rfl) d_P_isByte_16
  · refine lv_iload_n K.1 K.2.1 d_P_isByte_4 rfl (lv_at hl 0 rfl) ?_
    refine nv_sipush (v := 255) K d_P_isByte_5 (by decide) ?_
    refine lv_icmp_gt K.1 K.2.1 d_P_isByte_8 rfl (fun h2 => ?_) (fun h2 => (rw_c (by decide) hx h1 h2).elim)
    refine nv_iconst (v := 0) K d_P_isByte_15 (by decide) ?_
    exact prz K hr hlk hw (by rfl) (by omega) (by rfl) d_P_isByte_16
set_option maxHeartbeats 4000000 in
set_option maxRecDepth 100000 in
theorem c_peek {σ : z_St} {x : Nat} (l : Launch) (D : va_G) (cI : ClassId) (a : pAd) (hO : z_Ok σ) (hx : x < 1024) : pCi l y_P_peek w_P_peek 1 21 D cI a [.ref a.1, .int (nI x)] σ σ (nI (z_x_mem σ x)) := by
  refine pci_of (cc := b_P_peek) (maxL := 2) (ret := (some .int)) (by decide) rfl (Nat.le_of_ble_eq_true rfl) ?_
  intro p e s m below meth c ls K hr hlk hl hw
  have K : CallFix p m c b_P_peek 2 s _ (_ :: T0) "PortProcessor" := K
  have hl : lv_has ls 2 [(0, .ref a.1), (1, .int (nI x))] := hl
  refine lv_iload_n K.1 K.2.1 d_P_peek_0 rfl (lv_at hl 1 rfl) ?_
  refine nv_if_lt K (by omega) d_P_peek_1 rfl ?_
  refine lv_iload_n K.1 K.2.1 d_P_peek_4 rfl (lv_at hl 1 rfl) ?_
  refine nv_sipush (v := 1024) K d_P_peek_5 (by decide) ?_
  refine nv_icmp_lt K (by omega) (by omega) d_P_peek_8 rfl (fun _ => ?_) (fun h => (by omega : False).elim)
  refine lv_aload_n K.1 K.2.1 d_P_peek_21 rfl (lv_at hl 0 rfl) ?_
  refine pg_memory K hw d_P_peek_22 ?_
  refine lv_iload_n K.1 K.2.1 d_P_peek_25 rfl (lv_at hl 1 rfl) ?_
  refine pki K (c_read (σ := σ) (x := x) l D cI a hO (by omega)) (cw_P_52 K (Nat.le_of_ble_eq_true rfl) (Nat.le_of_ble_eq_true rfl)) hw (va_recv (ci := 1) (q0 := 1) hw.2.2.2.1 hw.1 rfl rfl) rfl hl.1 rfl (Nat.le_of_ble_eq_true rfl) d_P_peek_26 ⟨Nat.zero_le _, Nat.zero_le _⟩ (fun H locs hw => ?_)
  have hb1 : z_rd σ x < 256 := z_rd_lt hO _
  exact pri K hr hlk hw (by rfl) (by rw [rd_in hx]) d_P_peek_29
set_option maxHeartbeats 4000000 in
set_option maxRecDepth 100000 in
theorem c_start {σ : z_St} {x : Nat} (l : Launch) (D : va_G) (cI : ClassId) (a : pAd) (hO : z_Ok σ) (hx : x < 65536) : pCv l y_P_start w_P_start 0 0 D cI a [.ref a.1, .int (nI x)] σ (z_s_ha (z_s_pc σ x) 0) := by
  refine pcv_of (cc := b_P_start) (maxL := 2) (ret := none) (by decide) rfl (Nat.le_of_ble_eq_true rfl) ?_
  intro p e s m below meth c ls K hr hlk hl hw
  have K : CallFix p m c b_P_start 2 s _ (_ :: T0) "PortProcessor" := K
  have hl : lv_has ls 2 [(0, .ref a.1), (1, .int (nI x))] := hl
  refine lv_iload_n K.1 K.2.1 d_P_start_0 rfl (lv_at hl 1 rfl) ?_
  refine nv_if_lt K (by omega) d_P_start_1 rfl ?_
  refine lv_iload_n K.1 K.2.1 d_P_start_4 rfl (lv_at hl 1 rfl) ?_
  refine nv_ldc (v := 65535) K d_P_start_5 (K.2.2.2.2 _ (List.mem_cons_of_mem _ m_constant_PortProcessor_56_65535)) ?_
  refine nv_icmp_le K (by omega) (by omega) d_P_start_7 rfl (fun _ => ?_) (fun h => (by omega : False).elim)
  refine lv_aload_n K.1 K.2.1 d_P_start_20 rfl (lv_at hl 0 rfl) ?_
  refine lv_iload_n K.1 K.2.1 d_P_start_21 rfl (lv_at hl 1 rfl) ?_
  refine pp_programCounter (v := x) K hw d_P_start_22 (fun H locs hw => ?_)
  have hO1 : z_Ok (z_s_pc σ x) := z_ok_pc hO (by omega)
  refine lv_aload_n K.1 K.2.1 d_P_start_25 rfl (lv_at hl 0 rfl) ?_
  refine nv_iconst (v := 0) K d_P_start_26 (by decide) ?_
  refine pp_halted (v := 0) K hw (by omega) d_P_start_27 (fun H locs hw => ?_)
  have hO2 : z_Ok (z_s_ha (z_s_pc σ x) 0) := z_ok_ha hO1 (by omega)
  exact prv K hr hlk hw (by rfl) d_P_start_30
set_option maxHeartbeats 4000000 in
set_option maxRecDepth 100000 in
theorem c_interrupt {σ : z_St} {x : Nat} (l : Launch) (D : va_G) (cI : ClassId) (a : pAd) (hO : z_Ok σ) (hx : x < 8) : pCv l y_P_interrupt w_P_interrupt 0 0 D cI a [.ref a.1, .int (nI x)] σ (z_s_wa σ (x + 1)) := by
  refine pcv_of (cc := b_P_interrupt) (maxL := 2) (ret := none) (by decide) rfl (Nat.le_of_ble_eq_true rfl) ?_
  intro p e s m below meth c ls K hr hlk hl hw
  have K : CallFix p m c b_P_interrupt 2 s _ (_ :: T0) "PortProcessor" := K
  have hl : lv_has ls 2 [(0, .ref a.1), (1, .int (nI x))] := hl
  refine lv_iload_n K.1 K.2.1 d_P_interrupt_0 rfl (lv_at hl 1 rfl) ?_
  refine nv_if_lt K (by omega) d_P_interrupt_1 rfl ?_
  refine lv_iload_n K.1 K.2.1 d_P_interrupt_4 rfl (lv_at hl 1 rfl) ?_
  refine nv_bipush (v := 7) K d_P_interrupt_5 (by decide) ?_
  refine nv_icmp_le K (by omega) (by omega) d_P_interrupt_7 rfl (fun _ => ?_) (fun h => (by omega : False).elim)
  refine lv_aload_n K.1 K.2.1 d_P_interrupt_20 rfl (lv_at hl 0 rfl) ?_
  refine lv_iload_n K.1 K.2.1 d_P_interrupt_21 rfl (lv_at hl 1 rfl) ?_
  refine pp_waitingInterrupt (v := x) K hw d_P_interrupt_22 (fun H locs hw => ?_)
  have hO1 : z_Ok (z_s_wa σ (x + 1)) := z_ok_wa hO (by omega)
  exact prv K hr hlk hw (by rfl) d_P_interrupt_25
set_option maxHeartbeats 4000000 in
set_option maxRecDepth 100000 in
theorem c_bring {σ : z_St} {x y : Nat} (l : Launch) (D : va_G) (cI : ClassId) (a : pAd) (hO : z_Ok σ) (hx : x < 256) (hy : y < 256) : pCv l y_P_bring w_P_bring 1 20 D cI a [.ref a.1, .int (nI x), .int (nI y)] σ (z_s_inn σ (z_fs (z_x_inn σ) x y)) := by
  refine pcv_of (cc := b_P_bring) (maxL := 3) (ret := none) (by decide) rfl (Nat.le_of_ble_eq_true rfl) ?_
  intro p e s m below meth c ls K hr hlk hl hw
  have K : CallFix p m c b_P_bring 3 s _ (_ :: T0) "PortProcessor" := K
  have hl : lv_has ls 3 [(0, .ref a.1), (1, .int (nI x)), (2, .int (nI y))] := hl
  refine lv_iload_n K.1 K.2.1 d_P_bring_0 rfl (lv_at hl 1 rfl) ?_
  refine psi K (c_isByte (σ := σ) (x := x) l D cI a hO (by omega)) (cw_P_74 K (Nat.le_of_ble_eq_true rfl) (Nat.le_of_ble_eq_true rfl)) hw rfl hl.1 rfl (Nat.le_of_ble_eq_true rfl) d_P_bring_1 ⟨Nat.zero_le _, Nat.zero_le _⟩ (fun H locs hw => ?_)
  refine nv_if_ne K (by omega) d_P_bring_4 rfl (fun _ => ?_) (fun h => (by omega : False).elim)
  refine lv_iload_n K.1 K.2.1 d_P_bring_17 rfl (lv_at hl 2 rfl) ?_
  refine psi K (c_isByte (σ := σ) (x := y) l D cI a hO (by omega)) (cw_P_74 K (Nat.le_of_ble_eq_true rfl) (Nat.le_of_ble_eq_true rfl)) hw rfl hl.1 rfl (Nat.le_of_ble_eq_true rfl) d_P_bring_18 ⟨Nat.zero_le _, Nat.zero_le _⟩ (fun H locs hw => ?_)
  refine nv_if_ne K (by omega) d_P_bring_21 rfl (fun _ => ?_) (fun h => (by omega : False).elim)
  refine lv_aload_n K.1 K.2.1 d_P_bring_34 rfl (lv_at hl 0 rfl) ?_
  refine pg_broughtIn K hw d_P_bring_35 ?_
  refine lv_iload_n K.1 K.2.1 d_P_bring_38 rfl (lv_at hl 1 rfl) ?_
  refine lv_iload_n K.1 K.2.1 d_P_bring_39 rfl (lv_at hl 2 rfl) ?_
  refine ps_inn (i := x) (v := y) K hw (by omega) d_P_bring_40 (fun H locs hw => ?_)
  have hO1 : z_Ok (z_s_inn σ (z_fs (z_x_inn σ) x y)) := z_ok_inn hO (z_fs_lt (z_k_inn hO) (by omega))
  exact prv K hr hlk hw (by rfl) d_P_bring_41
set_option maxHeartbeats 4000000 in
set_option maxRecDepth 100000 in
theorem c_out {σ : z_St} {x : Nat} (l : Launch) (D : va_G) (cI : ClassId) (a : pAd) (hO : z_Ok σ) (hx : x < 256) : pCi l y_P_out w_P_out 1 20 D cI a [.ref a.1, .int (nI x)] σ σ (nI (z_x_put σ x) - 1) := by
  refine pci_of (cc := b_P_out) (maxL := 2) (ret := (some .int)) (by decide) rfl (Nat.le_of_ble_eq_true rfl) ?_
  intro p e s m below meth c ls K hr hlk hl hw
  have K : CallFix p m c b_P_out 2 s _ (_ :: T0) "PortProcessor" := K
  have hl : lv_has ls 2 [(0, .ref a.1), (1, .int (nI x))] := hl
  refine lv_iload_n K.1 K.2.1 d_P_out_0 rfl (lv_at hl 1 rfl) ?_
  refine psi K (c_isByte (σ := σ) (x := x) l D cI a hO (by omega)) (cw_P_74 K (Nat.le_of_ble_eq_true rfl) (Nat.le_of_ble_eq_true rfl)) hw rfl hl.1 rfl (Nat.le_of_ble_eq_true rfl) d_P_out_1 ⟨Nat.zero_le _, Nat.zero_le _⟩ (fun H locs hw => ?_)
  refine nv_if_ne K (by omega) d_P_out_4 rfl (fun _ => ?_) (fun h => (by omega : False).elim)
  refine lv_aload_n K.1 K.2.1 d_P_out_17 rfl (lv_at hl 0 rfl) ?_
  refine pg_putOut K hw d_P_out_18 ?_
  refine lv_iload_n K.1 K.2.1 d_P_out_21 rfl (lv_at hl 1 rfl) ?_
  refine pl_put (i := x) (v := z_x_put σ x) K hw (by omega) rfl d_P_out_22 ?_
  have hb1 : z_x_put σ x < 257 := z_k_put hO _
  exact pri K hr hlk hw (by rfl) (by rfl) d_P_out_23
set_option maxHeartbeats 4000000 in
set_option maxRecDepth 100000 in
theorem c_states {σ : z_St} (l : Launch) (D : va_G) (cI : ClassId) (a : pAd) (hO : z_Ok σ) : pCl l y_P_states w_P_states 0 0 D cI a [.ref a.1] σ σ (lN (z_x_st σ)) := by
  refine pcl_of (cc := b_P_states) (maxL := 1) (ret := (some .long)) (by decide) rfl (Nat.le_of_ble_eq_true rfl) ?_
  intro p e s m below meth c ls K hr hlk hl hw
  have K : CallFix p m c b_P_states 1 s _ (_ :: T0) "PortProcessor" := K
  have hl : lv_has ls 1 [(0, .ref a.1)] := hl
  refine lv_aload_n K.1 K.2.1 d_P_states_0 rfl (lv_at hl 0 rfl) ?_
  refine pg_stateCount (v := z_x_st σ) K hw rfl d_P_states_1 ?_
  exact prl K hr hlk hw (by rfl) (by rfl) d_P_states_4

set_option maxHeartbeats 4000000 in
set_option maxRecDepth 100000 in
theorem c_exchangeHlWithStack {σ : z_St} (l : Launch) (D : va_G) (cI : ClassId) (a : pAd) (hO : z_Ok σ) : pCi l y_P_exchangeHlWithStack w_P_exchangeHlWithStack 1 22 D cI a [.ref a.1] σ (z_xs σ) (nI 18) := by
  refine pci_of (cc := b_P_exchangeHlWithStack) (maxL := 4) (ret := (some .int)) (by decide) rfl (Nat.le_of_ble_eq_true rfl) ?_
  intro p e s m below meth c ls K hr hlk hl hw
  have K : CallFix p m c b_P_exchangeHlWithStack 4 s _ (_ :: T0) "PortProcessor" := K
  have hl : lv_has ls 4 [(0, .ref a.1)] := hl
  refine lv_aload_n K.1 K.2.1 d_P_exchangeHlWithStack_0 rfl (lv_at hl 0 rfl) ?_
  refine pg_stackPointer (v := z_x_sp σ) K hw rfl d_P_exchangeHlWithStack_1 ?_
  have hb1 : z_x_sp σ < 65536 := z_k_sp hO
  refine nv_iconst (v := 1) K d_P_exchangeHlWithStack_4 (by decide) ?_
  refine nv_iadd K d_P_exchangeHlWithStack_5 ?_
  refine nv_ldc (v := 65535) K d_P_exchangeHlWithStack_6 (K.2.2.2.2 _ (List.mem_cons_of_mem _ m_constant_PortProcessor_56_65535)) ?_
  refine nv_mask (M := 65536) K 16 rfl rfl d_P_exchangeHlWithStack_8 ?_
  refine lv_istore_n (lv' := [(1, .int (nI (((z_x_sp σ) + 1) % 65536))), (0, .ref a.1)]) K.1 K.2.1 d_P_exchangeHlWithStack_9 rfl hl (by decide) rfl (fun ls hl => ?_)
  refine lv_aload_n K.1 K.2.1 d_P_exchangeHlWithStack_10 rfl (lv_at hl 1 rfl) ?_
  refine pg_memory K hw d_P_exchangeHlWithStack_11 ?_
  refine lv_aload_n K.1 K.2.1 d_P_exchangeHlWithStack_14 rfl (lv_at hl 1 rfl) ?_
  refine pg_stackPointer (v := z_x_sp σ) K hw rfl d_P_exchangeHlWithStack_15 ?_
  refine pki K (c_read (σ := σ) (x := z_x_sp σ) l D cI a hO (by omega)) (cw_P_52 K (Nat.le_of_ble_eq_true rfl) (Nat.le_of_ble_eq_true rfl)) hw (va_recv (ci := 1) (q0 := 1) hw.2.2.2.1 hw.1 rfl rfl) rfl hl.1 rfl (Nat.le_of_ble_eq_true rfl) d_P_exchangeHlWithStack_18 ⟨Nat.zero_le _, Nat.zero_le _⟩ (fun H locs hw => ?_)
  have hb2 : z_rd σ (z_x_sp σ) < 256 := z_rd_lt hO _
  refine lv_istore_n (lv' := [(2, .int (nI (z_rd σ (z_x_sp σ)))), (1, .int (nI (((z_x_sp σ) + 1) % 65536))), (0, .ref a.1)]) K.1 K.2.1 d_P_exchangeHlWithStack_21 rfl hl (by decide) rfl (fun ls hl => ?_)
  refine lv_aload_n K.1 K.2.1 d_P_exchangeHlWithStack_22 rfl (lv_at hl 2 rfl) ?_
  refine pg_memory K hw d_P_exchangeHlWithStack_23 ?_
  refine lv_iload_n K.1 K.2.1 d_P_exchangeHlWithStack_26 rfl (lv_at hl 1 rfl) ?_
  refine pki K (c_read (σ := σ) (x := ((z_x_sp σ) + 1) % 65536) l D cI a hO (by omega)) (cw_P_52 K (Nat.le_of_ble_eq_true rfl) (Nat.le_of_ble_eq_true rfl)) hw (va_recv (ci := 1) (q0 := 1) hw.2.2.2.1 hw.1 rfl rfl) rfl hl.1 rfl (Nat.le_of_ble_eq_true rfl) d_P_exchangeHlWithStack_27 ⟨Nat.zero_le _, Nat.zero_le _⟩ (fun H locs hw => ?_)
  have hb3 : z_rd σ (((z_x_sp σ) + 1) % 65536) < 256 := z_rd_lt hO _
  refine lv_istore_n (lv' := [(3, .int (nI (z_rd σ (((z_x_sp σ) + 1) % 65536)))), (2, .int (nI (z_rd σ (z_x_sp σ)))), (1, .int (nI (((z_x_sp σ) + 1) % 65536))), (0, .ref a.1)]) K.1 K.2.1 d_P_exchangeHlWithStack_30 rfl hl (by decide) rfl (fun ls hl => ?_)
  refine lv_aload_n K.1 K.2.1 d_P_exchangeHlWithStack_31 rfl (lv_at hl 3 rfl) ?_
  refine pg_memory K hw d_P_exchangeHlWithStack_32 ?_
  refine lv_aload_n K.1 K.2.1 d_P_exchangeHlWithStack_35 rfl (lv_at hl 3 rfl) ?_
  refine pg_stackPointer (v := z_x_sp σ) K hw rfl d_P_exchangeHlWithStack_36 ?_
  refine lv_aload_n K.1 K.2.1 d_P_exchangeHlWithStack_39 rfl (lv_at hl 3 rfl) ?_
  refine pg_registers K hw d_P_exchangeHlWithStack_40 ?_
  refine nv_iconst (v := 5) K d_P_exchangeHlWithStack_43 (by decide) ?_
  refine pl_reg (i := 5) (v := z_x_reg σ 5) K hw (by omega) rfl d_P_exchangeHlWithStack_44 ?_
  have hb4 : z_x_reg σ 5 < 256 := z_k_reg hO _
  refine pkv K (c_write (σ := σ) (x := z_x_sp σ) (v := z_x_reg σ 5) l D cI a hO (by omega) (by omega)) (cw_P_46 K (Nat.le_of_ble_eq_true rfl) (Nat.le_of_ble_eq_true rfl)) hw (va_recv (ci := 1) (q0 := 1) hw.2.2.2.1 hw.1 rfl rfl) rfl hl.1 rfl (Nat.le_of_ble_eq_true rfl) d_P_exchangeHlWithStack_45 ⟨Nat.zero_le _, Nat.zero_le _⟩ (fun H locs hw => ?_)
  have hO5 : z_Ok (z_wr σ (z_x_sp σ) (z_x_reg σ 5)) := z_ok_wr hO _ (by omega)
  refine lv_aload_n K.1 K.2.1 d_P_exchangeHlWithStack_48 rfl (lv_at hl 3 rfl) ?_
  refine pg_memory K hw d_P_exchangeHlWithStack_49 ?_
  refine lv_iload_n K.1 K.2.1 d_P_exchangeHlWithStack_52 rfl (lv_at hl 2 rfl) ?_
  refine lv_aload_n K.1 K.2.1 d_P_exchangeHlWithStack_53 rfl (lv_at hl 3 rfl) ?_
  refine pg_registers K hw d_P_exchangeHlWithStack_54 ?_
  refine nv_iconst (v := 4) K d_P_exchangeHlWithStack_57 (by decide) ?_
  refine pl_reg (i := 4) (v := z_x_reg σ 4) K hw (by omega) rfl d_P_exchangeHlWithStack_58 ?_
  have hb6 : z_x_reg σ 4 < 256 := z_k_reg hO _
  refine pkv K (c_write (σ := z_wr σ (z_x_sp σ) (z_x_reg σ 5)) (x := ((z_x_sp σ) + 1) % 65536) (v := z_x_reg σ 4) l D cI a hO5 (by omega) (by omega)) (cw_P_46 K (Nat.le_of_ble_eq_true rfl) (Nat.le_of_ble_eq_true rfl)) hw (va_recv (ci := 1) (q0 := 1) hw.2.2.2.1 hw.1 rfl rfl) rfl hl.1 rfl (Nat.le_of_ble_eq_true rfl) d_P_exchangeHlWithStack_59 ⟨Nat.zero_le _, Nat.zero_le _⟩ (fun H locs hw => ?_)
  have hO7 : z_Ok (z_wr (z_wr σ (z_x_sp σ) (z_x_reg σ 5)) (((z_x_sp σ) + 1) % 65536) (z_x_reg σ 4)) := z_ok_wr hO5 _ (by omega)
  refine lv_aload_n K.1 K.2.1 d_P_exchangeHlWithStack_62 rfl (lv_at hl 3 rfl) ?_
  refine pg_registers K hw d_P_exchangeHlWithStack_63 ?_
  refine nv_iconst (v := 5) K d_P_exchangeHlWithStack_66 (by decide) ?_
  refine lv_iload_n K.1 K.2.1 d_P_exchangeHlWithStack_67 rfl (lv_at hl 1 rfl) ?_
  refine ps_reg (i := 5) (v := z_rd σ (z_x_sp σ)) K hw (by omega) d_P_exchangeHlWithStack_68 (fun H locs hw => ?_)
  have hO8 : z_Ok (z_s_reg (z_wr (z_wr σ (z_x_sp σ) (z_x_reg σ 5)) (((z_x_sp σ) + 1) % 65536) (z_x_reg σ 4)) (z_fs (z_x_reg σ) 5 (z_rd σ (z_x_sp σ)))) := z_ok_reg hO7 (z_fs_lt (z_k_reg hO) (by omega))
  refine lv_aload_n K.1 K.2.1 d_P_exchangeHlWithStack_69 rfl (lv_at hl 3 rfl) ?_
  refine pg_registers K hw d_P_exchangeHlWithStack_70 ?_
  refine nv_iconst (v := 4) K d_P_exchangeHlWithStack_73 (by decide) ?_
  refine lv_iload_n K.1 K.2.1 d_P_exchangeHlWithStack_74 rfl (lv_at hl 0 rfl) ?_
  refine ps_reg (i := 4) (v := z_rd σ (((z_x_sp σ) + 1) % 65536)) K hw (by omega) d_P_exchangeHlWithStack_75 (fun H locs hw => ?_)
  have hO9 : z_Ok (z_s_reg (z_s_reg (z_wr (z_wr σ (z_x_sp σ) (z_x_reg σ 5)) (((z_x_sp σ) + 1) % 65536) (z_x_reg σ 4)) (z_fs (z_x_reg σ) 5 (z_rd σ (z_x_sp σ)))) (z_fs (z_fs (z_x_reg σ) 5 (z_rd σ (z_x_sp σ))) 4 (z_rd σ (((z_x_sp σ) + 1) % 65536)))) := z_ok_reg hO8 (z_fs_lt (z_k_reg hO8) (by omega))
  refine nv_bipush (v := 18) K d_P_exchangeHlWithStack_76 (by decide) ?_
  exact pri K hr hlk hw (by rw [ss_reg]; rfl) (by first | rfl | (simp [z_xs, z_wr]; done) | (congr 1; omega) | (simp [z_xs, z_wr]; omega)) d_P_exchangeHlWithStack_78
set_option maxHeartbeats 4000000 in
set_option maxRecDepth 100000 in
theorem c_exchangeHlWithDe {σ : z_St} (l : Launch) (D : va_G) (cI : ClassId) (a : pAd) (hO : z_Ok σ) : pCi l y_P_exchangeHlWithDe w_P_exchangeHlWithDe 1 22 D cI a [.ref a.1] σ (z_xd σ) (nI 4) := by
  refine pci_of (cc := b_P_exchangeHlWithDe) (maxL := 2) (ret := (some .int)) (by decide) rfl (Nat.le_of_ble_eq_true rfl) ?_
  intro p e s m below meth c ls K hr hlk hl hw
  have K : CallFix p m c b_P_exchangeHlWithDe 2 s _ (_ :: T0) "PortProcessor" := K
  have hl : lv_has ls 2 [(0, .ref a.1)] := hl
  refine lv_aload_n K.1 K.2.1 d_P_exchangeHlWithDe_0 rfl (lv_at hl 0 rfl) ?_
  refine nv_iconst (v := 2) K d_P_exchangeHlWithDe_1 (by decide) ?_
  refine pki K (c_readPair (σ := σ) (k := 2) l D cI a hO (by omega)) (cw_P_199 K (Nat.le_of_ble_eq_true rfl) (Nat.le_of_ble_eq_true rfl)) hw (va_recv (ci := 0) (q0 := 0) hw.2.2.2.1 hw.1 rfl rfl) rfl hl.1 rfl (Nat.le_of_ble_eq_true rfl) d_P_exchangeHlWithDe_2 ⟨Nat.zero_le _, Nat.zero_le _⟩ (fun H locs hw => ?_)
  have hb1 : z_pg σ 2 < 65536 := z_pg_lt hO _
  refine lv_istore_n (lv' := [(1, .int (nI (z_pg σ 2))), (0, .ref a.1)]) K.1 K.2.1 d_P_exchangeHlWithDe_5 rfl hl (by decide) rfl (fun ls hl => ?_)
  refine lv_aload_n K.1 K.2.1 d_P_exchangeHlWithDe_6 rfl (lv_at hl 1 rfl) ?_
  refine nv_iconst (v := 2) K d_P_exchangeHlWithDe_7 (by decide) ?_
  refine lv_aload_n K.1 K.2.1 d_P_exchangeHlWithDe_8 rfl (lv_at hl 1 rfl) ?_
  refine nv_iconst (v := 1) K d_P_exchangeHlWithDe_9 (by decide) ?_
  refine pki K (c_readPair (σ := σ) (k := 1) l D cI a hO (by omega)) (cw_P_199 K (Nat.le_of_ble_eq_true rfl) (Nat.le_of_ble_eq_true rfl)) hw (va_recv (ci := 0) (q0 := 0) hw.2.2.2.1 hw.1 rfl rfl) rfl hl.1 rfl (Nat.le_of_ble_eq_true rfl) d_P_exchangeHlWithDe_10 ⟨Nat.zero_le _, Nat.zero_le _⟩ (fun H locs hw => ?_)
  have hb2 : z_pg σ 1 < 65536 := z_pg_lt hO _
  refine pkv K (c_writePair (σ := σ) (k := 2) (v := z_pg σ 1) l D cI a hO (by omega) (by omega)) (cw_P_196 K (Nat.le_of_ble_eq_true rfl) (Nat.le_of_ble_eq_true rfl)) hw (va_recv (ci := 0) (q0 := 0) hw.2.2.2.1 hw.1 rfl rfl) rfl hl.1 rfl (Nat.le_of_ble_eq_true rfl) d_P_exchangeHlWithDe_13 ⟨Nat.zero_le _, Nat.zero_le _⟩ (fun H locs hw => ?_)
  have hO3 : z_Ok (z_ps σ 2 (z_pg σ 1)) := z_ok_ps hO _ (by omega)
  refine lv_aload_n K.1 K.2.1 d_P_exchangeHlWithDe_16 rfl (lv_at hl 1 rfl) ?_
  refine nv_iconst (v := 1) K d_P_exchangeHlWithDe_17 (by decide) ?_
  refine lv_iload_n K.1 K.2.1 d_P_exchangeHlWithDe_18 rfl (lv_at hl 0 rfl) ?_
  refine pkv K (c_writePair (σ := z_ps σ 2 (z_pg σ 1)) (k := 1) (v := z_pg σ 2) l D cI a hO3 (by omega) (by omega)) (cw_P_196 K (Nat.le_of_ble_eq_true rfl) (Nat.le_of_ble_eq_true rfl)) hw (va_recv (ci := 0) (q0 := 0) hw.2.2.2.1 hw.1 rfl rfl) rfl hl.1 rfl (Nat.le_of_ble_eq_true rfl) d_P_exchangeHlWithDe_19 ⟨Nat.zero_le _, Nat.zero_le _⟩ (fun H locs hw => ?_)
  have hO4 : z_Ok (z_ps (z_ps σ 2 (z_pg σ 1)) 1 (z_pg σ 2)) := z_ok_ps hO3 _ (by omega)
  refine nv_iconst (v := 4) K d_P_exchangeHlWithDe_22 (by decide) ?_
  exact pri K hr hlk hw (by first | rfl | (simp [z_xd]; done) | (simp only [z_xd]; rfl)) (by first | rfl | (simp [z_xd]; done) | (congr 1; omega) | (simp [z_xd]; omega)) d_P_exchangeHlWithDe_23

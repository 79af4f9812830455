set_option maxHeartbeats 4000000 in
set_option maxRecDepth 100000 in
theorem c_storeHl {σ : z_St} {x : Nat} (l : Launch) (D : va_G) (cI : ClassId) (a : pAd) (hO : z_Ok σ) (hx : x < 65536) : pCi l y_P_storeHl w_P_storeHl 1 22 D cI a [.ref a.1, .int (nI x)] σ (z_wr (z_wr σ x (z_x_reg σ 5)) ((x + 1) % 65536) (z_x_reg σ 4)) (nI 16) := by
  refine pci_of (cc := b_P_storeHl) (maxL := 2) (ret := (some .int)) (by decide) rfl (Nat.le_of_ble_eq_true rfl) ?_
  intro p e s m below meth c ls K hr hlk hl hw
  have K : CallFix p m c b_P_storeHl 2 s _ (_ :: T0) "PortProcessor" := K
  have hl : lv_has ls 2 [(0, .ref a.1), (1, .int (nI x))] := hl
  refine lv_aload_n K.1 K.2.1 d_P_storeHl_0 rfl (lv_at hl 0 rfl) ?_
  refine pg_memory K hw d_P_storeHl_1 ?_
  refine lv_iload_n K.1 K.2.1 d_P_storeHl_4 rfl (lv_at hl 1 rfl) ?_
  refine lv_aload_n K.1 K.2.1 d_P_storeHl_5 rfl (lv_at hl 0 rfl) ?_
  refine pg_registers K hw d_P_storeHl_6 ?_
  refine nv_iconst (v := 5) K d_P_storeHl_9 (by decide) ?_
  refine pl_reg (i := 5) (v := z_x_reg σ 5) K hw (by omega) rfl d_P_storeHl_10 ?_
  have hb1 : z_x_reg σ 5 < 256 := z_k_reg hO _
  refine pkv K (c_write (σ := σ) (x := x) (v := z_x_reg σ 5) l D cI a hO (by omega) (by omega)) (cw_P_46 K (Nat.le_of_ble_eq_true rfl) (Nat.le_of_ble_eq_true rfl)) hw (va_recv (ci := 1) (q0 := 1) hw.2.2.2.1 hw.1 rfl rfl) rfl hl.1 rfl (Nat.le_of_ble_eq_true rfl) d_P_storeHl_11 ⟨Nat.zero_le _, Nat.zero_le _⟩ (fun H locs hw => ?_)
  have hO2 : z_Ok (z_wr σ x (z_x_reg σ 5)) := z_ok_wr hO _ (by omega)
  refine lv_aload_n K.1 K.2.1 d_P_storeHl_14 rfl (lv_at hl 0 rfl) ?_
  refine pg_memory K hw d_P_storeHl_15 ?_
  refine lv_iload_n K.1 K.2.1 d_P_storeHl_18 rfl (lv_at hl 1 rfl) ?_
  refine nv_iconst (v := 1) K d_P_storeHl_19 (by decide) ?_
  refine nv_iadd K d_P_storeHl_20 ?_
  refine nv_ldc (v := 65535) K d_P_storeHl_21 (K.2.2.2.2 _ (List.mem_cons_of_mem _ m_constant_PortProcessor_56_65535)) ?_
  refine nv_mask (M := 65536) K 16 rfl rfl d_P_storeHl_23 ?_
  refine lv_aload_n K.1 K.2.1 d_P_storeHl_24 rfl (lv_at hl 0 rfl) ?_
  refine pg_registers K hw d_P_storeHl_25 ?_
  refine nv_iconst (v := 4) K d_P_storeHl_28 (by decide) ?_
  refine pl_reg (i := 4) (v := z_x_reg σ 4) K hw (by omega) rfl d_P_storeHl_29 ?_
  have hb3 : z_x_reg σ 4 < 256 := z_k_reg hO _
  refine pkv K (c_write (σ := z_wr σ x (z_x_reg σ 5)) (x := (x + 1) % 65536) (v := z_x_reg σ 4) l D cI a hO2 (by omega) (by omega)) (cw_P_46 K (Nat.le_of_ble_eq_true rfl) (Nat.le_of_ble_eq_true rfl)) hw (va_recv (ci := 1) (q0 := 1) hw.2.2.2.1 hw.1 rfl rfl) rfl hl.1 rfl (Nat.le_of_ble_eq_true rfl) d_P_storeHl_30 ⟨Nat.zero_le _, Nat.zero_le _⟩ (fun H locs hw => ?_)
  have hO4 : z_Ok (z_wr (z_wr σ x (z_x_reg σ 5)) ((x + 1) % 65536) (z_x_reg σ 4)) := z_ok_wr hO2 _ (by omega)
  refine nv_bipush (v := 16) K d_P_storeHl_33 (by decide) ?_
  exact pri K hr hlk hw (by first | rfl | (simp; done) | (skip; rfl)) (by first | rfl | (simp; done) | (congr 1; omega) | (simp; omega)) d_P_storeHl_35
set_option maxHeartbeats 4000000 in
set_option maxRecDepth 100000 in
theorem c_fetchHl {σ : z_St} {x : Nat} (l : Launch) (D : va_G) (cI : ClassId) (a : pAd) (hO : z_Ok σ) (hx : x < 65536) : pCi l y_P_fetchHl w_P_fetchHl 1 21 D cI a [.ref a.1, .int (nI x)] σ (z_s_reg σ (z_fs (z_fs (z_x_reg σ) 5 (z_rd σ x)) 4 (z_rd σ ((x + 1) % 65536)))) (nI 16) := by
  refine pci_of (cc := b_P_fetchHl) (maxL := 2) (ret := (some .int)) (by decide) rfl (Nat.le_of_ble_eq_true rfl) ?_
  intro p e s m below meth c ls K hr hlk hl hw
  have K : CallFix p m c b_P_fetchHl 2 s _ (_ :: T0) "PortProcessor" := K
  have hl : lv_has ls 2 [(0, .ref a.1), (1, .int (nI x))] := hl
  refine lv_aload_n K.1 K.2.1 d_P_fetchHl_0 rfl (lv_at hl 0 rfl) ?_
  refine pg_registers K hw d_P_fetchHl_1 ?_
  refine nv_iconst (v := 5) K d_P_fetchHl_4 (by decide) ?_
  refine lv_aload_n K.1 K.2.1 d_P_fetchHl_5 rfl (lv_at hl 0 rfl) ?_
  refine pg_memory K hw d_P_fetchHl_6 ?_
  refine lv_iload_n K.1 K.2.1 d_P_fetchHl_9 rfl (lv_at hl 1 rfl) ?_
  refine pki K (c_read (σ := σ) (x := x) l D cI a hO (by omega)) (cw_P_52 K (Nat.le_of_ble_eq_true rfl) (Nat.le_of_ble_eq_true rfl)) hw (va_recv (ci := 1) (q0 := 1) hw.2.2.2.1 hw.1 rfl rfl) rfl hl.1 rfl (Nat.le_of_ble_eq_true rfl) d_P_fetchHl_10 ⟨Nat.zero_le _, Nat.zero_le _⟩ (fun H locs hw => ?_)
  have hb1 : z_rd σ x < 256 := z_rd_lt hO _
  refine ps_reg (i := 5) (v := z_rd σ x) K hw (by omega) d_P_fetchHl_13 (fun H locs hw => ?_)
  have hO2 : z_Ok (z_s_reg σ (z_fs (z_x_reg σ) 5 (z_rd σ x))) := z_ok_reg hO (z_fs_lt (z_k_reg hO) (by omega))
  refine lv_aload_n K.1 K.2.1 d_P_fetchHl_14 rfl (lv_at hl 0 rfl) ?_
  refine pg_registers K hw d_P_fetchHl_15 ?_
  refine nv_iconst (v := 4) K d_P_fetchHl_18 (by decide) ?_
  refine lv_aload_n K.1 K.2.1 d_P_fetchHl_19 rfl (lv_at hl 0 rfl) ?_
  refine pg_memory K hw d_P_fetchHl_20 ?_
  refine lv_iload_n K.1 K.2.1 d_P_fetchHl_23 rfl (lv_at hl 1 rfl) ?_
  refine nv_iconst (v := 1) K d_P_fetchHl_24 (by decide) ?_
  refine nv_iadd K d_P_fetchHl_25 ?_
  refine nv_ldc (v := 65535) K d_P_fetchHl_26 (K.2.2.2.2 _ (List.mem_cons_of_mem _ m_constant_PortProcessor_56_65535)) ?_
  refine nv_mask (M := 65536) K 16 rfl rfl d_P_fetchHl_28 ?_
  refine pki K (c_read (σ := z_s_reg σ (z_fs (z_x_reg σ) 5 (z_rd σ x))) (x := (x + 1) % 65536) l D cI a hO2 (by omega)) (cw_P_52 K (Nat.le_of_ble_eq_true rfl) (Nat.le_of_ble_eq_true rfl)) hw (va_recv (ci := 1) (q0 := 1) hw.2.2.2.1 hw.1 rfl rfl) rfl hl.1 rfl (Nat.le_of_ble_eq_true rfl) d_P_fetchHl_29 ⟨Nat.zero_le _, Nat.zero_le _⟩ (fun H locs hw => ?_)
  refine nv_as K (y := nI (z_rd σ ((x + 1) % 65536))) rfl ?_
  have hb3 : z_rd σ ((x + 1) % 65536) < 256 := z_rd_lt hO2 _
  refine ps_reg (i := 4) (v := z_rd σ ((x + 1) % 65536)) K hw (by omega) d_P_fetchHl_32 (fun H locs hw => ?_)
  have hO4 : z_Ok (z_s_reg (z_s_reg σ (z_fs (z_x_reg σ) 5 (z_rd σ x))) (z_fs (z_fs (z_x_reg σ) 5 (z_rd σ x)) 4 (z_rd σ ((x + 1) % 65536)))) := z_ok_reg hO2 (z_fs_lt (z_k_reg hO2) (by omega))
  refine nv_bipush (v := 16) K d_P_fetchHl_33 (by decide) ?_
  exact pri K hr hlk hw (by rw [ss_reg]; rfl) (by first | rfl | (simp; done) | (congr 1; omega) | (simp; omega)) d_P_fetchHl_35

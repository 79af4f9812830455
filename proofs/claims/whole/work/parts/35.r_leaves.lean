set_option maxHeartbeats 4000000 in
set_option maxRecDepth 100000 in
theorem r_push {σ : z_St} {v : Nat} (l : Launch) (D : va_G) (cI : ClassId) (a : qAd) (hO : z_Ok σ) (hv : v < 65536) : qCv l y_R_push w_R_push 1 22 D cI a [.ref a.1, .int (nI v)] σ (z_pu σ v) := by
  refine qcv_of (cc := b_R_push) (maxL := 3) (ret := none) (by decide) rfl (Nat.le_of_ble_eq_true rfl) ?_
  intro p e s m below meth c ls K hr hlk hl hw
  have K : CallFix p m c b_R_push 3 s _ (_ :: T0) "PortProcessorModel" := K
  have hl : lv_has ls 3 [(0, .ref a.1), (1, .int (nI v))] := hl
  refine nv_iconst (v := 0) K d_R_push_0 (by decide) ?_
  refine lv_istore_n (lv' := [(2, .int (nI 0)), (0, .ref a.1), (1, .int (nI v))]) K.1 K.2.1 d_R_push_1 rfl hl (by decide) rfl (fun ls hl => ?_)
  refine lv_iload_n K.1 K.2.1 d_R_push_2 rfl (lv_at hl 0 rfl) ?_
  refine nv_iconst (v := 2) K d_R_push_3 (by decide) ?_
  refine nv_icmp_ge K (by omega) (by omega) d_R_push_4 rfl (fun h => (by omega : False).elim) (fun _ => ?_)
  refine lv_aload_n K.1 K.2.1 d_R_push_7 rfl (lv_at hl 1 rfl) ?_
  refine lv_aload_n K.1 K.2.1 d_R_push_8 rfl (lv_at hl 1 rfl) ?_
  refine qg_sp (v := z_x_sp σ) K hw rfl d_R_push_9 ?_
  have hb1 : z_x_sp σ < 65536 := z_k_sp hO
  refine nv_ldc (v := 65535) K d_R_push_12 (K.2.2.2.2 _ (List.mem_cons_of_mem _ m_constant_PortProcessorModel_44_65535)) ?_
  refine nv_iadd K d_R_push_14 ?_
  refine nv_ldc (v := 65536) K d_R_push_15 (K.2.2.2.2 _ (List.mem_cons_of_mem _ m_constant_PortProcessorModel_48_65536)) ?_
  refine nv_irem K (by omega) (by omega) (by omega) d_R_push_17 ?_
  refine qp_sp (v := ((z_x_sp σ) + 65535) % 65536) K hw d_R_push_18 (fun H locs hw => ?_)
  have hO2 : z_Ok (z_s_sp σ (((z_x_sp σ) + 65535) % 65536)) := z_ok_sp hO (by omega)
  refine lv_aload_n K.1 K.2.1 d_R_push_21 rfl (lv_at hl 1 rfl) ?_
  refine lv_aload_n K.1 K.2.1 d_R_push_22 rfl (lv_at hl 1 rfl) ?_
  refine qg_sp (v := ((z_x_sp σ) + 65535) % 65536) K hw rfl d_R_push_23 ?_
  have hb3 : ((z_x_sp σ) + 65535) % 65536 < 65536 := by omega
  refine lv_iload_n K.1 K.2.1 d_R_push_26 rfl (lv_at hl 0 rfl) ?_
  refine nv_if_ne K (by omega) d_R_push_27 rfl (fun h => (by omega : False).elim) (fun _ => ?_)
  refine lv_iload_n K.1 K.2.1 d_R_push_30 rfl (lv_at hl 2 rfl) ?_
  refine nv_sipush (v := 256) K d_R_push_31 (by decide) ?_
  refine nv_idiv K (by omega) (by omega) (by omega) d_R_push_34 ?_
  refine lv_goto K.1 K.2.1 d_R_push_35 rfl ?_
  refine qkv K (r_write (σ := z_s_sp σ (((z_x_sp σ) + 65535) % 65536)) (x := ((z_x_sp σ) + 65535) % 65536) (v := v / 256) l D cI a hO2 (by omega) (by omega)) (cw_R_37 K (Nat.le_of_ble_eq_true rfl) (Nat.le_of_ble_eq_true rfl)) hw (va_recv (ci := 3) (q0 := 0) hw.2.2.2.1 hw.1 rfl rfl) rfl hl.1 rfl (Nat.le_of_ble_eq_true rfl) d_R_push_43 ⟨Nat.zero_le _, Nat.zero_le _⟩ (fun H locs hw => ?_)
  have hO4 : z_Ok (z_wr (z_s_sp σ (((z_x_sp σ) + 65535) % 65536)) (((z_x_sp σ) + 65535) % 65536) (v / 256)) := z_ok_wr hO2 _ (by omega)
  refine lv_iinc (k := 0) (v := nI 1) (lv' := [(2, .int (nI 1)), (0, .ref a.1), (1, .int (nI v))]) K.1 K.2.1 d_R_push_46 hl rfl (nI_add _ _) (by decide) rfl (fun ls hl => ?_)
  refine lv_goto K.1 K.2.1 d_R_push_49 rfl ?_
  refine lv_iload_n K.1 K.2.1 d_R_push_2 rfl (lv_at hl 0 rfl) ?_
  refine nv_iconst (v := 2) K d_R_push_3 (by decide) ?_
  refine nv_icmp_ge K (by omega) (by omega) d_R_push_4 rfl (fun h => (by omega : False).elim) (fun _ => ?_)
  refine lv_aload_n K.1 K.2.1 d_R_push_7 rfl (lv_at hl 1 rfl) ?_
  refine lv_aload_n K.1 K.2.1 d_R_push_8 rfl (lv_at hl 1 rfl) ?_
  refine qg_sp (v := ((z_x_sp σ) + 65535) % 65536) K hw rfl d_R_push_9 ?_
  refine nv_ldc (v := 65535) K d_R_push_12 (K.2.2.2.2 _ (List.mem_cons_of_mem _ m_constant_PortProcessorModel_44_65535)) ?_
  refine nv_iadd K d_R_push_14 ?_
  refine nv_ldc (v := 65536) K d_R_push_15 (K.2.2.2.2 _ (List.mem_cons_of_mem _ m_constant_PortProcessorModel_48_65536)) ?_
  refine nv_irem K (by omega) (by omega) (by omega) d_R_push_17 ?_
  refine qp_sp (v := ((((z_x_sp σ) + 65535) % 65536) + 65535) % 65536) K hw d_R_push_18 (fun H locs hw => ?_)
  have hO5 : z_Ok (z_s_sp (z_wr (z_s_sp σ (((z_x_sp σ) + 65535) % 65536)) (((z_x_sp σ) + 65535) % 65536) (v / 256)) (((((z_x_sp σ) + 65535) % 65536) + 65535) % 65536)) := z_ok_sp hO4 (by omega)
  refine lv_aload_n K.1 K.2.1 d_R_push_21 rfl (lv_at hl 1 rfl) ?_
  refine lv_aload_n K.1 K.2.1 d_R_push_22 rfl (lv_at hl 1 rfl) ?_
  refine qg_sp (v := ((((z_x_sp σ) + 65535) % 65536) + 65535) % 65536) K hw rfl d_R_push_23 ?_
  have hb6 : ((((z_x_sp σ) + 65535) % 65536) + 65535) % 65536 < 65536 := by omega
  refine lv_iload_n K.1 K.2.1 d_R_push_26 rfl (lv_at hl 0 rfl) ?_
  refine nv_if_ne K (by omega) d_R_push_27 rfl (fun _ => ?_) (fun h => (by omega : False).elim)
  refine lv_iload_n K.1 K.2.1 d_R_push_38 rfl (lv_at hl 2 rfl) ?_
  refine nv_sipush (v := 256) K d_R_push_39 (by decide) ?_
  refine nv_irem K (by omega) (by omega) (by omega) d_R_push_42 ?_
  refine qkv K (r_write (σ := z_s_sp (z_wr (z_s_sp σ (((z_x_sp σ) + 65535) % 65536)) (((z_x_sp σ) + 65535) % 65536) (v / 256)) (((((z_x_sp σ) + 65535) % 65536) + 65535) % 65536)) (x := ((((z_x_sp σ) + 65535) % 65536) + 65535) % 65536) (v := v % 256) l D cI a hO5 (by omega) (by omega)) (cw_R_37 K (Nat.le_of_ble_eq_true rfl) (Nat.le_of_ble_eq_true rfl)) hw (va_recv (ci := 3) (q0 := 0) hw.2.2.2.1 hw.1 rfl rfl) rfl hl.1 rfl (Nat.le_of_ble_eq_true rfl) d_R_push_43 ⟨Nat.zero_le _, Nat.zero_le _⟩ (fun H locs hw => ?_)
  have hO7 : z_Ok (z_wr (z_s_sp (z_wr (z_s_sp σ (((z_x_sp σ) + 65535) % 65536)) (((z_x_sp σ) + 65535) % 65536) (v / 256)) (((((z_x_sp σ) + 65535) % 65536) + 65535) % 65536)) (((((z_x_sp σ) + 65535) % 65536) + 65535) % 65536) (v % 256)) := z_ok_wr hO5 _ (by omega)
  refine lv_iinc (k := 0) (v := nI 2) (lv' := [(2, .int (nI 2)), (0, .ref a.1), (1, .int (nI v))]) K.1 K.2.1 d_R_push_46 hl rfl (nI_add _ _) (by decide) rfl (fun ls hl => ?_)
  refine lv_goto K.1 K.2.1 d_R_push_49 rfl ?_
  refine lv_iload_n K.1 K.2.1 d_R_push_2 rfl (lv_at hl 0 rfl) ?_
  refine nv_iconst (v := 2) K d_R_push_3 (by decide) ?_
  refine nv_icmp_ge K (by omega) (by omega) d_R_push_4 rfl (fun _ => ?_) (fun h => (by omega : False).elim)
  exact qrv K hr hlk hw (by first | rfl | (simp; done) | (skip; rfl)) d_R_push_52
set_option maxHeartbeats 4000000 in
set_option maxRecDepth 100000 in
theorem r_pop {σ : z_St} (l : Launch) (D : va_G) (cI : ClassId) (a : qAd) (hO : z_Ok σ) : qCi l y_R_pop w_R_pop 1 21 D cI a [.ref a.1] σ (z_po σ) (nI (z_pv σ)) := by
  refine qci_of (cc := b_R_pop) (maxL := 3) (ret := (some .int)) (by decide) rfl (Nat.le_of_ble_eq_true rfl) ?_
  intro p e s m below meth c ls K hr hlk hl hw
  have K : CallFix p m c b_R_pop 3 s _ (_ :: T0) "PortProcessorModel" := K
  have hl : lv_has ls 3 [(0, .ref a.1)] := hl
  refine lv_aload_n K.1 K.2.1 d_R_pop_0 rfl (lv_at hl 0 rfl) ?_
  refine lv_aload_n K.1 K.2.1 d_R_pop_1 rfl (lv_at hl 0 rfl) ?_
  refine qg_sp (v := z_x_sp σ) K hw rfl d_R_pop_2 ?_
  have hb1 : z_x_sp σ < 65536 := z_k_sp hO
  refine qki K (r_read (σ := σ) (x := z_x_sp σ) l D cI a hO (by omega)) (cw_R_33 K (Nat.le_of_ble_eq_true rfl) (Nat.le_of_ble_eq_true rfl)) hw (va_recv (ci := 3) (q0 := 0) hw.2.2.2.1 hw.1 rfl rfl) rfl hl.1 rfl (Nat.le_of_ble_eq_true rfl) d_R_pop_5 ⟨Nat.zero_le _, Nat.zero_le _⟩ (fun H locs hw => ?_)
  have hb2 : z_rd σ (z_x_sp σ) < 256 := z_rd_lt hO _
  refine lv_istore_n (lv' := [(1, .int (nI (z_rd σ (z_x_sp σ)))), (0, .ref a.1)]) K.1 K.2.1 d_R_pop_8 rfl hl (by decide) rfl (fun ls hl => ?_)
  refine lv_aload_n K.1 K.2.1 d_R_pop_9 rfl (lv_at hl 1 rfl) ?_
  refine lv_aload_n K.1 K.2.1 d_R_pop_10 rfl (lv_at hl 1 rfl) ?_
  refine qg_sp (v := z_x_sp σ) K hw rfl d_R_pop_11 ?_
  refine nv_iconst (v := 1) K d_R_pop_14 (by decide) ?_
  refine nv_iadd K d_R_pop_15 ?_
  refine nv_ldc (v := 65536) K d_R_pop_16 (K.2.2.2.2 _ (List.mem_cons_of_mem _ m_constant_PortProcessorModel_48_65536)) ?_
  refine nv_irem K (by omega) (by omega) (by omega) d_R_pop_18 ?_
  refine qki K (r_read (σ := σ) (x := ((z_x_sp σ) + 1) % 65536) l D cI a hO (by omega)) (cw_R_33 K (Nat.le_of_ble_eq_true rfl) (Nat.le_of_ble_eq_true rfl)) hw (va_recv (ci := 3) (q0 := 0) hw.2.2.2.1 hw.1 rfl rfl) rfl hl.1 rfl (Nat.le_of_ble_eq_true rfl) d_R_pop_19 ⟨Nat.zero_le _, Nat.zero_le _⟩ (fun H locs hw => ?_)
  have hb3 : z_rd σ (((z_x_sp σ) + 1) % 65536) < 256 := z_rd_lt hO _
  refine lv_istore_n (lv' := [(2, .int (nI (z_rd σ (((z_x_sp σ) + 1) % 65536)))), (1, .int (nI (z_rd σ (z_x_sp σ)))), (0, .ref a.1)]) K.1 K.2.1 d_R_pop_22 rfl hl (by decide) rfl (fun ls hl => ?_)
  refine lv_aload_n K.1 K.2.1 d_R_pop_23 rfl (lv_at hl 2 rfl) ?_
  refine lv_aload_n K.1 K.2.1 d_R_pop_24 rfl (lv_at hl 2 rfl) ?_
  refine qg_sp (v := z_x_sp σ) K hw rfl d_R_pop_25 ?_
  refine nv_iconst (v := 2) K d_R_pop_28 (by decide) ?_
  refine nv_iadd K d_R_pop_29 ?_
  refine nv_ldc (v := 65536) K d_R_pop_30 (K.2.2.2.2 _ (List.mem_cons_of_mem _ m_constant_PortProcessorModel_48_65536)) ?_
  refine nv_irem K (by omega) (by omega) (by omega) d_R_pop_32 ?_
  refine qp_sp (v := ((z_x_sp σ) + 2) % 65536) K hw d_R_pop_33 (fun H locs hw => ?_)
  have hO4 : z_Ok (z_s_sp σ (((z_x_sp σ) + 2) % 65536)) := z_ok_sp hO (by omega)
  refine lv_iload_n K.1 K.2.1 d_R_pop_36 rfl (lv_at hl 1 rfl) ?_
  refine nv_sipush (v := 256) K d_R_pop_37 (by decide) ?_
  refine lv_iload_n K.1 K.2.1 d_R_pop_40 rfl (lv_at hl 0 rfl) ?_
  refine nv_imul K d_R_pop_41 ?_
  refine nv_iadd K d_R_pop_42 ?_
  exact qri K hr hlk hw (by first | rfl | (simp; done) | (skip; rfl)) (by rw [Nat.add_comm, Nat.mul_comm]; rfl) d_R_pop_43
set_option maxHeartbeats 4000000 in
set_option maxRecDepth 100000 in
theorem r_flags {σ : z_St} (l : Launch) (D : va_G) (cI : ClassId) (a : qAd) (hO : z_Ok σ) : qCi l y_R_flags w_R_flags 0 0 D cI a [.ref a.1] σ σ (nI (z_fb σ)) := by
  refine qci_of (cc := b_R_flags) (maxL := 1) (ret := (some .int)) (by decide) rfl (Nat.le_of_ble_eq_true rfl) ?_
  intro p e s m below meth c ls K hr hlk hl hw
  have K : CallFix p m c b_R_flags 1 s _ (_ :: T0) "PortProcessorModel" := K
  have hl : lv_has ls 1 [(0, .ref a.1)] := hl
  refine nv_sipush (v := 128) K d_R_flags_0 (by decide) ?_
  refine lv_aload_n K.1 K.2.1 d_R_flags_3 rfl (lv_at hl 0 rfl) ?_
  refine qg_s (v := z_x_sg σ) K hw rfl d_R_flags_4 ?_
  have hb1 : z_x_sg σ < 2 := z_k_sg hO
  refine nv_imul K d_R_flags_7 ?_
  refine nv_bipush (v := 64) K d_R_flags_8 (by decide) ?_
  refine lv_aload_n K.1 K.2.1 d_R_flags_10 rfl (lv_at hl 0 rfl) ?_
  refine qg_z (v := z_x_ze σ) K hw rfl d_R_flags_11 ?_
  have hb2 : z_x_ze σ < 2 := z_k_ze hO
  refine nv_imul K d_R_flags_14 ?_
  refine nv_iadd K d_R_flags_15 ?_
  refine nv_bipush (v := 16) K d_R_flags_16 (by decide) ?_
  refine lv_aload_n K.1 K.2.1 d_R_flags_18 rfl (lv_at hl 0 rfl) ?_
  refine qg_half (v := z_x_au σ) K hw rfl d_R_flags_19 ?_
  have hb3 : z_x_au σ < 2 := z_k_au hO
  refine nv_imul K d_R_flags_22 ?_
  refine nv_iadd K d_R_flags_23 ?_
  refine nv_iconst (v := 4) K d_R_flags_24 (by decide) ?_
  refine lv_aload_n K.1 K.2.1 d_R_flags_25 rfl (lv_at hl 0 rfl) ?_
  refine qg_p (v := z_x_pa σ) K hw rfl d_R_flags_26 ?_
  have hb4 : z_x_pa σ < 2 := z_k_pa hO
  refine nv_imul K d_R_flags_29 ?_
  refine nv_iadd K d_R_flags_30 ?_
  refine nv_iconst (v := 2) K d_R_flags_31 (by decide) ?_
  refine nv_iadd K d_R_flags_32 ?_
  refine lv_aload_n K.1 K.2.1 d_R_flags_33 rfl (lv_at hl 0 rfl) ?_
  refine qg_c (v := z_x_ca σ) K hw rfl d_R_flags_34 ?_
  have hb5 : z_x_ca σ < 2 := z_k_ca hO
  refine nv_iadd K d_R_flags_37 ?_
  exact qri K hr hlk hw (by first | rfl | (simp; done) | (skip; rfl)) (by first | rfl | (simp; done) | (congr 1; omega) | (simp; omega)) d_R_flags_38
set_option maxHeartbeats 4000000 in
set_option maxRecDepth 100000 in
theorem r_setFlags {σ : z_St} {v : Nat} (l : Launch) (D : va_G) (cI : ClassId) (a : qAd) (hO : z_Ok σ) (hv : v < 256) : qCv l y_R_setFlags w_R_setFlags 0 0 D cI a [.ref a.1, .int (nI v)] σ (z_ff σ v) := by
  refine qcv_of (cc := b_R_setFlags) (maxL := 2) (ret := none) (by decide) rfl (Nat.le_of_ble_eq_true rfl) ?_
  intro p e s m below meth c ls K hr hlk hl hw
  have K : CallFix p m c b_R_setFlags 2 s _ (_ :: T0) "PortProcessorModel" := K
  have hl : lv_has ls 2 [(0, .ref a.1), (1, .int (nI v))] := hl
  refine lv_aload_n K.1 K.2.1 d_R_setFlags_0 rfl (lv_at hl 0 rfl) ?_
  refine lv_iload_n K.1 K.2.1 d_R_setFlags_1 rfl (lv_at hl 1 rfl) ?_
  refine nv_sipush (v := 128) K d_R_setFlags_2 (by decide) ?_
  refine nv_idiv K (by omega) (by omega) (by omega) d_R_setFlags_5 ?_
  refine nv_iconst (v := 2) K d_R_setFlags_6 (by decide) ?_
  refine nv_irem K (by omega) (by omega) (by omega) d_R_setFlags_7 ?_
  refine qp_s (v := (v / 128) % 2) K hw d_R_setFlags_8 (fun H locs hw => ?_)
  have hO1 : z_Ok (z_s_sg σ ((v / 128) % 2)) := z_ok_sg hO (by omega)
  refine lv_aload_n K.1 K.2.1 d_R_setFlags_11 rfl (lv_at hl 0 rfl) ?_
  refine lv_iload_n K.1 K.2.1 d_R_setFlags_12 rfl (lv_at hl 1 rfl) ?_
  refine nv_bipush (v := 64) K d_R_setFlags_13 (by decide) ?_
  refine nv_idiv K (by omega) (by omega) (by omega) d_R_setFlags_15 ?_
  refine nv_iconst (v := 2) K d_R_setFlags_16 (by decide) ?_
  refine nv_irem K (by omega) (by omega) (by omega) d_R_setFlags_17 ?_
  refine qp_z (v := (v / 64) % 2) K hw d_R_setFlags_18 (fun H locs hw => ?_)
  have hO2 : z_Ok (z_s_ze (z_s_sg σ ((v / 128) % 2)) ((v / 64) % 2)) := z_ok_ze hO1 (by omega)
  refine lv_aload_n K.1 K.2.1 d_R_setFlags_21 rfl (lv_at hl 0 rfl) ?_
  refine lv_iload_n K.1 K.2.1 d_R_setFlags_22 rfl (lv_at hl 1 rfl) ?_
  refine nv_bipush (v := 16) K d_R_setFlags_23 (by decide) ?_
  refine nv_idiv K (by omega) (by omega) (by omega) d_R_setFlags_25 ?_
  refine nv_iconst (v := 2) K d_R_setFlags_26 (by decide) ?_
  refine nv_irem K (by omega) (by omega) (by omega) d_R_setFlags_27 ?_
  refine qp_half (v := (v / 16) % 2) K hw d_R_setFlags_28 (fun H locs hw => ?_)
  have hO3 : z_Ok (z_s_au (z_s_ze (z_s_sg σ ((v / 128) % 2)) ((v / 64) % 2)) ((v / 16) % 2)) := z_ok_au hO2 (by omega)
  refine lv_aload_n K.1 K.2.1 d_R_setFlags_31 rfl (lv_at hl 0 rfl) ?_
  refine lv_iload_n K.1 K.2.1 d_R_setFlags_32 rfl (lv_at hl 1 rfl) ?_
  refine nv_iconst (v := 4) K d_R_setFlags_33 (by decide) ?_
  refine nv_idiv K (by omega) (by omega) (by omega) d_R_setFlags_34 ?_
  refine nv_iconst (v := 2) K d_R_setFlags_35 (by decide) ?_
  refine nv_irem K (by omega) (by omega) (by omega) d_R_setFlags_36 ?_
  refine qp_p (v := (v / 4) % 2) K hw d_R_setFlags_37 (fun H locs hw => ?_)
  have hO4 : z_Ok (z_s_pa (z_s_au (z_s_ze (z_s_sg σ ((v / 128) % 2)) ((v / 64) % 2)) ((v / 16) % 2)) ((v / 4) % 2)) := z_ok_pa hO3 (by omega)
  refine lv_aload_n K.1 K.2.1 d_R_setFlags_40 rfl (lv_at hl 0 rfl) ?_
  refine lv_iload_n K.1 K.2.1 d_R_setFlags_41 rfl (lv_at hl 1 rfl) ?_
  refine nv_iconst (v := 2) K d_R_setFlags_42 (by decide) ?_
  refine nv_irem K (by omega) (by omega) (by omega) d_R_setFlags_43 ?_
  refine qp_c (v := v % 2) K hw d_R_setFlags_44 (fun H locs hw => ?_)
  have hO5 : z_Ok (z_s_ca (z_s_pa (z_s_au (z_s_ze (z_s_sg σ ((v / 128) % 2)) ((v / 64) % 2)) ((v / 16) % 2)) ((v / 4) % 2)) (v % 2)) := z_ok_ca hO4 (by omega)
  exact qrv K hr hlk hw (by first | rfl | (simp; done) | (skip; rfl)) d_R_setFlags_47
set_option maxHeartbeats 4000000 in
set_option maxRecDepth 100000 in
theorem r_holds {σ : z_St} {k : Nat} (l : Launch) (D : va_G) (cI : ClassId) (a : qAd) (hO : z_Ok σ) (hk : k < 8) : qCi l y_R_holds w_R_holds 0 0 D cI a [.ref a.1, .int (nI k)] σ σ (nI (z_hold σ k)) := by
  refine qci_of (cc := b_R_holds) (maxL := 3) (ret := (some .boolean)) (by decide) rfl (Nat.le_of_ble_eq_true rfl) ?_
  intro p e s m below meth c ls K hr hlk hl hw
  have K : CallFix p m c b_R_holds 3 s _ (_ :: T0) "PortProcessorModel" := K
  have hl : lv_has ls 3 [(0, .ref a.1), (1, .int (nI k))] := hl
  refine lv_iload_n K.1 K.2.1 d_R_holds_0 rfl (lv_at hl 1 rfl) ?_
  refine nv_iconst (v := 2) K d_R_holds_1 (by decide) ?_
  refine nv_icmp_ge K (by omega) (by omega) d_R_holds_2 rfl (fun h1 => ?_) (fun h1 => ?_)
  · refine lv_iload_n K.1 K.2.1 d_R_holds_12 rfl (lv_at hl 1 rfl) ?_
    refine nv_iconst (v := 4) K d_R_holds_13 (by decide) ?_
    refine nv_icmp_ge K (by omega) (by omega) d_R_holds_14 rfl (fun h2 => ?_) (fun h2 => ?_)
    · refine lv_iload_n K.1 K.2.1 d_R_holds_24 rfl (lv_at hl 1 rfl) ?_
      refine nv_bipush (v := 6) K d_R_holds_25 (by decide) ?_
      refine nv_icmp_ge K (by omega) (by omega) d_R_holds_27 rfl (fun h3 => ?_) (fun h3 => ?_)
      · refine lv_aload_n K.1 K.2.1 d_R_holds_37 rfl (lv_at hl 0 rfl) ?_
        refine qg_s (v := z_x_sg σ) K hw rfl d_R_holds_38 ?_
        have hb4 : z_x_sg σ < 2 := z_k_sg hO
        refine lv_istore_n (lv' := [(2, .int (nI (z_x_sg σ))), (0, .ref a.1), (1, .int (nI k))]) K.1 K.2.1 d_R_holds_41 rfl hl (by decide) rfl (fun ls hl => ?_)
        refine lv_iload_n K.1 K.2.1 d_R_holds_42 rfl (lv_at hl 0 rfl) ?_
        refine lv_iload_n K.1 K.2.1 d_R_holds_43 rfl (lv_at hl 2 rfl) ?_
        refine nv_iconst (v := 2) K d_R_holds_44 (by decide) ?_
        refine nv_irem K (by omega) (by omega) (by omega) d_R_holds_45 ?_
        refine nf_icmp_ne (u := 0) (v := 1) (Y := 54) K (by omega) (by omega) d_R_holds_46 rfl (fun _ k => nv_iconst (v := 0) K d_R_holds_53 (by decide) k) (fun _ k => nv_iconst (v := 1) K d_R_holds_49 (by decide) (lv_goto K.1 K.2.1 d_R_holds_50 rfl k)) ?_
        have hb5 : (if (z_x_sg σ) = (k % 2) then 1 else 0) < 2 := z_ite_ltB _ (by omega) (by omega)
        exact qrz K hr hlk hw (by first | rfl | (simp [h1, h2, h3]; done) | (simp only [h1, h2, h3]; rfl)) (by omega) (by first | (unfold z_hold z_fo; rw [if_pos (by omega : k / 2 = 0)]; done) | (unfold z_hold z_fo; rw [if_neg (by omega : ¬ k / 2 = 0), if_pos (by omega : k / 2 = 1)]; done) | (unfold z_hold z_fo; rw [if_neg (by omega : ¬ k / 2 = 0), if_neg (by omega : ¬ k / 2 = 1), if_pos (by omega : k / 2 = 2)]; done) | (unfold z_hold z_fo; rw [if_neg (by omega : ¬ k / 2 = 0), if_neg (by omega : ¬ k / 2 = 1), if_neg (by omega : ¬ k / 2 = 2)]; done)) d_R_holds_54
      · refine lv_aload_n K.1 K.2.1 d_R_holds_30 rfl (lv_at hl 0 rfl) ?_
        refine qg_p (v := z_x_pa σ) K hw rfl d_R_holds_31 ?_
        have hb6 : z_x_pa σ < 2 := z_k_pa hO
        refine lv_goto K.1 K.2.1 d_R_holds_34 rfl ?_
        refine lv_istore_n (lv' := [(2, .int (nI (z_x_pa σ))), (0, .ref a.1), (1, .int (nI k))]) K.1 K.2.1 d_R_holds_41 rfl hl (by decide) rfl (fun ls hl => ?_)
        refine lv_iload_n K.1 K.2.1 d_R_holds_42 rfl (lv_at hl 0 rfl) ?_
        refine lv_iload_n K.1 K.2.1 d_R_holds_43 rfl (lv_at hl 2 rfl) ?_
        refine nv_iconst (v := 2) K d_R_holds_44 (by decide) ?_
        refine nv_irem K (by omega) (by omega) (by omega) d_R_holds_45 ?_
        refine nf_icmp_ne (u := 0) (v := 1) (Y := 54) K (by omega) (by omega) d_R_holds_46 rfl (fun _ k => nv_iconst (v := 0) K d_R_holds_53 (by decide) k) (fun _ k => nv_iconst (v := 1) K d_R_holds_49 (by decide) (lv_goto K.1 K.2.1 d_R_holds_50 rfl k)) ?_
        have hb7 : (if (z_x_pa σ) = (k % 2) then 1 else 0) < 2 := z_ite_ltB _ (by omega) (by omega)
        exact qrz K hr hlk hw (by first | rfl | (simp [h1, h2, h3]; done) | (simp only [h1, h2, h3]; rfl)) (by omega) (by first | (unfold z_hold z_fo; rw [if_pos (by omega : k / 2 = 0)]; done) | (unfold z_hold z_fo; rw [if_neg (by omega : ¬ k / 2 = 0), if_pos (by omega : k / 2 = 1)]; done) | (unfold z_hold z_fo; rw [if_neg (by omega : ¬ k / 2 = 0), if_neg (by omega : ¬ k / 2 = 1), if_pos (by omega : k / 2 = 2)]; done) | (unfold z_hold z_fo; rw [if_neg (by omega : ¬ k / 2 = 0), if_neg (by omega : ¬ k / 2 = 1), if_neg (by omega : ¬ k / 2 = 2)]; done)) d_R_holds_54
    · refine lv_aload_n K.1 K.2.1 d_R_holds_17 rfl (lv_at hl 0 rfl) ?_
      refine qg_c (v := z_x_ca σ) K hw rfl d_R_holds_18 ?_
      have hb8 : z_x_ca σ < 2 := z_k_ca hO
      refine lv_goto K.1 K.2.1 d_R_holds_21 rfl ?_
      refine lv_istore_n (lv' := [(2, .int (nI (z_x_ca σ))), (0, .ref a.1), (1, .int (nI k))]) K.1 K.2.1 d_R_holds_41 rfl hl (by decide) rfl (fun ls hl => ?_)
      refine lv_iload_n K.1 K.2.1 d_R_holds_42 rfl (lv_at hl 0 rfl) ?_
      refine lv_iload_n K.1 K.2.1 d_R_holds_43 rfl (lv_at hl 2 rfl) ?_
      refine nv_iconst (v := 2) K d_R_holds_44 (by decide) ?_
      refine nv_irem K (by omega) (by omega) (by omega) d_R_holds_45 ?_
      refine nf_icmp_ne (u := 0) (v := 1) (Y := 54) K (by omega) (by omega) d_R_holds_46 rfl (fun _ k => nv_iconst (v := 0) K d_R_holds_53 (by decide) k) (fun _ k => nv_iconst (v := 1) K d_R_holds_49 (by decide) (lv_goto K.1 K.2.1 d_R_holds_50 rfl k)) ?_
      have hb9 : (if (z_x_ca σ) = (k % 2) then 1 else 0) < 2 := z_ite_ltB _ (by omega) (by omega)
      exact qrz K hr hlk hw (by first | rfl | (simp [h1, h2]; done) | (simp only [h1, h2]; rfl)) (by omega) (by first | (unfold z_hold z_fo; rw [if_pos (by omega : k / 2 = 0)]; done) | (unfold z_hold z_fo; rw [if_neg (by omega : ¬ k / 2 = 0), if_pos (by omega : k / 2 = 1)]; done) | (unfold z_hold z_fo; rw [if_neg (by omega : ¬ k / 2 = 0), if_neg (by omega : ¬ k / 2 = 1), if_pos (by omega : k / 2 = 2)]; done) | (unfold z_hold z_fo; rw [if_neg (by omega : ¬ k / 2 = 0), if_neg (by omega : ¬ k / 2 = 1), if_neg (by omega : ¬ k / 2 = 2)]; done)) d_R_holds_54
  · refine lv_aload_n K.1 K.2.1 d_R_holds_5 rfl (lv_at hl 0 rfl) ?_
    refine qg_z (v := z_x_ze σ) K hw rfl d_R_holds_6 ?_
    have hb10 : z_x_ze σ < 2 := z_k_ze hO
    refine lv_goto K.1 K.2.1 d_R_holds_9 rfl ?_
    refine lv_istore_n (lv' := [(2, .int (nI (z_x_ze σ))), (0, .ref a.1), (1, .int (nI k))]) K.1 K.2.1 d_R_holds_41 rfl hl (by decide) rfl (fun ls hl => ?_)
    refine lv_iload_n K.1 K.2.1 d_R_holds_42 rfl (lv_at hl 0 rfl) ?_
    refine lv_iload_n K.1 K.2.1 d_R_holds_43 rfl (lv_at hl 2 rfl) ?_
    refine nv_iconst (v := 2) K d_R_holds_44 (by decide) ?_
    refine nv_irem K (by omega) (by omega) (by omega) d_R_holds_45 ?_
    refine nf_icmp_ne (u := 0) (v := 1) (Y := 54) K (by omega) (by omega) d_R_holds_46 rfl (fun _ k => nv_iconst (v := 0) K d_R_holds_53 (by decide) k) (fun _ k => nv_iconst (v := 1) K d_R_holds_49 (by decide) (lv_goto K.1 K.2.1 d_R_holds_50 rfl k)) ?_
    have hb11 : (if (z_x_ze σ) = (k % 2) then 1 else 0) < 2 := z_ite_ltB _ (by omega) (by omega)
    exact qrz K hr hlk hw (by first | rfl | (simp [h1]; done) | (simp only [h1]; rfl)) (by omega) (by first | (unfold z_hold z_fo; rw [if_pos (by omega : k / 2 = 0)]; done) | (unfold z_hold z_fo; rw [if_neg (by omega : ¬ k / 2 = 0), if_pos (by omega : k / 2 = 1)]; done) | (unfold z_hold z_fo; rw [if_neg (by omega : ¬ k / 2 = 0), if_neg (by omega : ¬ k / 2 = 1), if_pos (by omega : k / 2 = 2)]; done) | (unfold z_hold z_fo; rw [if_neg (by omega : ¬ k / 2 = 0), if_neg (by omega : ¬ k / 2 = 1), if_neg (by omega : ¬ k / 2 = 2)]; done)) d_R_holds_54

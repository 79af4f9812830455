set_option maxHeartbeats 4000000 in
set_option maxRecDepth 100000 in
theorem r_read {σ : z_St} {x : Nat} (l : Launch) (D : va_G) (cI : ClassId) (a : qAd) (hO : z_Ok σ) (hx : x < 65536) : qCi l y_R_read w_R_read 0 0 D cI a [.ref a.1, .int (nI x)] σ σ (nI (z_rd σ x)) := by
  refine qci_of (cc := b_R_read) (maxL := 2) (ret := (some .int)) (by decide) rfl (Nat.le_of_ble_eq_true rfl) ?_
  intro p e s m below meth c ls K hr hlk hl hw
  have K : CallFix p m c b_R_read 2 s _ (_ :: T0) "PortProcessorModel" := K
  have hl : lv_has ls 2 [(0, .ref a.1), (1, .int (nI x))] := hl
  refine lv_iload_n K.1 K.2.1 d_R_read_0 rfl (lv_at hl 1 rfl) ?_
  refine nv_sipush (v := 1024) K d_R_read_1 (by decide) ?_
  have hb1 : z_x_mem σ x < 256 := z_k_mem hO _
  refine nf_icmp_ge (u := 255) (v := z_x_mem σ x) (Y := 19) K (by omega) (by omega) d_R_read_4 rfl (fun _ k => nv_sipush (v := 255) K d_R_read_16 (by decide) k) (fun _ k => lv_aload_n K.1 K.2.1 d_R_read_7 rfl (lv_at hl 0 rfl) (qg_memory K hw d_R_read_8 (lv_iload_n K.1 K.2.1 d_R_read_11 rfl (lv_at hl 1 rfl) (ql_mem (i := x) (v := z_x_mem σ x) K hw (by omega) rfl d_R_read_12 (lv_goto K.1 K.2.1 d_R_read_13 rfl k))))) ?_
  have hb2 : (if 1024 ≤ x then 255 else z_x_mem σ x) < 256 := z_ite_ltB _ (by omega) (by omega)
  exact qri K hr hlk hw (by first | rfl | (simp; done) | (skip; rfl)) (by unfold z_rd; split <;> split <;> first | rfl | omega) d_R_read_19
set_option maxHeartbeats 4000000 in
set_option maxRecDepth 100000 in
theorem r_write {σ : z_St} {x v : Nat} (l : Launch) (D : va_G) (cI : ClassId) (a : qAd) (hO : z_Ok σ) (hx : x < 65536) (hv : v < 256) : qCv l y_R_write w_R_write 0 0 D cI a [.ref a.1, .int (nI x), .int (nI v)] σ (z_wr σ x v) := by
  refine qcv_of (cc := b_R_write) (maxL := 3) (ret := none) (by decide) rfl (Nat.le_of_ble_eq_true rfl) ?_
  intro p e s m below meth c ls K hr hlk hl hw
  have K : CallFix p m c b_R_write 3 s _ (_ :: T0) "PortProcessorModel" := K
  have hl : lv_has ls 3 [(0, .ref a.1), (1, .int (nI x)), (2, .int (nI v))] := hl
  refine lv_iload_n K.1 K.2.1 d_R_write_0 rfl (lv_at hl 1 rfl) ?_
  refine nv_sipush (v := 1024) K d_R_write_1 (by decide) ?_
  refine nv_icmp_ge K (by omega) (by omega) d_R_write_4 rfl (fun h1 => ?_) (fun h1 => ?_)
  · exact qrv K hr hlk hw (by first | (unfold z_wr z_fw; rw [if_pos (by omega), Nat.mod_eq_of_lt hv]; done) | (unfold z_wr z_fw; rw [if_neg (by omega)]; rfl)) d_R_write_18
  · refine lv_aload_n K.1 K.2.1 d_R_write_7 rfl (lv_at hl 0 rfl) ?_
    refine qg_memory K hw d_R_write_8 ?_
    refine lv_iload_n K.1 K.2.1 d_R_write_11 rfl (lv_at hl 1 rfl) ?_
    refine lv_iload_n K.1 K.2.1 d_R_write_12 rfl (lv_at hl 2 rfl) ?_
    refine nv_sipush (v := 256) K d_R_write_13 (by decide) ?_
    refine nv_irem K (by omega) (by omega) (by omega) d_R_write_16 ?_
    refine qs_mem (i := x) (v := v % 256) K hw (by omega) d_R_write_17 (fun H locs hw => ?_)
    have hO2 : z_Ok (z_s_mem σ (z_fs (z_x_mem σ) x (v % 256))) := z_ok_mem hO (z_fs_lt (z_k_mem hO) (by omega))
    exact qrv K hr hlk hw (by first | (unfold z_wr z_fw; rw [if_pos (by omega), Nat.mod_eq_of_lt hv]; done) | (unfold z_wr z_fw; rw [if_neg (by omega)]; rfl)) d_R_write_18
set_option maxHeartbeats 4000000 in
set_option maxRecDepth 100000 in
theorem r_hl {σ : z_St} (l : Launch) (D : va_G) (cI : ClassId) (a : qAd) (hO : z_Ok σ) : qCi l y_R_hl w_R_hl 0 0 D cI a [.ref a.1] σ σ (nI (z_pg σ 2)) := by
  refine qci_of (cc := b_R_hl) (maxL := 1) (ret := (some .int)) (by decide) rfl (Nat.le_of_ble_eq_true rfl) ?_
  intro p e s m below meth c ls K hr hlk hl hw
  have K : CallFix p m c b_R_hl 1 s _ (_ :: T0) "PortProcessorModel" := K
  have hl : lv_has ls 1 [(0, .ref a.1)] := hl
  refine nv_sipush (v := 256) K d_R_hl_0 (by decide) ?_
  refine lv_aload_n K.1 K.2.1 d_R_hl_3 rfl (lv_at hl 0 rfl) ?_
  refine qg_reg K hw d_R_hl_4 ?_
  refine nv_iconst (v := 4) K d_R_hl_7 (by decide) ?_
  refine ql_reg (i := 4) (v := z_x_reg σ 4) K hw (by omega) rfl d_R_hl_8 ?_
  have hb1 : z_x_reg σ 4 < 256 := z_k_reg hO _
  refine nv_imul K d_R_hl_9 ?_
  refine lv_aload_n K.1 K.2.1 d_R_hl_10 rfl (lv_at hl 0 rfl) ?_
  refine qg_reg K hw d_R_hl_11 ?_
  refine nv_iconst (v := 5) K d_R_hl_14 (by decide) ?_
  refine ql_reg (i := 5) (v := z_x_reg σ 5) K hw (by omega) rfl d_R_hl_15 ?_
  have hb2 : z_x_reg σ 5 < 256 := z_k_reg hO _
  refine nv_iadd K d_R_hl_16 ?_
  exact qri K hr hlk hw (by first | rfl | (simp; done) | (skip; rfl)) (by rw [Nat.mul_comm]; rfl) d_R_hl_17
set_option maxHeartbeats 4000000 in
set_option maxRecDepth 100000 in
theorem r_get {σ : z_St} {r : Nat} (l : Launch) (D : va_G) (cI : ClassId) (a : qAd) (hO : z_Ok σ) (hr8 : r < 8) : qCi l y_R_get w_R_get 1 21 D cI a [.ref a.1, .int (nI r)] σ σ (nI (z_rg σ r)) := by
  refine qci_of (cc := b_R_get) (maxL := 2) (ret := (some .int)) (by decide) rfl (Nat.le_of_ble_eq_true rfl) ?_
  intro p e s m below meth c ls K hr hlk hl hw
  have K : CallFix p m c b_R_get 2 s _ (_ :: T0) "PortProcessorModel" := K
  have hl : lv_has ls 2 [(0, .ref a.1), (1, .int (nI r))] := hl
  refine lv_iload_n K.1 K.2.1 d_R_get_0 rfl (lv_at hl 1 rfl) ?_
  refine nv_bipush (v := 6) K d_R_get_1 (by decide) ?_
  refine nv_icmp_ne K (by omega) (by omega) d_R_get_3 rfl (fun h1 => ?_) (fun h1 => ?_)
  · refine lv_aload_n K.1 K.2.1 d_R_get_17 rfl (lv_at hl 0 rfl) ?_
    refine qg_reg K hw d_R_get_18 ?_
    refine lv_iload_n K.1 K.2.1 d_R_get_21 rfl (lv_at hl 1 rfl) ?_
    refine ql_reg (i := r) (v := z_x_reg σ r) K hw (by omega) rfl d_R_get_22 ?_
    have hb2 : z_x_reg σ r < 256 := z_k_reg hO _
    exact qri K hr hlk hw (by first | rfl | (simp [h1]; done) | (simp only [h1]; rfl)) (by first | (unfold z_rg; rw [if_pos (by omega)]; done) | (unfold z_rg; rw [if_neg (by omega)]; done)) d_R_get_23
  · refine lv_aload_n K.1 K.2.1 d_R_get_6 rfl (lv_at hl 0 rfl) ?_
    refine lv_aload_n K.1 K.2.1 d_R_get_7 rfl (lv_at hl 0 rfl) ?_
    refine qki K (r_hl (σ := σ) l D cI a hO) (cw_R_29 K (Nat.le_of_ble_eq_true rfl) (Nat.le_of_ble_eq_true rfl)) hw (va_recv (ci := 3) (q0 := 0) hw.2.2.2.1 hw.1 rfl rfl) rfl hl.1 rfl (Nat.le_of_ble_eq_true rfl) d_R_get_8 ⟨Nat.zero_le _, Nat.zero_le _⟩ (fun H locs hw => ?_)
    have hb3 : z_pg σ 2 < 65536 := z_pg_lt hO _
    refine qki K (r_read (σ := σ) (x := z_pg σ 2) l D cI a hO (by omega)) (cw_R_33 K (Nat.le_of_ble_eq_true rfl) (Nat.le_of_ble_eq_true rfl)) hw (va_recv (ci := 3) (q0 := 0) hw.2.2.2.1 hw.1 rfl rfl) rfl hl.1 rfl (Nat.le_of_ble_eq_true rfl) d_R_get_11 ⟨Nat.zero_le _, Nat.zero_le _⟩ (fun H locs hw => ?_)
    have hb4 : z_rd σ (z_pg σ 2) < 256 := z_rd_lt hO _
    refine lv_goto K.1 K.2.1 d_R_get_14 rfl ?_
    exact qri K hr hlk hw (by first | rfl | (simp [h1]; done) | (simp only [h1]; rfl)) (by first | (unfold z_rg; rw [if_pos (by omega)]; done) | (unfold z_rg; rw [if_neg (by omega)]; done)) d_R_get_23
set_option maxHeartbeats 4000000 in
set_option maxRecDepth 100000 in
theorem r_set8 {σ : z_St} {r v : Nat} (l : Launch) (D : va_G) (cI : ClassId) (a : qAd) (hO : z_Ok σ) (hr8 : r < 8) (hv : v < 256) : qCv l y_R_set8 w_R_set8 1 22 D cI a [.ref a.1, .int (nI r), .int (nI v)] σ (z_rs σ r v) := by
  refine qcv_of (cc := b_R_set8) (maxL := 3) (ret := none) (by decide) rfl (Nat.le_of_ble_eq_true rfl) ?_
  intro p e s m below meth c ls K hr hlk hl hw
  have K : CallFix p m c b_R_set8 3 s _ (_ :: T0) "PortProcessorModel" := K
  have hl : lv_has ls 3 [(0, .ref a.1), (1, .int (nI r)), (2, .int (nI v))] := hl
  refine lv_iload_n K.1 K.2.1 d_R_set8_0 rfl (lv_at hl 1 rfl) ?_
  refine nv_bipush (v := 6) K d_R_set8_1 (by decide) ?_
  refine nv_icmp_ne K (by omega) (by omega) d_R_set8_3 rfl (fun h1 => ?_) (fun h1 => ?_)
  · refine lv_aload_n K.1 K.2.1 d_R_set8_18 rfl (lv_at hl 0 rfl) ?_
    refine qg_reg K hw d_R_set8_19 ?_
    refine lv_iload_n K.1 K.2.1 d_R_set8_22 rfl (lv_at hl 1 rfl) ?_
    refine lv_iload_n K.1 K.2.1 d_R_set8_23 rfl (lv_at hl 2 rfl) ?_
    refine qs_reg (i := r) (v := v) K hw (by omega) d_R_set8_24 (fun H locs hw => ?_)
    have hO2 : z_Ok (z_s_reg σ (z_fs (z_x_reg σ) r v)) := z_ok_reg hO (z_fs_lt (z_k_reg hO) (by omega))
    exact qrv K hr hlk hw (by first | (unfold z_rs; rw [if_pos (by omega), if_pos (by omega)]; rfl) | (unfold z_rs; rw [if_neg (by omega), if_neg (by omega)]; rfl)) d_R_set8_25
  · refine lv_aload_n K.1 K.2.1 d_R_set8_6 rfl (lv_at hl 0 rfl) ?_
    refine lv_aload_n K.1 K.2.1 d_R_set8_7 rfl (lv_at hl 0 rfl) ?_
    refine qki K (r_hl (σ := σ) l D cI a hO) (cw_R_29 K (Nat.le_of_ble_eq_true rfl) (Nat.le_of_ble_eq_true rfl)) hw (va_recv (ci := 3) (q0 := 0) hw.2.2.2.1 hw.1 rfl rfl) rfl hl.1 rfl (Nat.le_of_ble_eq_true rfl) d_R_set8_8 ⟨Nat.zero_le _, Nat.zero_le _⟩ (fun H locs hw => ?_)
    have hb3 : z_pg σ 2 < 65536 := z_pg_lt hO _
    refine lv_iload_n K.1 K.2.1 d_R_set8_11 rfl (lv_at hl 2 rfl) ?_
    refine qkv K (r_write (σ := σ) (x := z_pg σ 2) (v := v) l D cI a hO (by omega) (by omega)) (cw_R_37 K (Nat.le_of_ble_eq_true rfl) (Nat.le_of_ble_eq_true rfl)) hw (va_recv (ci := 3) (q0 := 0) hw.2.2.2.1 hw.1 rfl rfl) rfl hl.1 rfl (Nat.le_of_ble_eq_true rfl) d_R_set8_12 ⟨Nat.zero_le _, Nat.zero_le _⟩ (fun H locs hw => ?_)
    have hO4 : z_Ok (z_wr σ (z_pg σ 2) v) := z_ok_wr hO _ (by omega)
    refine lv_goto K.1 K.2.1 d_R_set8_15 rfl ?_
    exact qrv K hr hlk hw (by first | (unfold z_rs; rw [if_pos (by omega), if_pos (by omega)]; rfl) | (unfold z_rs; rw [if_neg (by omega), if_neg (by omega)]; rfl)) d_R_set8_25
set_option maxHeartbeats 4000000 in
set_option maxRecDepth 100000 in
theorem r_pair {σ : z_St} {k : Nat} (l : Launch) (D : va_G) (cI : ClassId) (a : qAd) (hO : z_Ok σ) (hk : k < 4) : qCi l y_R_pair w_R_pair 0 0 D cI a [.ref a.1, .int (nI k)] σ σ (nI (z_pg σ k)) := by
  refine qci_of (cc := b_R_pair) (maxL := 2) (ret := (some .int)) (by decide) rfl (Nat.le_of_ble_eq_true rfl) ?_
  intro p e s m below meth c ls K hr hlk hl hw
  have K : CallFix p m c b_R_pair 2 s _ (_ :: T0) "PortProcessorModel" := K
  have hl : lv_has ls 2 [(0, .ref a.1), (1, .int (nI k))] := hl
  refine lv_iload_n K.1 K.2.1 d_R_pair_0 rfl (lv_at hl 1 rfl) ?_
  refine nv_iconst (v := 3) K d_R_pair_1 (by decide) ?_
  refine nv_icmp_ne K (by omega) (by omega) d_R_pair_2 rfl (fun h1 => ?_) (fun h1 => ?_)
  · refine nv_sipush (v := 256) K d_R_pair_12 (by decide) ?_
    refine lv_aload_n K.1 K.2.1 d_R_pair_15 rfl (lv_at hl 0 rfl) ?_
    refine qg_reg K hw d_R_pair_16 ?_
    refine nv_iconst (v := 2) K d_R_pair_19 (by decide) ?_
    refine lv_iload_n K.1 K.2.1 d_R_pair_20 rfl (lv_at hl 1 rfl) ?_
    refine nv_imul K d_R_pair_21 ?_
    refine ql_reg (i := 2 * k) (v := z_x_reg σ (2 * k)) K hw (by omega) rfl d_R_pair_22 ?_
    have hb2 : z_x_reg σ (2 * k) < 256 := z_k_reg hO _
    refine nv_imul K d_R_pair_23 ?_
    refine lv_aload_n K.1 K.2.1 d_R_pair_24 rfl (lv_at hl 0 rfl) ?_
    refine qg_reg K hw d_R_pair_25 ?_
    refine nv_iconst (v := 2) K d_R_pair_28 (by decide) ?_
    refine lv_iload_n K.1 K.2.1 d_R_pair_29 rfl (lv_at hl 1 rfl) ?_
    refine nv_imul K d_R_pair_30 ?_
    refine nv_iconst (v := 1) K d_R_pair_31 (by decide) ?_
    refine nv_iadd K d_R_pair_32 ?_
    refine ql_reg (i := (2 * k) + 1) (v := z_x_reg σ ((2 * k) + 1)) K hw (by omega) rfl d_R_pair_33 ?_
    have hb3 : z_x_reg σ ((2 * k) + 1) < 256 := z_k_reg hO _
    refine nv_iadd K d_R_pair_34 ?_
    exact qri K hr hlk hw (by first | rfl | (simp [h1]; done) | (simp only [h1]; rfl)) (by first | (unfold z_pg; rw [if_pos (by omega)]; done) | (unfold z_pg; rw [if_neg (by omega), Nat.mul_comm 256]; done)) d_R_pair_35
  · refine lv_aload_n K.1 K.2.1 d_R_pair_5 rfl (lv_at hl 0 rfl) ?_
    refine qg_sp (v := z_x_sp σ) K hw rfl d_R_pair_6 ?_
    have hb4 : z_x_sp σ < 65536 := z_k_sp hO
    refine lv_goto K.1 K.2.1 d_R_pair_9 rfl ?_
    exact qri K hr hlk hw (by first | rfl | (simp [h1]; done) | (simp only [h1]; rfl)) (by first | (unfold z_pg; rw [if_pos (by omega)]; done) | (unfold z_pg; rw [if_neg (by omega), Nat.mul_comm 256]; done)) d_R_pair_35
set_option maxHeartbeats 4000000 in
set_option maxRecDepth 100000 in
theorem r_setPair {σ : z_St} {k v : Nat} (l : Launch) (D : va_G) (cI : ClassId) (a : qAd) (hO : z_Ok σ) (hk : k < 4) (hv : v < 2147483648) : qCv l y_R_setPair w_R_setPair 0 0 D cI a [.ref a.1, .int (nI k), .int (nI v)] σ (z_ps σ k (v % 65536)) := by
  refine qcv_of (cc := b_R_setPair) (maxL := 4) (ret := none) (by decide) rfl (Nat.le_of_ble_eq_true rfl) ?_
  intro p e s m below meth c ls K hr hlk hl hw
  have K : CallFix p m c b_R_setPair 4 s _ (_ :: T0) "PortProcessorModel" := K
  have hl : lv_has ls 4 [(0, .ref a.1), (1, .int (nI k)), (2, .int (nI v))] := hl
  refine lv_iload_n K.1 K.2.1 d_R_setPair_0 rfl (lv_at hl 2 rfl) ?_
  refine nv_ldc (v := 65535) K d_R_setPair_1 (K.2.2.2.2 _ (List.mem_cons_of_mem _ m_constant_PortProcessorModel_44_65535)) ?_
  refine nv_mask (M := 65536) K 16 rfl rfl d_R_setPair_3 ?_
  refine lv_istore_n (lv' := [(3, .int (nI (v % 65536))), (0, .ref a.1), (1, .int (nI k)), (2, .int (nI v))]) K.1 K.2.1 d_R_setPair_4 rfl hl (by decide) rfl (fun ls hl => ?_)
  refine lv_iload_n K.1 K.2.1 d_R_setPair_5 rfl (lv_at hl 2 rfl) ?_
  refine nv_iconst (v := 3) K d_R_setPair_6 (by decide) ?_
  refine nv_icmp_ne K (by omega) (by omega) d_R_setPair_7 rfl (fun h1 => ?_) (fun h1 => ?_)
  · refine lv_aload_n K.1 K.2.1 d_R_setPair_18 rfl (lv_at hl 1 rfl) ?_
    refine qg_reg K hw d_R_setPair_19 ?_
    refine nv_iconst (v := 2) K d_R_setPair_22 (by decide) ?_
    refine lv_iload_n K.1 K.2.1 d_R_setPair_23 rfl (lv_at hl 2 rfl) ?_
    refine nv_imul K d_R_setPair_24 ?_
    refine lv_iload_n K.1 K.2.1 d_R_setPair_25 rfl (lv_at hl 0 rfl) ?_
    refine nv_sipush (v := 256) K d_R_setPair_26 (by decide) ?_
    refine nv_idiv K (by omega) (by omega) (by omega) d_R_setPair_29 ?_
    refine qs_reg (i := 2 * k) (v := (v % 65536) / 256) K hw (by omega) d_R_setPair_30 (fun H locs hw => ?_)
    have hO2 : z_Ok (z_s_reg σ (z_fs (z_x_reg σ) (2 * k) ((v % 65536) / 256))) := z_ok_reg hO (z_fs_lt (z_k_reg hO) (by omega))
    refine lv_aload_n K.1 K.2.1 d_R_setPair_31 rfl (lv_at hl 1 rfl) ?_
    refine qg_reg K hw d_R_setPair_32 ?_
    refine nv_iconst (v := 2) K d_R_setPair_35 (by decide) ?_
    refine lv_iload_n K.1 K.2.1 d_R_setPair_36 rfl (lv_at hl 2 rfl) ?_
    refine nv_imul K d_R_setPair_37 ?_
    refine nv_iconst (v := 1) K d_R_setPair_38 (by decide) ?_
    refine nv_iadd K d_R_setPair_39 ?_
    refine lv_iload_n K.1 K.2.1 d_R_setPair_40 rfl (lv_at hl 0 rfl) ?_
    refine nv_sipush (v := 256) K d_R_setPair_41 (by decide) ?_
    refine nv_irem K (by omega) (by omega) (by omega) d_R_setPair_44 ?_
    refine qs_reg (i := (2 * k) + 1) (v := (v % 65536) % 256) K hw (by omega) d_R_setPair_45 (fun H locs hw => ?_)
    have hO3 : z_Ok (z_s_reg (z_s_reg σ (z_fs (z_x_reg σ) (2 * k) ((v % 65536) / 256))) (z_fs (z_fs (z_x_reg σ) (2 * k) ((v % 65536) / 256)) ((2 * k) + 1) ((v % 65536) % 256))) := z_ok_reg hO2 (z_fs_lt (z_k_reg hO2) (by omega))
    exact qrv K hr hlk hw (by first | (unfold z_ps; rw [if_pos (by omega), if_pos (by omega)]; rfl) | (unfold z_ps; rw [if_neg (by omega), if_neg (by omega)]; rfl)) d_R_setPair_46
  · refine lv_aload_n K.1 K.2.1 d_R_setPair_10 rfl (lv_at hl 1 rfl) ?_
    refine lv_iload_n K.1 K.2.1 d_R_setPair_11 rfl (lv_at hl 0 rfl) ?_
    refine qp_sp (v := v % 65536) K hw d_R_setPair_12 (fun H locs hw => ?_)
    have hO4 : z_Ok (z_s_sp σ (v % 65536)) := z_ok_sp hO (by omega)
    refine lv_goto K.1 K.2.1 d_R_setPair_15 rfl ?_
    exact qrv K hr hlk hw (by first | (unfold z_ps; rw [if_pos (by omega), if_pos (by omega)]; rfl) | (unfold z_ps; rw [if_neg (by omega), if_neg (by omega)]; rfl)) d_R_setPair_46
set_option maxHeartbeats 4000000 in
set_option maxRecDepth 100000 in
theorem r_next {σ : z_St} (l : Launch) (D : va_G) (cI : ClassId) (a : qAd) (hO : z_Ok σ) : qCi l y_R_next w_R_next 1 21 D cI a [.ref a.1] σ (z_nx σ) (nI (z_nb σ)) := by
  refine qci_of (cc := b_R_next) (maxL := 2) (ret := (some .int)) (by decide) rfl (Nat.le_of_ble_eq_true rfl) ?_
  intro p e s m below meth c ls K hr hlk hl hw
  have K : CallFix p m c b_R_next 2 s _ (_ :: T0) "PortProcessorModel" := K
  have hl : lv_has ls 2 [(0, .ref a.1)] := hl
  refine lv_aload_n K.1 K.2.1 d_R_next_0 rfl (lv_at hl 0 rfl) ?_
  refine lv_aload_n K.1 K.2.1 d_R_next_1 rfl (lv_at hl 0 rfl) ?_
  refine qg_pc (v := z_x_pc σ) K hw rfl d_R_next_2 ?_
  have hb1 : z_x_pc σ < 65536 := z_k_pc hO
  refine qki K (r_read (σ := σ) (x := z_x_pc σ) l D cI a hO (by omega)) (cw_R_33 K (Nat.le_of_ble_eq_true rfl) (Nat.le_of_ble_eq_true rfl)) hw (va_recv (ci := 3) (q0 := 0) hw.2.2.2.1 hw.1 rfl rfl) rfl hl.1 rfl (Nat.le_of_ble_eq_true rfl) d_R_next_5 ⟨Nat.zero_le _, Nat.zero_le _⟩ (fun H locs hw => ?_)
  have hb2 : z_rd σ (z_x_pc σ) < 256 := z_rd_lt hO _
  refine lv_istore_n (lv' := [(1, .int (nI (z_rd σ (z_x_pc σ)))), (0, .ref a.1)]) K.1 K.2.1 d_R_next_8 rfl hl (by decide) rfl (fun ls hl => ?_)
  refine lv_aload_n K.1 K.2.1 d_R_next_9 rfl (lv_at hl 1 rfl) ?_
  refine lv_aload_n K.1 K.2.1 d_R_next_10 rfl (lv_at hl 1 rfl) ?_
  refine qg_pc (v := z_x_pc σ) K hw rfl d_R_next_11 ?_
  refine nv_iconst (v := 1) K d_R_next_14 (by decide) ?_
  refine nv_iadd K d_R_next_15 ?_
  refine nv_ldc (v := 65536) K d_R_next_16 (K.2.2.2.2 _ (List.mem_cons_of_mem _ m_constant_PortProcessorModel_48_65536)) ?_
  refine nv_irem K (by omega) (by omega) (by omega) d_R_next_18 ?_
  refine qp_pc (v := ((z_x_pc σ) + 1) % 65536) K hw d_R_next_19 (fun H locs hw => ?_)
  have hO3 : z_Ok (z_s_pc σ (((z_x_pc σ) + 1) % 65536)) := z_ok_pc hO (by omega)
  refine lv_iload_n K.1 K.2.1 d_R_next_22 rfl (lv_at hl 0 rfl) ?_
  exact qri K hr hlk hw (by first | rfl | (simp; done) | (skip; rfl)) (by first | rfl | (simp; done) | (congr 1; omega) | (simp; omega)) d_R_next_23
set_option maxHeartbeats 4000000 in
set_option maxRecDepth 100000 in
theorem r_nextWord {σ : z_St} (l : Launch) (D : va_G) (cI : ClassId) (a : qAd) (hO : z_Ok σ) : qCi l y_R_nextWord w_R_nextWord 2 42 D cI a [.ref a.1] σ (z_nn σ) (nI (z_nw σ)) := by
  refine qci_of (cc := b_R_nextWord) (maxL := 2) (ret := (some .int)) (by decide) rfl (Nat.le_of_ble_eq_true rfl) ?_
  intro p e s m below meth c ls K hr hlk hl hw
  have K : CallFix p m c b_R_nextWord 2 s _ (_ :: T0) "PortProcessorModel" := K
  have hl : lv_has ls 2 [(0, .ref a.1)] := hl
  refine lv_aload_n K.1 K.2.1 d_R_nextWord_0 rfl (lv_at hl 0 rfl) ?_
  refine qki K (r_next (σ := σ) l D cI a hO) (cw_R_49 K (Nat.le_of_ble_eq_true rfl) (Nat.le_of_ble_eq_true rfl)) hw (va_recv (ci := 3) (q0 := 0) hw.2.2.2.1 hw.1 rfl rfl) rfl hl.1 rfl (Nat.le_of_ble_eq_true rfl) d_R_nextWord_1 ⟨Nat.zero_le _, Nat.zero_le _⟩ (fun H locs hw => ?_)
  have hO1 : z_Ok (z_nx σ) := z_ok_nx hO
  have hb2 : z_nb σ < 256 := z_nb_lt hO
  refine lv_istore_n (lv' := [(1, .int (nI (z_nb σ))), (0, .ref a.1)]) K.1 K.2.1 d_R_nextWord_4 rfl hl (by decide) rfl (fun ls hl => ?_)
  refine lv_iload_n K.1 K.2.1 d_R_nextWord_5 rfl (lv_at hl 0 rfl) ?_
  refine nv_sipush (v := 256) K d_R_nextWord_6 (by decide) ?_
  refine lv_aload_n K.1 K.2.1 d_R_nextWord_9 rfl (lv_at hl 1 rfl) ?_
  refine qki K (r_next (σ := z_nx σ) l D cI a hO1) (cw_R_49 K (Nat.le_of_ble_eq_true rfl) (Nat.le_of_ble_eq_true rfl)) hw (va_recv (ci := 3) (q0 := 0) hw.2.2.2.1 hw.1 rfl rfl) rfl hl.1 rfl (Nat.le_of_ble_eq_true rfl) d_R_nextWord_10 ⟨Nat.zero_le _, Nat.zero_le _⟩ (fun H locs hw => ?_)
  have hO3 : z_Ok (z_nx (z_nx σ)) := z_ok_nx hO1
  have hb4 : z_nb (z_nx σ) < 256 := z_nb_lt hO1
  refine nv_imul K d_R_nextWord_13 ?_
  refine nv_iadd K d_R_nextWord_14 ?_
  exact qri K hr hlk hw (by first | rfl | (simp; done) | (skip; rfl)) (by rw [Nat.add_comm, Nat.mul_comm]; rfl) d_R_nextWord_15

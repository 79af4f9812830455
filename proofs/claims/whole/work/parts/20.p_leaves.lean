set_option maxHeartbeats 4000000 in
set_option maxRecDepth 100000 in
theorem c_read {σ : z_St} {x : Nat} (l : Launch) (D : va_G) (cI : ClassId) (a : pAd) (hO : z_Ok σ) (hx : x < 65536) : pCi l y_M_read w_M_read 0 0 D cI a [.ref a.2.1, .int (nI x)] σ σ (nI (z_rd σ x)) := by
  refine pci_of (cc := b_M_read) (maxL := 2) (ret := (some .int)) (by decide) rfl (Nat.le_of_ble_eq_true rfl) ?_
  intro p e s m below meth c ls K hr hlk hl hw
  have K : CallFix p m c b_M_read 2 s _ (_ :: T0) "PortProcessor$Memory" := K
  have hl : lv_has ls 2 [(0, .ref a.2.1), (1, .int (nI x))] := hl
  refine lv_iload_n K.1 K.2.1 d_M_read_0 rfl (lv_at hl 1 rfl) ?_
  refine nv_if_lt K (by omega) d_M_read_1 rfl ?_
  refine lv_iload_n K.1 K.2.1 d_M_read_4 rfl (lv_at hl 1 rfl) ?_
  refine nv_sipush (v := 1024) K d_M_read_5 (by decide) ?_
  have hb1 : z_x_mem σ x < 256 := z_k_mem hO _
  refine nf_icmp_ge (u := 255) (v := z_x_mem σ x) (Y := 23) K (by omega) (by omega) d_M_read_8 rfl (fun _ k => nv_sipush (v := 255) K d_M_read_20 (by decide) k) (fun _ k => lv_aload_n K.1 K.2.1 d_M_read_11 rfl (lv_at hl 0 rfl) (pg_M_cells K hw d_M_read_12 (lv_iload_n K.1 K.2.1 d_M_read_15 rfl (lv_at hl 1 rfl) (pl_mem (i := x) (v := z_x_mem σ x) K hw (by omega) rfl d_M_read_16 (lv_goto K.1 K.2.1 d_M_read_17 rfl k))))) ?_
  have hb2 : (if 1024 ≤ x then 255 else z_x_mem σ x) < 256 := z_ite_ltB _ (by omega) (by omega)
  exact pri K hr hlk hw (by first | rfl | (simp; done) | (skip; rfl)) (by unfold z_rd; split <;> split <;> first | rfl | omega) d_M_read_23
set_option maxHeartbeats 4000000 in
set_option maxRecDepth 100000 in
theorem c_write {σ : z_St} {x v : Nat} (l : Launch) (D : va_G) (cI : ClassId) (a : pAd) (hO : z_Ok σ) (hx : x < 65536) (hv : v < 256) : pCv l y_M_write w_M_write 0 0 D cI a [.ref a.2.1, .int (nI x), .int (nI v)] σ (z_wr σ x v) := by
  refine pcv_of (cc := b_M_write) (maxL := 3) (ret := none) (by decide) rfl (Nat.le_of_ble_eq_true rfl) ?_
  intro p e s m below meth c ls K hr hlk hl hw
  have K : CallFix p m c b_M_write 3 s _ (_ :: T0) "PortProcessor$Memory" := K
  have hl : lv_has ls 3 [(0, .ref a.2.1), (1, .int (nI x)), (2, .int (nI v))] := hl
  refine lv_iload_n K.1 K.2.1 d_M_write_0 rfl (lv_at hl 1 rfl) ?_
  refine nv_if_lt K (by omega) d_M_write_1 rfl ?_
  refine lv_iload_n K.1 K.2.1 d_M_write_4 rfl (lv_at hl 1 rfl) ?_
  refine nv_sipush (v := 1024) K d_M_write_5 (by decide) ?_
  refine nv_icmp_ge K (by omega) (by omega) d_M_write_8 rfl (fun h1 => ?_) (fun h1 => ?_)
  · exact prv K hr hlk hw (by first | (unfold z_wr z_fw; rw [if_pos (by omega)]; done) | (unfold z_wr z_fw; rw [if_neg (by omega)]; rfl)) d_M_write_18
  · refine lv_aload_n K.1 K.2.1 d_M_write_11 rfl (lv_at hl 0 rfl) ?_
    refine pg_M_cells K hw d_M_write_12 ?_
    refine lv_iload_n K.1 K.2.1 d_M_write_15 rfl (lv_at hl 1 rfl) ?_
    refine lv_iload_n K.1 K.2.1 d_M_write_16 rfl (lv_at hl 2 rfl) ?_
    refine ps_mem (i := x) (v := v) K hw (by omega) d_M_write_17 (fun H locs hw => ?_)
    have hO2 : z_Ok (z_s_mem σ (z_fs (z_x_mem σ) x v)) := z_ok_mem hO (z_fs_lt (z_k_mem hO) (by omega))
    exact prv K hr hlk hw (by first | (unfold z_wr z_fw; rw [if_pos (by omega)]; done) | (unfold z_wr z_fw; rw [if_neg (by omega)]; rfl)) d_M_write_18
set_option maxHeartbeats 4000000 in
set_option maxRecDepth 100000 in
theorem c_readPair {σ : z_St} {k : Nat} (l : Launch) (D : va_G) (cI : ClassId) (a : pAd) (hO : z_Ok σ) (hk : k < 4) : pCi l y_P_readPair w_P_readPair 0 0 D cI a [.ref a.1, .int (nI k)] σ σ (nI (z_pg σ k)) := by
  refine pci_of (cc := b_P_readPair) (maxL := 2) (ret := (some .int)) (by decide) rfl (Nat.le_of_ble_eq_true rfl) ?_
  intro p e s m below meth c ls K hr hlk hl hw
  have K : CallFix p m c b_P_readPair 2 s _ (_ :: T0) "PortProcessor" := K
  have hl : lv_has ls 2 [(0, .ref a.1), (1, .int (nI k))] := hl
  refine lv_iload_n K.1 K.2.1 d_P_readPair_0 rfl (lv_at hl 1 rfl) ?_
  refine nv_iconst (v := 3) K d_P_readPair_1 (by decide) ?_
  refine nv_icmp_ne K (by omega) (by omega) d_P_readPair_2 rfl (fun h1 => ?_) (fun h1 => ?_)
  · refine lv_aload_n K.1 K.2.1 d_P_readPair_12 rfl (lv_at hl 0 rfl) ?_
    refine pg_registers K hw d_P_readPair_13 ?_
    refine nv_iconst (v := 2) K d_P_readPair_16 (by decide) ?_
    refine lv_iload_n K.1 K.2.1 d_P_readPair_17 rfl (lv_at hl 1 rfl) ?_
    refine nv_imul K d_P_readPair_18 ?_
    refine pl_reg (i := 2 * k) (v := z_x_reg σ (2 * k)) K hw (by omega) rfl d_P_readPair_19 ?_
    have hb2 : z_x_reg σ (2 * k) < 256 := z_k_reg hO _
    refine nv_bipush (v := 8) K d_P_readPair_20 (by decide) ?_
    refine nv_ishl (M := 256) K (by omega) rfl (by omega) d_P_readPair_22 ?_
    refine lv_aload_n K.1 K.2.1 d_P_readPair_23 rfl (lv_at hl 0 rfl) ?_
    refine pg_registers K hw d_P_readPair_24 ?_
    refine nv_iconst (v := 2) K d_P_readPair_27 (by decide) ?_
    refine lv_iload_n K.1 K.2.1 d_P_readPair_28 rfl (lv_at hl 1 rfl) ?_
    refine nv_imul K d_P_readPair_29 ?_
    refine nv_iconst (v := 1) K d_P_readPair_30 (by decide) ?_
    refine nv_iadd K d_P_readPair_31 ?_
    refine pl_reg (i := (2 * k) + 1) (v := z_x_reg σ ((2 * k) + 1)) K hw (by omega) rfl d_P_readPair_32 ?_
    have hb3 : z_x_reg σ ((2 * k) + 1) < 256 := z_k_reg hO _
    refine nv_or256 K (by omega) d_P_readPair_33 ?_
    exact pri K hr hlk hw (by first | rfl | (simp [h1]; done) | (simp only [h1]; rfl)) (by first | (unfold z_pg; rw [if_pos (by omega)]; done) | (unfold z_pg; rw [if_neg (by omega)]; done)) d_P_readPair_34
  · refine lv_aload_n K.1 K.2.1 d_P_readPair_5 rfl (lv_at hl 0 rfl) ?_
    refine pg_stackPointer (v := z_x_sp σ) K hw rfl d_P_readPair_6 ?_
    have hb4 : z_x_sp σ < 65536 := z_k_sp hO
    refine lv_goto K.1 K.2.1 d_P_readPair_9 rfl ?_
    exact pri K hr hlk hw (by first | rfl | (simp [h1]; done) | (simp only [h1]; rfl)) (by first | (unfold z_pg; rw [if_pos (by omega)]; done) | (unfold z_pg; rw [if_neg (by omega)]; done)) d_P_readPair_34
set_option maxHeartbeats 4000000 in
set_option maxRecDepth 100000 in
theorem c_writePair {σ : z_St} {k v : Nat} (l : Launch) (D : va_G) (cI : ClassId) (a : pAd) (hO : z_Ok σ) (hk : k < 4) (hv : v < 65536) : pCv l y_P_writePair w_P_writePair 0 0 D cI a [.ref a.1, .int (nI k), .int (nI v)] σ (z_ps σ k v) := by
  refine pcv_of (cc := b_P_writePair) (maxL := 3) (ret := none) (by decide) rfl (Nat.le_of_ble_eq_true rfl) ?_
  intro p e s m below meth c ls K hr hlk hl hw
  have K : CallFix p m c b_P_writePair 3 s _ (_ :: T0) "PortProcessor" := K
  have hl : lv_has ls 3 [(0, .ref a.1), (1, .int (nI k)), (2, .int (nI v))] := hl
  refine lv_iload_n K.1 K.2.1 d_P_writePair_0 rfl (lv_at hl 1 rfl) ?_
  refine nv_iconst (v := 3) K d_P_writePair_1 (by decide) ?_
  refine nv_icmp_ne K (by omega) (by omega) d_P_writePair_2 rfl (fun h1 => ?_) (fun h1 => ?_)
  · refine lv_aload_n K.1 K.2.1 d_P_writePair_13 rfl (lv_at hl 0 rfl) ?_
    refine pg_registers K hw d_P_writePair_14 ?_
    refine nv_iconst (v := 2) K d_P_writePair_17 (by decide) ?_
    refine lv_iload_n K.1 K.2.1 d_P_writePair_18 rfl (lv_at hl 1 rfl) ?_
    refine nv_imul K d_P_writePair_19 ?_
    refine lv_iload_n K.1 K.2.1 d_P_writePair_20 rfl (lv_at hl 2 rfl) ?_
    refine nv_bipush (v := 8) K d_P_writePair_21 (by decide) ?_
    refine nv_ishr (M := 256) K (by omega) rfl (by omega) d_P_writePair_23 ?_
    refine ps_reg (i := 2 * k) (v := v / 256) K hw (by omega) d_P_writePair_24 (fun H locs hw => ?_)
    have hO2 : z_Ok (z_s_reg σ (z_fs (z_x_reg σ) (2 * k) (v / 256))) := z_ok_reg hO (z_fs_lt (z_k_reg hO) (by omega))
    refine lv_aload_n K.1 K.2.1 d_P_writePair_25 rfl (lv_at hl 0 rfl) ?_
    refine pg_registers K hw d_P_writePair_26 ?_
    refine nv_iconst (v := 2) K d_P_writePair_29 (by decide) ?_
    refine lv_iload_n K.1 K.2.1 d_P_writePair_30 rfl (lv_at hl 1 rfl) ?_
    refine nv_imul K d_P_writePair_31 ?_
    refine nv_iconst (v := 1) K d_P_writePair_32 (by decide) ?_
    refine nv_iadd K d_P_writePair_33 ?_
    refine lv_iload_n K.1 K.2.1 d_P_writePair_34 rfl (lv_at hl 2 rfl) ?_
    refine nv_sipush (v := 255) K d_P_writePair_35 (by decide) ?_
    refine nv_mask (M := 256) K 8 rfl rfl d_P_writePair_38 ?_
    refine ps_reg (i := (2 * k) + 1) (v := v % 256) K hw (by omega) d_P_writePair_39 (fun H locs hw => ?_)
    have hO3 : z_Ok (z_s_reg (z_s_reg σ (z_fs (z_x_reg σ) (2 * k) (v / 256))) (z_fs (z_fs (z_x_reg σ) (2 * k) (v / 256)) ((2 * k) + 1) (v % 256))) := z_ok_reg hO2 (z_fs_lt (z_k_reg hO2) (by omega))
    exact prv K hr hlk hw (by first | (unfold z_ps; rw [if_pos (by omega), if_pos (by omega)]; rfl) | (unfold z_ps; rw [if_neg (by omega), if_neg (by omega)]; rfl)) d_P_writePair_40
  · refine lv_aload_n K.1 K.2.1 d_P_writePair_5 rfl (lv_at hl 0 rfl) ?_
    refine lv_iload_n K.1 K.2.1 d_P_writePair_6 rfl (lv_at hl 2 rfl) ?_
    refine pp_stackPointer (v := v) K hw d_P_writePair_7 (fun H locs hw => ?_)
    have hO4 : z_Ok (z_s_sp σ v) := z_ok_sp hO (by omega)
    refine lv_goto K.1 K.2.1 d_P_writePair_10 rfl ?_
    exact prv K hr hlk hw (by first | (unfold z_ps; rw [if_pos (by omega), if_pos (by omega)]; rfl) | (unfold z_ps; rw [if_neg (by omega), if_neg (by omega)]; rfl)) d_P_writePair_40
set_option maxHeartbeats 4000000 in
set_option maxRecDepth 100000 in
theorem c_readRegister {σ : z_St} {r : Nat} (l : Launch) (D : va_G) (cI : ClassId) (a : pAd) (hO : z_Ok σ) (hr8 : r < 8) : pCi l y_P_readRegister w_P_readRegister 1 21 D cI a [.ref a.1, .int (nI r)] σ σ (nI (z_rg σ r)) := by
  refine pci_of (cc := b_P_readRegister) (maxL := 2) (ret := (some .int)) (by decide) rfl (Nat.le_of_ble_eq_true rfl) ?_
  intro p e s m below meth c ls K hr hlk hl hw
  have K : CallFix p m c b_P_readRegister 2 s _ (_ :: T0) "PortProcessor" := K
  have hl : lv_has ls 2 [(0, .ref a.1), (1, .int (nI r))] := hl
  refine lv_iload_n K.1 K.2.1 d_P_readRegister_0 rfl (lv_at hl 1 rfl) ?_
  refine nv_bipush (v := 6) K d_P_readRegister_1 (by decide) ?_
  refine nv_icmp_ne K (by omega) (by omega) d_P_readRegister_3 rfl (fun h1 => ?_) (fun h1 => ?_)
  · refine lv_aload_n K.1 K.2.1 d_P_readRegister_21 rfl (lv_at hl 0 rfl) ?_
    refine pg_registers K hw d_P_readRegister_22 ?_
    refine lv_iload_n K.1 K.2.1 d_P_readRegister_25 rfl (lv_at hl 1 rfl) ?_
    refine pl_reg (i := r) (v := z_x_reg σ r) K hw (by omega) rfl d_P_readRegister_26 ?_
    have hb2 : z_x_reg σ r < 256 := z_k_reg hO _
    exact pri K hr hlk hw (by first | rfl | (simp [h1]; done) | (simp only [h1]; rfl)) (by first | (unfold z_rg; rw [if_pos (by omega)]; done) | (unfold z_rg; rw [if_neg (by omega)]; done)) d_P_readRegister_27
  · refine lv_aload_n K.1 K.2.1 d_P_readRegister_6 rfl (lv_at hl 0 rfl) ?_
    refine pg_memory K hw d_P_readRegister_7 ?_
    refine lv_aload_n K.1 K.2.1 d_P_readRegister_10 rfl (lv_at hl 0 rfl) ?_
    refine nv_iconst (v := 2) K d_P_readRegister_11 (by decide) ?_
    refine pki K (c_readPair (σ := σ) (k := 2) l D cI a hO (by omega)) (cw_P_199 K (Nat.le_of_ble_eq_true rfl) (Nat.le_of_ble_eq_true rfl)) hw (va_recv (ci := 0) (q0 := 0) hw.2.2.2.1 hw.1 rfl rfl) rfl hl.1 rfl (Nat.le_of_ble_eq_true rfl) d_P_readRegister_12 ⟨Nat.zero_le _, Nat.zero_le _⟩ (fun H locs hw => ?_)
    have hb3 : z_pg σ 2 < 65536 := z_pg_lt hO _
    refine pki K (c_read (σ := σ) (x := z_pg σ 2) l D cI a hO (by omega)) (cw_P_52 K (Nat.le_of_ble_eq_true rfl) (Nat.le_of_ble_eq_true rfl)) hw (va_recv (ci := 1) (q0 := 1) hw.2.2.2.1 hw.1 rfl rfl) rfl hl.1 rfl (Nat.le_of_ble_eq_true rfl) d_P_readRegister_15 ⟨Nat.zero_le _, Nat.zero_le _⟩ (fun H locs hw => ?_)
    have hb4 : z_rd σ (z_pg σ 2) < 256 := z_rd_lt hO _
    refine lv_goto K.1 K.2.1 d_P_readRegister_18 rfl ?_
    exact pri K hr hlk hw (by first | rfl | (simp [h1]; done) | (simp only [h1]; rfl)) (by first | (unfold z_rg; rw [if_pos (by omega)]; done) | (unfold z_rg; rw [if_neg (by omega)]; done)) d_P_readRegister_27
set_option maxHeartbeats 4000000 in
set_option maxRecDepth 100000 in
theorem c_writeRegister {σ : z_St} {r v : Nat} (l : Launch) (D : va_G) (cI : ClassId) (a : pAd) (hO : z_Ok σ) (hr8 : r < 8) (hv : v < 256) : pCv l y_P_writeRegister w_P_writeRegister 1 22 D cI a [.ref a.1, .int (nI r), .int (nI v)] σ (z_rs σ r v) := by
  refine pcv_of (cc := b_P_writeRegister) (maxL := 3) (ret := none) (by decide) rfl (Nat.le_of_ble_eq_true rfl) ?_
  intro p e s m below meth c ls K hr hlk hl hw
  have K : CallFix p m c b_P_writeRegister 3 s _ (_ :: T0) "PortProcessor" := K
  have hl : lv_has ls 3 [(0, .ref a.1), (1, .int (nI r)), (2, .int (nI v))] := hl
  refine lv_iload_n K.1 K.2.1 d_P_writeRegister_0 rfl (lv_at hl 1 rfl) ?_
  refine nv_bipush (v := 6) K d_P_writeRegister_1 (by decide) ?_
  refine nv_icmp_ne K (by omega) (by omega) d_P_writeRegister_3 rfl (fun h1 => ?_) (fun h1 => ?_)
  · refine lv_aload_n K.1 K.2.1 d_P_writeRegister_22 rfl (lv_at hl 0 rfl) ?_
    refine pg_registers K hw d_P_writeRegister_23 ?_
    refine lv_iload_n K.1 K.2.1 d_P_writeRegister_26 rfl (lv_at hl 1 rfl) ?_
    refine lv_iload_n K.1 K.2.1 d_P_writeRegister_27 rfl (lv_at hl 2 rfl) ?_
    refine ps_reg (i := r) (v := v) K hw (by omega) d_P_writeRegister_28 (fun H locs hw => ?_)
    have hO2 : z_Ok (z_s_reg σ (z_fs (z_x_reg σ) r v)) := z_ok_reg hO (z_fs_lt (z_k_reg hO) (by omega))
    exact prv K hr hlk hw (by first | (unfold z_rs; rw [if_pos (by omega), if_pos (by omega)]; rfl) | (unfold z_rs; rw [if_neg (by omega), if_neg (by omega)]; rfl)) d_P_writeRegister_29
  · refine lv_aload_n K.1 K.2.1 d_P_writeRegister_6 rfl (lv_at hl 0 rfl) ?_
    refine pg_memory K hw d_P_writeRegister_7 ?_
    refine lv_aload_n K.1 K.2.1 d_P_writeRegister_10 rfl (lv_at hl 0 rfl) ?_
    refine nv_iconst (v := 2) K d_P_writeRegister_11 (by decide) ?_
    refine pki K (c_readPair (σ := σ) (k := 2) l D cI a hO (by omega)) (cw_P_199 K (Nat.le_of_ble_eq_true rfl) (Nat.le_of_ble_eq_true rfl)) hw (va_recv (ci := 0) (q0 := 0) hw.2.2.2.1 hw.1 rfl rfl) rfl hl.1 rfl (Nat.le_of_ble_eq_true rfl) d_P_writeRegister_12 ⟨Nat.zero_le _, Nat.zero_le _⟩ (fun H locs hw => ?_)
    have hb3 : z_pg σ 2 < 65536 := z_pg_lt hO _
    refine lv_iload_n K.1 K.2.1 d_P_writeRegister_15 rfl (lv_at hl 2 rfl) ?_
    refine pkv K (c_write (σ := σ) (x := z_pg σ 2) (v := v) l D cI a hO (by omega) (by omega)) (cw_P_46 K (Nat.le_of_ble_eq_true rfl) (Nat.le_of_ble_eq_true rfl)) hw (va_recv (ci := 1) (q0 := 1) hw.2.2.2.1 hw.1 rfl rfl) rfl hl.1 rfl (Nat.le_of_ble_eq_true rfl) d_P_writeRegister_16 ⟨Nat.zero_le _, Nat.zero_le _⟩ (fun H locs hw => ?_)
    have hO4 : z_Ok (z_wr σ (z_pg σ 2) v) := z_ok_wr hO _ (by omega)
    refine lv_goto K.1 K.2.1 d_P_writeRegister_19 rfl ?_
    exact prv K hr hlk hw (by first | (unfold z_rs; rw [if_pos (by omega), if_pos (by omega)]; rfl) | (unfold z_rs; rw [if_neg (by omega), if_neg (by omega)]; rfl)) d_P_writeRegister_29
set_option maxHeartbeats 4000000 in
set_option maxRecDepth 100000 in
theorem c_nextByte {σ : z_St} (l : Launch) (D : va_G) (cI : ClassId) (a : pAd) (hO : z_Ok σ) : pCi l y_P_nextByte w_P_nextByte 1 21 D cI a [.ref a.1] σ (z_nx σ) (nI (z_nb σ)) := by
  refine pci_of (cc := b_P_nextByte) (maxL := 2) (ret := (some .int)) (by decide) rfl (Nat.le_of_ble_eq_true rfl) ?_
  intro p e s m below meth c ls K hr hlk hl hw
  have K : CallFix p m c b_P_nextByte 2 s _ (_ :: T0) "PortProcessor" := K
  have hl : lv_has ls 2 [(0, .ref a.1)] := hl
  refine lv_aload_n K.1 K.2.1 d_P_nextByte_0 rfl (lv_at hl 0 rfl) ?_
  refine pg_memory K hw d_P_nextByte_1 ?_
  refine lv_aload_n K.1 K.2.1 d_P_nextByte_4 rfl (lv_at hl 0 rfl) ?_
  refine pg_programCounter (v := z_x_pc σ) K hw rfl d_P_nextByte_5 ?_
  have hb1 : z_x_pc σ < 65536 := z_k_pc hO
  refine pki K (c_read (σ := σ) (x := z_x_pc σ) l D cI a hO (by omega)) (cw_P_52 K (Nat.le_of_ble_eq_true rfl) (Nat.le_of_ble_eq_true rfl)) hw (va_recv (ci := 1) (q0 := 1) hw.2.2.2.1 hw.1 rfl rfl) rfl hl.1 rfl (Nat.le_of_ble_eq_true rfl) d_P_nextByte_8 ⟨Nat.zero_le _, Nat.zero_le _⟩ (fun H locs hw => ?_)
  have hb2 : z_rd σ (z_x_pc σ) < 256 := z_rd_lt hO _
  refine lv_istore_n (lv' := [(1, .int (nI (z_rd σ (z_x_pc σ)))), (0, .ref a.1)]) K.1 K.2.1 d_P_nextByte_11 rfl hl (by decide) rfl (fun ls hl => ?_)
  refine lv_aload_n K.1 K.2.1 d_P_nextByte_12 rfl (lv_at hl 1 rfl) ?_
  refine lv_aload_n K.1 K.2.1 d_P_nextByte_13 rfl (lv_at hl 1 rfl) ?_
  refine pg_programCounter (v := z_x_pc σ) K hw rfl d_P_nextByte_14 ?_
  refine nv_iconst (v := 1) K d_P_nextByte_17 (by decide) ?_
  refine nv_iadd K d_P_nextByte_18 ?_
  refine nv_ldc (v := 65535) K d_P_nextByte_19 (K.2.2.2.2 _ (List.mem_cons_of_mem _ m_constant_PortProcessor_56_65535)) ?_
  refine nv_mask (M := 65536) K 16 rfl rfl d_P_nextByte_21 ?_
  refine pp_programCounter (v := ((z_x_pc σ) + 1) % 65536) K hw d_P_nextByte_22 (fun H locs hw => ?_)
  have hO3 : z_Ok (z_s_pc σ (((z_x_pc σ) + 1) % 65536)) := z_ok_pc hO (by omega)
  refine lv_iload_n K.1 K.2.1 d_P_nextByte_25 rfl (lv_at hl 0 rfl) ?_
  exact pri K hr hlk hw (by first | rfl | (simp [z_nx]; done) | (simp only [z_nx]; rfl)) (by first | rfl | (simp [z_nx]; done) | (congr 1; omega) | (simp [z_nx]; omega)) d_P_nextByte_26
set_option maxHeartbeats 4000000 in
set_option maxRecDepth 100000 in
theorem c_nextTwoBytes {σ : z_St} (l : Launch) (D : va_G) (cI : ClassId) (a : pAd) (hO : z_Ok σ) : pCi l y_P_nextTwoBytes w_P_nextTwoBytes 2 42 D cI a [.ref a.1] σ (z_nn σ) (nI (z_nw σ)) := by
  refine pci_of (cc := b_P_nextTwoBytes) (maxL := 2) (ret := (some .int)) (by decide) rfl (Nat.le_of_ble_eq_true rfl) ?_
  intro p e s m below meth c ls K hr hlk hl hw
  have K : CallFix p m c b_P_nextTwoBytes 2 s _ (_ :: T0) "PortProcessor" := K
  have hl : lv_has ls 2 [(0, .ref a.1)] := hl
  refine lv_aload_n K.1 K.2.1 d_P_nextTwoBytes_0 rfl (lv_at hl 0 rfl) ?_
  refine pki K (c_nextByte (σ := σ) l D cI a hO) (cw_P_121 K (Nat.le_of_ble_eq_true rfl) (Nat.le_of_ble_eq_true rfl)) hw (va_recv (ci := 0) (q0 := 0) hw.2.2.2.1 hw.1 rfl rfl) rfl hl.1 rfl (Nat.le_of_ble_eq_true rfl) d_P_nextTwoBytes_1 ⟨Nat.zero_le _, Nat.zero_le _⟩ (fun H locs hw => ?_)
  have hO1 : z_Ok (z_nx σ) := z_ok_nx hO
  have hb2 : z_nb σ < 256 := z_nb_lt hO
  refine lv_istore_n (lv' := [(1, .int (nI (z_nb σ))), (0, .ref a.1)]) K.1 K.2.1 d_P_nextTwoBytes_4 rfl hl (by decide) rfl (fun ls hl => ?_)
  refine lv_aload_n K.1 K.2.1 d_P_nextTwoBytes_5 rfl (lv_at hl 1 rfl) ?_
  refine pki K (c_nextByte (σ := z_nx σ) l D cI a hO1) (cw_P_121 K (Nat.le_of_ble_eq_true rfl) (Nat.le_of_ble_eq_true rfl)) hw (va_recv (ci := 0) (q0 := 0) hw.2.2.2.1 hw.1 rfl rfl) rfl hl.1 rfl (Nat.le_of_ble_eq_true rfl) d_P_nextTwoBytes_6 ⟨Nat.zero_le _, Nat.zero_le _⟩ (fun H locs hw => ?_)
  have hO3 : z_Ok (z_nx (z_nx σ)) := z_ok_nx hO1
  have hb4 : z_nb (z_nx σ) < 256 := z_nb_lt hO1
  refine nv_bipush (v := 8) K d_P_nextTwoBytes_9 (by decide) ?_
  refine nv_ishl (M := 256) K (by omega) rfl (by omega) d_P_nextTwoBytes_11 ?_
  refine lv_iload_n K.1 K.2.1 d_P_nextTwoBytes_12 rfl (lv_at hl 0 rfl) ?_
  refine nv_or256 K (by omega) d_P_nextTwoBytes_13 ?_
  exact pri K hr hlk hw (by first | rfl | (simp [z_nn, z_nx]; done) | (simp only [z_nn, z_nx]; rfl)) (by first | rfl | (simp [z_nn, z_nx]; done) | (congr 1; omega) | (simp [z_nn, z_nx]; omega)) d_P_nextTwoBytes_14
set_option maxHeartbeats 4000000 in
set_option maxRecDepth 100000 in
theorem c_push {σ : z_St} {v : Nat} (l : Launch) (D : va_G) (cI : ClassId) (a : pAd) (hO : z_Ok σ) (hv : v < 65536) : pCv l y_P_push w_P_push 1 22 D cI a [.ref a.1, .int (nI v)] σ (z_pu σ v) := by
  refine pcv_of (cc := b_P_push) (maxL := 2) (ret := none) (by decide) rfl (Nat.le_of_ble_eq_true rfl) ?_
  intro p e s m below meth c ls K hr hlk hl hw
  have K : CallFix p m c b_P_push 2 s _ (_ :: T0) "PortProcessor" := K
  have hl : lv_has ls 2 [(0, .ref a.1), (1, .int (nI v))] := hl
  refine lv_aload_n K.1 K.2.1 d_P_push_0 rfl (lv_at hl 0 rfl) ?_
  refine lv_aload_n K.1 K.2.1 d_P_push_1 rfl (lv_at hl 0 rfl) ?_
  refine pg_stackPointer (v := z_x_sp σ) K hw rfl d_P_push_2 ?_
  have hb1 : z_x_sp σ < 65536 := z_k_sp hO
  refine nv_iconst (v := 1) K d_P_push_5 (by decide) ?_
  refine lv_isub K.1 K.2.1 d_P_push_6 ?_
  refine nv_ldc (v := 65535) K d_P_push_7 (K.2.2.2.2 _ (List.mem_cons_of_mem _ m_constant_PortProcessor_56_65535)) ?_
  refine lv_iand K.1 K.2.1 d_P_push_9 (nv_as K (nz_dec (by omega)) ?_)
  refine pp_stackPointer (v := ((z_x_sp σ) + 65535) % 65536) K hw d_P_push_10 (fun H locs hw => ?_)
  have hO2 : z_Ok (z_s_sp σ (((z_x_sp σ) + 65535) % 65536)) := z_ok_sp hO (by omega)
  refine lv_aload_n K.1 K.2.1 d_P_push_13 rfl (lv_at hl 0 rfl) ?_
  refine pg_memory K hw d_P_push_14 ?_
  refine lv_aload_n K.1 K.2.1 d_P_push_17 rfl (lv_at hl 0 rfl) ?_
  refine pg_stackPointer (v := ((z_x_sp σ) + 65535) % 65536) K hw rfl d_P_push_18 ?_
  have hb3 : ((z_x_sp σ) + 65535) % 65536 < 65536 := by omega
  refine lv_iload_n K.1 K.2.1 d_P_push_21 rfl (lv_at hl 1 rfl) ?_
  refine nv_bipush (v := 8) K d_P_push_22 (by decide) ?_
  refine nv_ishr (M := 256) K (by omega) rfl (by omega) d_P_push_24 ?_
  refine pkv K (c_write (σ := z_s_sp σ (((z_x_sp σ) + 65535) % 65536)) (x := ((z_x_sp σ) + 65535) % 65536) (v := v / 256) l D cI a hO2 (by omega) (by omega)) (cw_P_46 K (Nat.le_of_ble_eq_true rfl) (Nat.le_of_ble_eq_true rfl)) hw (va_recv (ci := 1) (q0 := 1) hw.2.2.2.1 hw.1 rfl rfl) rfl hl.1 rfl (Nat.le_of_ble_eq_true rfl) d_P_push_25 ⟨Nat.zero_le _, Nat.zero_le _⟩ (fun H locs hw => ?_)
  have hO4 : z_Ok (z_wr (z_s_sp σ (((z_x_sp σ) + 65535) % 65536)) (((z_x_sp σ) + 65535) % 65536) (v / 256)) := z_ok_wr hO2 _ (by omega)
  refine lv_aload_n K.1 K.2.1 d_P_push_28 rfl (lv_at hl 0 rfl) ?_
  refine lv_aload_n K.1 K.2.1 d_P_push_29 rfl (lv_at hl 0 rfl) ?_
  refine pg_stackPointer (v := ((z_x_sp σ) + 65535) % 65536) K hw rfl d_P_push_30 ?_
  refine nv_iconst (v := 1) K d_P_push_33 (by decide) ?_
  refine lv_isub K.1 K.2.1 d_P_push_34 ?_
  refine nv_ldc (v := 65535) K d_P_push_35 (K.2.2.2.2 _ (List.mem_cons_of_mem _ m_constant_PortProcessor_56_65535)) ?_
  refine lv_iand K.1 K.2.1 d_P_push_37 (nv_as K (nz_dec (by omega)) ?_)
  refine pp_stackPointer (v := ((((z_x_sp σ) + 65535) % 65536) + 65535) % 65536) K hw d_P_push_38 (fun H locs hw => ?_)
  have hO5 : z_Ok (z_s_sp (z_wr (z_s_sp σ (((z_x_sp σ) + 65535) % 65536)) (((z_x_sp σ) + 65535) % 65536) (v / 256)) (((((z_x_sp σ) + 65535) % 65536) + 65535) % 65536)) := z_ok_sp hO4 (by omega)
  refine lv_aload_n K.1 K.2.1 d_P_push_41 rfl (lv_at hl 0 rfl) ?_
  refine pg_memory K hw d_P_push_42 ?_
  refine lv_aload_n K.1 K.2.1 d_P_push_45 rfl (lv_at hl 0 rfl) ?_
  refine pg_stackPointer (v := ((((z_x_sp σ) + 65535) % 65536) + 65535) % 65536) K hw rfl d_P_push_46 ?_
  have hb6 : ((((z_x_sp σ) + 65535) % 65536) + 65535) % 65536 < 65536 := by omega
  refine lv_iload_n K.1 K.2.1 d_P_push_49 rfl (lv_at hl 1 rfl) ?_
  refine nv_sipush (v := 255) K d_P_push_50 (by decide) ?_
  refine nv_mask (M := 256) K 8 rfl rfl d_P_push_53 ?_
  refine pkv K (c_write (σ := z_s_sp (z_wr (z_s_sp σ (((z_x_sp σ) + 65535) % 65536)) (((z_x_sp σ) + 65535) % 65536) (v / 256)) (((((z_x_sp σ) + 65535) % 65536) + 65535) % 65536)) (x := ((((z_x_sp σ) + 65535) % 65536) + 65535) % 65536) (v := v % 256) l D cI a hO5 (by omega) (by omega)) (cw_P_46 K (Nat.le_of_ble_eq_true rfl) (Nat.le_of_ble_eq_true rfl)) hw (va_recv (ci := 1) (q0 := 1) hw.2.2.2.1 hw.1 rfl rfl) rfl hl.1 rfl (Nat.le_of_ble_eq_true rfl) d_P_push_54 ⟨Nat.zero_le _, Nat.zero_le _⟩ (fun H locs hw => ?_)
  have hO7 : z_Ok (z_wr (z_s_sp (z_wr (z_s_sp σ (((z_x_sp σ) + 65535) % 65536)) (((z_x_sp σ) + 65535) % 65536) (v / 256)) (((((z_x_sp σ) + 65535) % 65536) + 65535) % 65536)) (((((z_x_sp σ) + 65535) % 65536) + 65535) % 65536) (v % 256)) := z_ok_wr hO5 _ (by omega)
  exact prv K hr hlk hw (by first | rfl | (simp [z_pu, z_p1, z_wr]; done) | (simp only [z_pu, z_p1, z_wr]; rfl)) d_P_push_57
set_option maxHeartbeats 4000000 in
set_option maxRecDepth 100000 in
theorem c_pop {σ : z_St} (l : Launch) (D : va_G) (cI : ClassId) (a : pAd) (hO : z_Ok σ) : pCi l y_P_pop w_P_pop 1 21 D cI a [.ref a.1] σ (z_po σ) (nI (z_pv σ)) := by
  refine pci_of (cc := b_P_pop) (maxL := 3) (ret := (some .int)) (by decide) rfl (Nat.le_of_ble_eq_true rfl) ?_
  intro p e s m below meth c ls K hr hlk hl hw
  have K : CallFix p m c b_P_pop 3 s _ (_ :: T0) "PortProcessor" := K
  have hl : lv_has ls 3 [(0, .ref a.1)] := hl
  refine lv_aload_n K.1 K.2.1 d_P_pop_0 rfl (lv_at hl 0 rfl) ?_
  refine pg_memory K hw d_P_pop_1 ?_
  refine lv_aload_n K.1 K.2.1 d_P_pop_4 rfl (lv_at hl 0 rfl) ?_
  refine pg_stackPointer (v := z_x_sp σ) K hw rfl d_P_pop_5 ?_
  have hb1 : z_x_sp σ < 65536 := z_k_sp hO
  refine pki K (c_read (σ := σ) (x := z_x_sp σ) l D cI a hO (by omega)) (cw_P_52 K (Nat.le_of_ble_eq_true rfl) (Nat.le_of_ble_eq_true rfl)) hw (va_recv (ci := 1) (q0 := 1) hw.2.2.2.1 hw.1 rfl rfl) rfl hl.1 rfl (Nat.le_of_ble_eq_true rfl) d_P_pop_8 ⟨Nat.zero_le _, Nat.zero_le _⟩ (fun H locs hw => ?_)
  have hb2 : z_rd σ (z_x_sp σ) < 256 := z_rd_lt hO _
  refine lv_istore_n (lv' := [(1, .int (nI (z_rd σ (z_x_sp σ)))), (0, .ref a.1)]) K.1 K.2.1 d_P_pop_11 rfl hl (by decide) rfl (fun ls hl => ?_)
  refine lv_aload_n K.1 K.2.1 d_P_pop_12 rfl (lv_at hl 1 rfl) ?_
  refine lv_aload_n K.1 K.2.1 d_P_pop_13 rfl (lv_at hl 1 rfl) ?_
  refine pg_stackPointer (v := z_x_sp σ) K hw rfl d_P_pop_14 ?_
  refine nv_iconst (v := 1) K d_P_pop_17 (by decide) ?_
  refine nv_iadd K d_P_pop_18 ?_
  refine nv_ldc (v := 65535) K d_P_pop_19 (K.2.2.2.2 _ (List.mem_cons_of_mem _ m_constant_PortProcessor_56_65535)) ?_
  refine nv_mask (M := 65536) K 16 rfl rfl d_P_pop_21 ?_
  refine pp_stackPointer (v := ((z_x_sp σ) + 1) % 65536) K hw d_P_pop_22 (fun H locs hw => ?_)
  have hO3 : z_Ok (z_s_sp σ (((z_x_sp σ) + 1) % 65536)) := z_ok_sp hO (by omega)
  refine lv_aload_n K.1 K.2.1 d_P_pop_25 rfl (lv_at hl 1 rfl) ?_
  refine pg_memory K hw d_P_pop_26 ?_
  refine lv_aload_n K.1 K.2.1 d_P_pop_29 rfl (lv_at hl 1 rfl) ?_
  refine pg_stackPointer (v := ((z_x_sp σ) + 1) % 65536) K hw rfl d_P_pop_30 ?_
  have hb4 : ((z_x_sp σ) + 1) % 65536 < 65536 := by omega
  refine pki K (c_read (σ := z_s_sp σ (((z_x_sp σ) + 1) % 65536)) (x := ((z_x_sp σ) + 1) % 65536) l D cI a hO3 (by omega)) (cw_P_52 K (Nat.le_of_ble_eq_true rfl) (Nat.le_of_ble_eq_true rfl)) hw (va_recv (ci := 1) (q0 := 1) hw.2.2.2.1 hw.1 rfl rfl) rfl hl.1 rfl (Nat.le_of_ble_eq_true rfl) d_P_pop_33 ⟨Nat.zero_le _, Nat.zero_le _⟩ (fun H locs hw => ?_)
  refine nv_as K (y := nI (z_rd σ (((z_x_sp σ) + 1) % 65536))) rfl ?_
  have hb5 : z_rd σ (((z_x_sp σ) + 1) % 65536) < 256 := z_rd_lt hO3 _
  refine lv_istore_n (lv' := [(2, .int (nI (z_rd σ (((z_x_sp σ) + 1) % 65536)))), (1, .int (nI (z_rd σ (z_x_sp σ)))), (0, .ref a.1)]) K.1 K.2.1 d_P_pop_36 rfl hl (by decide) rfl (fun ls hl => ?_)
  refine lv_aload_n K.1 K.2.1 d_P_pop_37 rfl (lv_at hl 2 rfl) ?_
  refine lv_aload_n K.1 K.2.1 d_P_pop_38 rfl (lv_at hl 2 rfl) ?_
  refine pg_stackPointer (v := ((z_x_sp σ) + 1) % 65536) K hw rfl d_P_pop_39 ?_
  refine nv_iconst (v := 1) K d_P_pop_42 (by decide) ?_
  refine nv_iadd K d_P_pop_43 ?_
  refine nv_ldc (v := 65535) K d_P_pop_44 (K.2.2.2.2 _ (List.mem_cons_of_mem _ m_constant_PortProcessor_56_65535)) ?_
  refine nv_mask (M := 65536) K 16 rfl rfl d_P_pop_46 ?_
  refine pp_stackPointer (v := ((((z_x_sp σ) + 1) % 65536) + 1) % 65536) K hw d_P_pop_47 (fun H locs hw => ?_)
  have hO6 : z_Ok (z_s_sp (z_s_sp σ (((z_x_sp σ) + 1) % 65536)) (((((z_x_sp σ) + 1) % 65536) + 1) % 65536)) := z_ok_sp hO3 (by omega)
  refine lv_iload_n K.1 K.2.1 d_P_pop_50 rfl (lv_at hl 0 rfl) ?_
  refine nv_bipush (v := 8) K d_P_pop_51 (by decide) ?_
  refine nv_ishl (M := 256) K (by omega) rfl (by omega) d_P_pop_53 ?_
  refine lv_iload_n K.1 K.2.1 d_P_pop_54 rfl (lv_at hl 1 rfl) ?_
  refine nv_or256 K (by omega) d_P_pop_55 ?_
  exact pri K hr hlk hw (by unfold z_po; rw [show (z_x_sp σ + 2) % 65536 = ((z_x_sp σ + 1) % 65536 + 1) % 65536 from by omega]; rfl) (by first | rfl | (simp; done) | (congr 1; omega) | (simp; omega)) d_P_pop_56
set_option maxHeartbeats 4000000 in
set_option maxRecDepth 100000 in
theorem c_callTo {σ : z_St} {x : Nat} (l : Launch) (D : va_G) (cI : ClassId) (a : pAd) (hO : z_Ok σ) (hx : x < 65536) : pCv l y_P_callTo w_P_callTo 2 43 D cI a [.ref a.1, .int (nI x)] σ (z_ct σ x) := by
  refine pcv_of (cc := b_P_callTo) (maxL := 2) (ret := none) (by decide) rfl (Nat.le_of_ble_eq_true rfl) ?_
  intro p e s m below meth c ls K hr hlk hl hw
  have K : CallFix p m c b_P_callTo 2 s _ (_ :: T0) "PortProcessor" := K
  have hl : lv_has ls 2 [(0, .ref a.1), (1, .int (nI x))] := hl
  refine lv_aload_n K.1 K.2.1 d_P_callTo_0 rfl (lv_at hl 0 rfl) ?_
  refine lv_aload_n K.1 K.2.1 d_P_callTo_1 rfl (lv_at hl 0 rfl) ?_
  refine pg_programCounter (v := z_x_pc σ) K hw rfl d_P_callTo_2 ?_
  have hb1 : z_x_pc σ < 65536 := z_k_pc hO
  refine pkv K (c_push (σ := σ) (v := z_x_pc σ) l D cI a hO (by omega)) (cw_P_247 K (Nat.le_of_ble_eq_true rfl) (Nat.le_of_ble_eq_true rfl)) hw (va_recv (ci := 0) (q0 := 0) hw.2.2.2.1 hw.1 rfl rfl) rfl hl.1 rfl (Nat.le_of_ble_eq_true rfl) d_P_callTo_5 ⟨Nat.zero_le _, Nat.zero_le _⟩ (fun H locs hw => ?_)
  have hO2 : z_Ok (z_pu σ (z_x_pc σ)) := z_ok_pu hO (by omega)
  refine lv_aload_n K.1 K.2.1 d_P_callTo_8 rfl (lv_at hl 0 rfl) ?_
  refine lv_iload_n K.1 K.2.1 d_P_callTo_9 rfl (lv_at hl 1 rfl) ?_
  refine pp_programCounter (v := x) K hw d_P_callTo_10 (fun H locs hw => ?_)
  have hO3 : z_Ok (z_s_pc (z_pu σ (z_x_pc σ)) x) := z_ok_pc hO2 (by omega)
  exact prv K hr hlk hw (by first | rfl | (simp [z_ct]; done) | (simp only [z_ct]; rfl)) d_P_callTo_13

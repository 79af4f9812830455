set_option maxHeartbeats 4000000 in
set_option maxRecDepth 100000 in
theorem r_direct {σ : z_St} {b : Nat} (l : Launch) (D : va_G) (cI : ClassId) (a : qAd) (hO : z_Ok σ) (hb : b < 64) : qCi l y_R_direct w_R_direct 3 63 D cI a [.ref a.1, .int (nI b)] σ (z_e2 σ (b / 8)) (nI (z_t2 (b / 8))) := by
  refine qci_of (cc := b_R_direct) (maxL := 4) (ret := (some .int)) (by decide) rfl (Nat.le_of_ble_eq_true rfl) ?_
  intro p e s m below meth c ls K hr hlk hl hw
  have K : CallFix p m c b_R_direct 4 s _ (_ :: T0) "PortProcessorModel" := K
  have hl : lv_has ls 4 [(0, .ref a.1), (1, .int (nI b))] := hl
  refine lv_iload_n K.1 K.2.1 d_R_direct_0 rfl (lv_at hl 1 rfl) ?_
  refine nv_bipush (v := 8) K d_R_direct_1 (by decide) ?_
  refine nv_idiv K (by omega) (by omega) (by omega) d_R_direct_3 ?_
  refine lv_istore_n (lv' := [(2, .int (nI (b / 8))), (0, .ref a.1), (1, .int (nI b))]) K.1 K.2.1 d_R_direct_4 rfl hl (by decide) rfl (fun ls hl => ?_)
  rcases (by omega : b / 8 = 0 ∨ b / 8 = 1 ∨ b / 8 = 2 ∨ b / 8 = 3 ∨ b / 8 = 4 ∨ b / 8 = 5 ∨ b / 8 = 6 ∨ b / 8 = 7) with h1 | h1 | h1 | h1 | h1 | h1 | h1 | h1
  · have hl : lv_has ls 4 [(2, .int (nI 0)), (0, .ref a.1), (1, .int (nI b))] := by rw [h1] at hl; exact hl
    refine lv_iload_n K.1 K.2.1 d_R_direct_5 rfl (lv_at hl 0 rfl) ?_
    refine nv_iconst (v := 4) K d_R_direct_6 (by decide) ?_
    refine nv_icmp_ge K (by omega) (by omega) d_R_direct_7 rfl (fun h => (by omega : False).elim) (fun _ => ?_)
    refine lv_aload_n K.1 K.2.1 d_R_direct_10 rfl (lv_at hl 1 rfl) ?_
    refine lv_iload_n K.1 K.2.1 d_R_direct_11 rfl (lv_at hl 0 rfl) ?_
    refine nv_iconst (v := 2) K d_R_direct_12 (by decide) ?_
    refine nv_idiv K (by omega) (by omega) (by omega) d_R_direct_13 (nv_as K (y := nI 0) rfl ?_)
    refine qki K (r_pair (σ := σ) (k := 0) l D cI a hO (by omega)) (cw_R_103 K (Nat.le_of_ble_eq_true rfl) (Nat.le_of_ble_eq_true rfl)) hw (va_recv (ci := 3) (q0 := 0) hw.2.2.2.1 hw.1 rfl rfl) rfl hl.1 rfl (Nat.le_of_ble_eq_true rfl) d_R_direct_14 ⟨Nat.zero_le _, Nat.zero_le _⟩ (fun H locs hw => ?_)
    have hb2 : z_pg σ 0 < 65536 := z_pg_lt hO _
    refine lv_goto K.1 K.2.1 d_R_direct_17 rfl ?_
    refine lv_istore_n (lv' := [(3, .int (nI (z_pg σ 0))), (2, .int (nI 0)), (0, .ref a.1), (1, .int (nI b))]) K.1 K.2.1 d_R_direct_24 rfl hl (by decide) rfl (fun ls hl => ?_)
    refine lv_iload_n K.1 K.2.1 d_R_direct_25 rfl (lv_at hl 1 rfl) ?_
    refine nv_iconst (v := 4) K d_R_direct_26 (by decide) ?_
    refine nv_icmp_ne K (by omega) (by omega) d_R_direct_27 rfl (fun _ => ?_) (fun h => (by omega : False).elim)
    refine lv_iload_n K.1 K.2.1 d_R_direct_60 rfl (lv_at hl 1 rfl) ?_
    refine nv_iconst (v := 5) K d_R_direct_61 (by decide) ?_
    refine nv_icmp_ne K (by omega) (by omega) d_R_direct_62 rfl (fun _ => ?_) (fun h => (by omega : False).elim)
    refine lv_iload_n K.1 K.2.1 d_R_direct_95 rfl (lv_at hl 1 rfl) ?_
    refine nv_iconst (v := 2) K d_R_direct_96 (by decide) ?_
    refine nv_irem K (by omega) (by omega) (by omega) d_R_direct_97 (nv_as K (y := nI 0) rfl ?_)
    refine nv_if_ne K (by omega) d_R_direct_98 rfl (fun h => (by omega : False).elim) (fun _ => ?_)
    refine lv_aload_n K.1 K.2.1 d_R_direct_101 rfl (lv_at hl 2 rfl) ?_
    refine lv_iload_n K.1 K.2.1 d_R_direct_102 rfl (lv_at hl 0 rfl) ?_
    refine lv_aload_n K.1 K.2.1 d_R_direct_103 rfl (lv_at hl 2 rfl) ?_
    refine qg_reg K hw d_R_direct_104 ?_
    refine nv_bipush (v := 7) K d_R_direct_107 (by decide) ?_
    refine ql_reg (i := 7) (v := z_x_reg σ 7) K hw (by omega) rfl d_R_direct_109 ?_
    have hb3 : z_x_reg σ 7 < 256 := z_k_reg hO _
    refine qkv K (r_write (σ := σ) (x := z_pg σ 0) (v := z_x_reg σ 7) l D cI a hO (by omega) (by omega)) (cw_R_37 K (Nat.le_of_ble_eq_true rfl) (Nat.le_of_ble_eq_true rfl)) hw (va_recv (ci := 3) (q0 := 0) hw.2.2.2.1 hw.1 rfl rfl) rfl hl.1 rfl (Nat.le_of_ble_eq_true rfl) d_R_direct_110 ⟨Nat.zero_le _, Nat.zero_le _⟩ (fun H locs hw => ?_)
    have hO4 : z_Ok (z_wr σ (z_pg σ 0) (z_x_reg σ 7)) := z_ok_wr hO _ (by omega)
    refine lv_goto K.1 K.2.1 d_R_direct_113 rfl ?_
    refine lv_iload_n K.1 K.2.1 d_R_direct_128 rfl (lv_at hl 1 rfl) ?_
    refine nv_iconst (v := 4) K d_R_direct_129 (by decide) ?_
    refine nv_icmp_ge K (by omega) (by omega) d_R_direct_130 rfl (fun h => (by omega : False).elim) (fun _ => ?_)
    refine nv_bipush (v := 7) K d_R_direct_133 (by decide) ?_
    refine lv_goto K.1 K.2.1 d_R_direct_135 rfl ?_
    exact qri K hr hlk hw (by rw [h1]; rfl) (by rw [h1]; rfl) d_R_direct_151
  · have hl : lv_has ls 4 [(2, .int (nI 1)), (0, .ref a.1), (1, .int (nI b))] := by rw [h1] at hl; exact hl
    refine lv_iload_n K.1 K.2.1 d_R_direct_5 rfl (lv_at hl 0 rfl) ?_
    refine nv_iconst (v := 4) K d_R_direct_6 (by decide) ?_
    refine nv_icmp_ge K (by omega) (by omega) d_R_direct_7 rfl (fun h => (by omega : False).elim) (fun _ => ?_)
    refine lv_aload_n K.1 K.2.1 d_R_direct_10 rfl (lv_at hl 1 rfl) ?_
    refine lv_iload_n K.1 K.2.1 d_R_direct_11 rfl (lv_at hl 0 rfl) ?_
    refine nv_iconst (v := 2) K d_R_direct_12 (by decide) ?_
    refine nv_idiv K (by omega) (by omega) (by omega) d_R_direct_13 (nv_as K (y := nI 0) rfl ?_)
    refine qki K (r_pair (σ := σ) (k := 0) l D cI a hO (by omega)) (cw_R_103 K (Nat.le_of_ble_eq_true rfl) (Nat.le_of_ble_eq_true rfl)) hw (va_recv (ci := 3) (q0 := 0) hw.2.2.2.1 hw.1 rfl rfl) rfl hl.1 rfl (Nat.le_of_ble_eq_true rfl) d_R_direct_14 ⟨Nat.zero_le _, Nat.zero_le _⟩ (fun H locs hw => ?_)
    have hb5 : z_pg σ 0 < 65536 := z_pg_lt hO _
    refine lv_goto K.1 K.2.1 d_R_direct_17 rfl ?_
    refine lv_istore_n (lv' := [(3, .int (nI (z_pg σ 0))), (2, .int (nI 1)), (0, .ref a.1), (1, .int (nI b))]) K.1 K.2.1 d_R_direct_24 rfl hl (by decide) rfl (fun ls hl => ?_)
    refine lv_iload_n K.1 K.2.1 d_R_direct_25 rfl (lv_at hl 1 rfl) ?_
    refine nv_iconst (v := 4) K d_R_direct_26 (by decide) ?_
    refine nv_icmp_ne K (by omega) (by omega) d_R_direct_27 rfl (fun _ => ?_) (fun h => (by omega : False).elim)
    refine lv_iload_n K.1 K.2.1 d_R_direct_60 rfl (lv_at hl 1 rfl) ?_
    refine nv_iconst (v := 5) K d_R_direct_61 (by decide) ?_
    refine nv_icmp_ne K (by omega) (by omega) d_R_direct_62 rfl (fun _ => ?_) (fun h => (by omega : False).elim)
    refine lv_iload_n K.1 K.2.1 d_R_direct_95 rfl (lv_at hl 1 rfl) ?_
    refine nv_iconst (v := 2) K d_R_direct_96 (by decide) ?_
    refine nv_irem K (by omega) (by omega) (by omega) d_R_direct_97 (nv_as K (y := nI 1) rfl ?_)
    refine nv_if_ne K (by omega) d_R_direct_98 rfl (fun _ => ?_) (fun h => (by omega : False).elim)
    refine lv_aload_n K.1 K.2.1 d_R_direct_116 rfl (lv_at hl 2 rfl) ?_
    refine qg_reg K hw d_R_direct_117 ?_
    refine nv_bipush (v := 7) K d_R_direct_120 (by decide) ?_
    refine lv_aload_n K.1 K.2.1 d_R_direct_122 rfl (lv_at hl 2 rfl) ?_
    refine lv_iload_n K.1 K.2.1 d_R_direct_123 rfl (lv_at hl 0 rfl) ?_
    refine qki K (r_read (σ := σ) (x := z_pg σ 0) l D cI a hO (by omega)) (cw_R_33 K (Nat.le_of_ble_eq_true rfl) (Nat.le_of_ble_eq_true rfl)) hw (va_recv (ci := 3) (q0 := 0) hw.2.2.2.1 hw.1 rfl rfl) rfl hl.1 rfl (Nat.le_of_ble_eq_true rfl) d_R_direct_124 ⟨Nat.zero_le _, Nat.zero_le _⟩ (fun H locs hw => ?_)
    have hb6 : z_rd σ (z_pg σ 0) < 256 := z_rd_lt hO _
    refine qs_reg (i := 7) (v := z_rd σ (z_pg σ 0)) K hw (by omega) d_R_direct_127 (fun H locs hw => ?_)
    have hO7 : z_Ok (z_s_reg σ (z_fs (z_x_reg σ) 7 (z_rd σ (z_pg σ 0)))) := z_ok_reg hO (z_fs_lt (z_k_reg hO) (by omega))
    refine lv_iload_n K.1 K.2.1 d_R_direct_128 rfl (lv_at hl 1 rfl) ?_
    refine nv_iconst (v := 4) K d_R_direct_129 (by decide) ?_
    refine nv_icmp_ge K (by omega) (by omega) d_R_direct_130 rfl (fun h => (by omega : False).elim) (fun _ => ?_)
    refine nv_bipush (v := 7) K d_R_direct_133 (by decide) ?_
    refine lv_goto K.1 K.2.1 d_R_direct_135 rfl ?_
    exact qri K hr hlk hw (by rw [h1]; rfl) (by rw [h1]; rfl) d_R_direct_151
  · have hl : lv_has ls 4 [(2, .int (nI 2)), (0, .ref a.1), (1, .int (nI b))] := by rw [h1] at hl; exact hl
    refine lv_iload_n K.1 K.2.1 d_R_direct_5 rfl (lv_at hl 0 rfl) ?_
    refine nv_iconst (v := 4) K d_R_direct_6 (by decide) ?_
    refine nv_icmp_ge K (by omega) (by omega) d_R_direct_7 rfl (fun h => (by omega : False).elim) (fun _ => ?_)
    refine lv_aload_n K.1 K.2.1 d_R_direct_10 rfl (lv_at hl 1 rfl) ?_
    refine lv_iload_n K.1 K.2.1 d_R_direct_11 rfl (lv_at hl 0 rfl) ?_
    refine nv_iconst (v := 2) K d_R_direct_12 (by decide) ?_
    refine nv_idiv K (by omega) (by omega) (by omega) d_R_direct_13 (nv_as K (y := nI 1) rfl ?_)
    refine qki K (r_pair (σ := σ) (k := 1) l D cI a hO (by omega)) (cw_R_103 K (Nat.le_of_ble_eq_true rfl) (Nat.le_of_ble_eq_true rfl)) hw (va_recv (ci := 3) (q0 := 0) hw.2.2.2.1 hw.1 rfl rfl) rfl hl.1 rfl (Nat.le_of_ble_eq_true rfl) d_R_direct_14 ⟨Nat.zero_le _, Nat.zero_le _⟩ (fun H locs hw => ?_)
    have hb8 : z_pg σ 1 < 65536 := z_pg_lt hO _
    refine lv_goto K.1 K.2.1 d_R_direct_17 rfl ?_
    refine lv_istore_n (lv' := [(3, .int (nI (z_pg σ 1))), (2, .int (nI 2)), (0, .ref a.1), (1, .int (nI b))]) K.1 K.2.1 d_R_direct_24 rfl hl (by decide) rfl (fun ls hl => ?_)
    refine lv_iload_n K.1 K.2.1 d_R_direct_25 rfl (lv_at hl 1 rfl) ?_
    refine nv_iconst (v := 4) K d_R_direct_26 (by decide) ?_
    refine nv_icmp_ne K (by omega) (by omega) d_R_direct_27 rfl (fun _ => ?_) (fun h => (by omega : False).elim)
    refine lv_iload_n K.1 K.2.1 d_R_direct_60 rfl (lv_at hl 1 rfl) ?_
    refine nv_iconst (v := 5) K d_R_direct_61 (by decide) ?_
    refine nv_icmp_ne K (by omega) (by omega) d_R_direct_62 rfl (fun _ => ?_) (fun h => (by omega : False).elim)
    refine lv_iload_n K.1 K.2.1 d_R_direct_95 rfl (lv_at hl 1 rfl) ?_
    refine nv_iconst (v := 2) K d_R_direct_96 (by decide) ?_
    refine nv_irem K (by omega) (by omega) (by omega) d_R_direct_97 (nv_as K (y := nI 0) rfl ?_)
    refine nv_if_ne K (by omega) d_R_direct_98 rfl (fun h => (by omega : False).elim) (fun _ => ?_)
    refine lv_aload_n K.1 K.2.1 d_R_direct_101 rfl (lv_at hl 2 rfl) ?_
    refine lv_iload_n K.1 K.2.1 d_R_direct_102 rfl (lv_at hl 0 rfl) ?_
    refine lv_aload_n K.1 K.2.1 d_R_direct_103 rfl (lv_at hl 2 rfl) ?_
    refine qg_reg K hw d_R_direct_104 ?_
    refine nv_bipush (v := 7) K d_R_direct_107 (by decide) ?_
    refine ql_reg (i := 7) (v := z_x_reg σ 7) K hw (by omega) rfl d_R_direct_109 ?_
    have hb9 : z_x_reg σ 7 < 256 := z_k_reg hO _
    refine qkv K (r_write (σ := σ) (x := z_pg σ 1) (v := z_x_reg σ 7) l D cI a hO (by omega) (by omega)) (cw_R_37 K (Nat.le_of_ble_eq_true rfl) (Nat.le_of_ble_eq_true rfl)) hw (va_recv (ci := 3) (q0 := 0) hw.2.2.2.1 hw.1 rfl rfl) rfl hl.1 rfl (Nat.le_of_ble_eq_true rfl) d_R_direct_110 ⟨Nat.zero_le _, Nat.zero_le _⟩ (fun H locs hw => ?_)
    have hO10 : z_Ok (z_wr σ (z_pg σ 1) (z_x_reg σ 7)) := z_ok_wr hO _ (by omega)
    refine lv_goto K.1 K.2.1 d_R_direct_113 rfl ?_
    refine lv_iload_n K.1 K.2.1 d_R_direct_128 rfl (lv_at hl 1 rfl) ?_
    refine nv_iconst (v := 4) K d_R_direct_129 (by decide) ?_
    refine nv_icmp_ge K (by omega) (by omega) d_R_direct_130 rfl (fun h => (by omega : False).elim) (fun _ => ?_)
    refine nv_bipush (v := 7) K d_R_direct_133 (by decide) ?_
    refine lv_goto K.1 K.2.1 d_R_direct_135 rfl ?_
    exact qri K hr hlk hw (by rw [h1]; rfl) (by rw [h1]; rfl) d_R_direct_151
  · have hl : lv_has ls 4 [(2, .int (nI 3)), (0, .ref a.1), (1, .int (nI b))] := by rw [h1] at hl; exact hl
    refine lv_iload_n K.1 K.2.1 d_R_direct_5 rfl (lv_at hl 0 rfl) ?_
    refine nv_iconst (v := 4) K d_R_direct_6 (by decide) ?_
    refine nv_icmp_ge K (by omega) (by omega) d_R_direct_7 rfl (fun h => (by omega : False).elim) (fun _ => ?_)
    refine lv_aload_n K.1 K.2.1 d_R_direct_10 rfl (lv_at hl 1 rfl) ?_
    refine lv_iload_n K.1 K.2.1 d_R_direct_11 rfl (lv_at hl 0 rfl) ?_
    refine nv_iconst (v := 2) K d_R_direct_12 (by decide) ?_
    refine nv_idiv K (by omega) (by omega) (by omega) d_R_direct_13 (nv_as K (y := nI 1) rfl ?_)
    refine qki K (r_pair (σ := σ) (k := 1) l D cI a hO (by omega)) (cw_R_103 K (Nat.le_of_ble_eq_true rfl) (Nat.le_of_ble_eq_true rfl)) hw (va_recv (ci := 3) (q0 := 0) hw.2.2.2.1 hw.1 rfl rfl) rfl hl.1 rfl (Nat.le_of_ble_eq_true rfl) d_R_direct_14 ⟨Nat.zero_le _, Nat.zero_le _⟩ (fun H locs hw => ?_)
    have hb11 : z_pg σ 1 < 65536 := z_pg_lt hO _
    refine lv_goto K.1 K.2.1 d_R_direct_17 rfl ?_
    refine lv_istore_n (lv' := [(3, .int (nI (z_pg σ 1))), (2, .int (nI 3)), (0, .ref a.1), (1, .int (nI b))]) K.1 K.2.1 d_R_direct_24 rfl hl (by decide) rfl (fun ls hl => ?_)
    refine lv_iload_n K.1 K.2.1 d_R_direct_25 rfl (lv_at hl 1 rfl) ?_
    refine nv_iconst (v := 4) K d_R_direct_26 (by decide) ?_
    refine nv_icmp_ne K (by omega) (by omega) d_R_direct_27 rfl (fun _ => ?_) (fun h => (by omega : False).elim)
    refine lv_iload_n K.1 K.2.1 d_R_direct_60 rfl (lv_at hl 1 rfl) ?_
    refine nv_iconst (v := 5) K d_R_direct_61 (by decide) ?_
    refine nv_icmp_ne K (by omega) (by omega) d_R_direct_62 rfl (fun _ => ?_) (fun h => (by omega : False).elim)
    refine lv_iload_n K.1 K.2.1 d_R_direct_95 rfl (lv_at hl 1 rfl) ?_
    refine nv_iconst (v := 2) K d_R_direct_96 (by decide) ?_
    refine nv_irem K (by omega) (by omega) (by omega) d_R_direct_97 (nv_as K (y := nI 1) rfl ?_)
    refine nv_if_ne K (by omega) d_R_direct_98 rfl (fun _ => ?_) (fun h => (by omega : False).elim)
    refine lv_aload_n K.1 K.2.1 d_R_direct_116 rfl (lv_at hl 2 rfl) ?_
    refine qg_reg K hw d_R_direct_117 ?_
    refine nv_bipush (v := 7) K d_R_direct_120 (by decide) ?_
    refine lv_aload_n K.1 K.2.1 d_R_direct_122 rfl (lv_at hl 2 rfl) ?_
    refine lv_iload_n K.1 K.2.1 d_R_direct_123 rfl (lv_at hl 0 rfl) ?_
    refine qki K (r_read (σ := σ) (x := z_pg σ 1) l D cI a hO (by omega)) (cw_R_33 K (Nat.le_of_ble_eq_true rfl) (Nat.le_of_ble_eq_true rfl)) hw (va_recv (ci := 3) (q0 := 0) hw.2.2.2.1 hw.1 rfl rfl) rfl hl.1 rfl (Nat.le_of_ble_eq_true rfl) d_R_direct_124 ⟨Nat.zero_le _, Nat.zero_le _⟩ (fun H locs hw => ?_)
    have hb12 : z_rd σ (z_pg σ 1) < 256 := z_rd_lt hO _
    refine qs_reg (i := 7) (v := z_rd σ (z_pg σ 1)) K hw (by omega) d_R_direct_127 (fun H locs hw => ?_)
    have hO13 : z_Ok (z_s_reg σ (z_fs (z_x_reg σ) 7 (z_rd σ (z_pg σ 1)))) := z_ok_reg hO (z_fs_lt (z_k_reg hO) (by omega))
    refine lv_iload_n K.1 K.2.1 d_R_direct_128 rfl (lv_at hl 1 rfl) ?_
    refine nv_iconst (v := 4) K d_R_direct_129 (by decide) ?_
    refine nv_icmp_ge K (by omega) (by omega) d_R_direct_130 rfl (fun h => (by omega : False).elim) (fun _ => ?_)
    refine nv_bipush (v := 7) K d_R_direct_133 (by decide) ?_
    refine lv_goto K.1 K.2.1 d_R_direct_135 rfl ?_
    exact qri K hr hlk hw (by rw [h1]; rfl) (by rw [h1]; rfl) d_R_direct_151
  · have hl : lv_has ls 4 [(2, .int (nI 4)), (0, .ref a.1), (1, .int (nI b))] := by rw [h1] at hl; exact hl
    refine lv_iload_n K.1 K.2.1 d_R_direct_5 rfl (lv_at hl 0 rfl) ?_
    refine nv_iconst (v := 4) K d_R_direct_6 (by decide) ?_
    refine nv_icmp_ge K (by omega) (by omega) d_R_direct_7 rfl (fun _ => ?_) (fun h => (by omega : False).elim)
    refine lv_aload_n K.1 K.2.1 d_R_direct_20 rfl (lv_at hl 1 rfl) ?_
    refine qki K (r_nextWord (σ := σ) l D cI a hO) (cw_R_97 K (Nat.le_of_ble_eq_true rfl) (Nat.le_of_ble_eq_true rfl)) hw (va_recv (ci := 3) (q0 := 0) hw.2.2.2.1 hw.1 rfl rfl) rfl hl.1 rfl (Nat.le_of_ble_eq_true rfl) d_R_direct_21 ⟨Nat.zero_le _, Nat.zero_le _⟩ (fun H locs hw => ?_)
    have hO14 : z_Ok (z_nn σ) := z_ok_nn hO
    have hb15 : z_nw σ < 65536 := z_nw_lt hO
    refine lv_istore_n (lv' := [(3, .int (nI (z_nw σ))), (2, .int (nI 4)), (0, .ref a.1), (1, .int (nI b))]) K.1 K.2.1 d_R_direct_24 rfl hl (by decide) rfl (fun ls hl => ?_)
    refine lv_iload_n K.1 K.2.1 d_R_direct_25 rfl (lv_at hl 1 rfl) ?_
    refine nv_iconst (v := 4) K d_R_direct_26 (by decide) ?_
    refine nv_icmp_ne K (by omega) (by omega) d_R_direct_27 rfl (fun h => (by omega : False).elim) (fun _ => ?_)
    refine lv_aload_n K.1 K.2.1 d_R_direct_30 rfl (lv_at hl 2 rfl) ?_
    refine lv_iload_n K.1 K.2.1 d_R_direct_31 rfl (lv_at hl 0 rfl) ?_
    refine lv_aload_n K.1 K.2.1 d_R_direct_32 rfl (lv_at hl 2 rfl) ?_
    refine qg_reg K hw d_R_direct_33 ?_
    refine nv_iconst (v := 5) K d_R_direct_36 (by decide) ?_
    refine ql_reg (i := 5) (v := z_x_reg σ 5) K hw (by omega) rfl d_R_direct_37 ?_
    have hb16 : z_x_reg σ 5 < 256 := z_k_reg hO _
    refine qkv K (r_write (σ := z_nn σ) (x := z_nw σ) (v := z_x_reg σ 5) l D cI a hO14 (by omega) (by omega)) (cw_R_37 K (Nat.le_of_ble_eq_true rfl) (Nat.le_of_ble_eq_true rfl)) hw (va_recv (ci := 3) (q0 := 0) hw.2.2.2.1 hw.1 rfl rfl) rfl hl.1 rfl (Nat.le_of_ble_eq_true rfl) d_R_direct_38 ⟨Nat.zero_le _, Nat.zero_le _⟩ (fun H locs hw => ?_)
    have hO17 : z_Ok (z_wr (z_nn σ) (z_nw σ) (z_x_reg σ 5)) := z_ok_wr hO14 _ (by omega)
    refine lv_aload_n K.1 K.2.1 d_R_direct_41 rfl (lv_at hl 2 rfl) ?_
    refine lv_iload_n K.1 K.2.1 d_R_direct_42 rfl (lv_at hl 0 rfl) ?_
    refine nv_iconst (v := 1) K d_R_direct_43 (by decide) ?_
    refine nv_iadd K d_R_direct_44 ?_
    refine nv_ldc (v := 65536) K d_R_direct_45 (K.2.2.2.2 _ (List.mem_cons_of_mem _ m_constant_PortProcessorModel_48_65536)) ?_
    refine nv_irem K (by omega) (by omega) (by omega) d_R_direct_47 ?_
    refine lv_aload_n K.1 K.2.1 d_R_direct_48 rfl (lv_at hl 2 rfl) ?_
    refine qg_reg K hw d_R_direct_49 ?_
    refine nv_iconst (v := 4) K d_R_direct_52 (by decide) ?_
    refine ql_reg (i := 4) (v := z_x_reg σ 4) K hw (by omega) rfl d_R_direct_53 ?_
    have hb18 : z_x_reg σ 4 < 256 := z_k_reg hO _
    refine qkv K (r_write (σ := z_wr (z_nn σ) (z_nw σ) (z_x_reg σ 5)) (x := ((z_nw σ) + 1) % 65536) (v := z_x_reg σ 4) l D cI a hO17 (by omega) (by omega)) (cw_R_37 K (Nat.le_of_ble_eq_true rfl) (Nat.le_of_ble_eq_true rfl)) hw (va_recv (ci := 3) (q0 := 0) hw.2.2.2.1 hw.1 rfl rfl) rfl hl.1 rfl (Nat.le_of_ble_eq_true rfl) d_R_direct_54 ⟨Nat.zero_le _, Nat.zero_le _⟩ (fun H locs hw => ?_)
    have hO19 : z_Ok (z_wr (z_wr (z_nn σ) (z_nw σ) (z_x_reg σ 5)) (((z_nw σ) + 1) % 65536) (z_x_reg σ 4)) := z_ok_wr hO17 _ (by omega)
    refine lv_goto K.1 K.2.1 d_R_direct_57 rfl ?_
    refine lv_iload_n K.1 K.2.1 d_R_direct_128 rfl (lv_at hl 1 rfl) ?_
    refine nv_iconst (v := 4) K d_R_direct_129 (by decide) ?_
    refine nv_icmp_ge K (by omega) (by omega) d_R_direct_130 rfl (fun _ => ?_) (fun h => (by omega : False).elim)
    refine lv_iload_n K.1 K.2.1 d_R_direct_138 rfl (lv_at hl 1 rfl) ?_
    refine nv_bipush (v := 6) K d_R_direct_139 (by decide) ?_
    refine nv_icmp_ge K (by omega) (by omega) d_R_direct_141 rfl (fun h => (by omega : False).elim) (fun _ => ?_)
    refine nv_bipush (v := 16) K d_R_direct_144 (by decide) ?_
    refine lv_goto K.1 K.2.1 d_R_direct_146 rfl ?_
    exact qri K hr hlk hw (by rw [h1]; rfl) (by rw [h1]; rfl) d_R_direct_151
  · have hl : lv_has ls 4 [(2, .int (nI 5)), (0, .ref a.1), (1, .int (nI b))] := by rw [h1] at hl; exact hl
    refine lv_iload_n K.1 K.2.1 d_R_direct_5 rfl (lv_at hl 0 rfl) ?_
    refine nv_iconst (v := 4) K d_R_direct_6 (by decide) ?_
    refine nv_icmp_ge K (by omega) (by omega) d_R_direct_7 rfl (fun _ => ?_) (fun h => (by omega : False).elim)
    refine lv_aload_n K.1 K.2.1 d_R_direct_20 rfl (lv_at hl 1 rfl) ?_
    refine qki K (r_nextWord (σ := σ) l D cI a hO) (cw_R_97 K (Nat.le_of_ble_eq_true rfl) (Nat.le_of_ble_eq_true rfl)) hw (va_recv (ci := 3) (q0 := 0) hw.2.2.2.1 hw.1 rfl rfl) rfl hl.1 rfl (Nat.le_of_ble_eq_true rfl) d_R_direct_21 ⟨Nat.zero_le _, Nat.zero_le _⟩ (fun H locs hw => ?_)
    have hO20 : z_Ok (z_nn σ) := z_ok_nn hO
    have hb21 : z_nw σ < 65536 := z_nw_lt hO
    refine lv_istore_n (lv' := [(3, .int (nI (z_nw σ))), (2, .int (nI 5)), (0, .ref a.1), (1, .int (nI b))]) K.1 K.2.1 d_R_direct_24 rfl hl (by decide) rfl (fun ls hl => ?_)
    refine lv_iload_n K.1 K.2.1 d_R_direct_25 rfl (lv_at hl 1 rfl) ?_
    refine nv_iconst (v := 4) K d_R_direct_26 (by decide) ?_
    refine nv_icmp_ne K (by omega) (by omega) d_R_direct_27 rfl (fun _ => ?_) (fun h => (by omega : False).elim)
    refine lv_iload_n K.1 K.2.1 d_R_direct_60 rfl (lv_at hl 1 rfl) ?_
    refine nv_iconst (v := 5) K d_R_direct_61 (by decide) ?_
    refine nv_icmp_ne K (by omega) (by omega) d_R_direct_62 rfl (fun h => (by omega : False).elim) (fun _ => ?_)
    refine lv_aload_n K.1 K.2.1 d_R_direct_65 rfl (lv_at hl 2 rfl) ?_
    refine qg_reg K hw d_R_direct_66 ?_
    refine nv_iconst (v := 5) K d_R_direct_69 (by decide) ?_
    refine lv_aload_n K.1 K.2.1 d_R_direct_70 rfl (lv_at hl 2 rfl) ?_
    refine lv_iload_n K.1 K.2.1 d_R_direct_71 rfl (lv_at hl 0 rfl) ?_
    refine qki K (r_read (σ := z_nn σ) (x := z_nw σ) l D cI a hO20 (by omega)) (cw_R_33 K (Nat.le_of_ble_eq_true rfl) (Nat.le_of_ble_eq_true rfl)) hw (va_recv (ci := 3) (q0 := 0) hw.2.2.2.1 hw.1 rfl rfl) rfl hl.1 rfl (Nat.le_of_ble_eq_true rfl) d_R_direct_72 ⟨Nat.zero_le _, Nat.zero_le _⟩ (fun H locs hw => ?_)
    refine nv_as K (y := nI (z_rd σ (z_nw σ))) rfl ?_
    have hb22 : z_rd σ (z_nw σ) < 256 := z_rd_lt hO20 _
    refine qs_reg (i := 5) (v := z_rd σ (z_nw σ)) K hw (by omega) d_R_direct_75 (fun H locs hw => ?_)
    have hO23 : z_Ok (z_s_reg (z_nn σ) (z_fs (z_x_reg σ) 5 (z_rd σ (z_nw σ)))) := z_ok_reg hO20 (z_fs_lt (z_k_reg hO) (by omega))
    refine lv_aload_n K.1 K.2.1 d_R_direct_76 rfl (lv_at hl 2 rfl) ?_
    refine qg_reg K hw d_R_direct_77 ?_
    refine nv_iconst (v := 4) K d_R_direct_80 (by decide) ?_
    refine lv_aload_n K.1 K.2.1 d_R_direct_81 rfl (lv_at hl 2 rfl) ?_
    refine lv_iload_n K.1 K.2.1 d_R_direct_82 rfl (lv_at hl 0 rfl) ?_
    refine nv_iconst (v := 1) K d_R_direct_83 (by decide) ?_
    refine nv_iadd K d_R_direct_84 ?_
    refine nv_ldc (v := 65536) K d_R_direct_85 (K.2.2.2.2 _ (List.mem_cons_of_mem _ m_constant_PortProcessorModel_48_65536)) ?_
    refine nv_irem K (by omega) (by omega) (by omega) d_R_direct_87 ?_
    refine qki K (r_read (σ := z_s_reg (z_nn σ) (z_fs (z_x_reg σ) 5 (z_rd σ (z_nw σ)))) (x := ((z_nw σ) + 1) % 65536) l D cI a hO23 (by omega)) (cw_R_33 K (Nat.le_of_ble_eq_true rfl) (Nat.le_of_ble_eq_true rfl)) hw (va_recv (ci := 3) (q0 := 0) hw.2.2.2.1 hw.1 rfl rfl) rfl hl.1 rfl (Nat.le_of_ble_eq_true rfl) d_R_direct_88 ⟨Nat.zero_le _, Nat.zero_le _⟩ (fun H locs hw => ?_)
    refine nv_as K (y := nI (z_rd σ (((z_nw σ) + 1) % 65536))) rfl ?_
    have hb24 : z_rd σ (((z_nw σ) + 1) % 65536) < 256 := z_rd_lt hO23 _
    refine qs_reg (i := 4) (v := z_rd σ (((z_nw σ) + 1) % 65536)) K hw (by omega) d_R_direct_91 (fun H locs hw => ?_)
    have hO25 : z_Ok (z_s_reg (z_s_reg (z_nn σ) (z_fs (z_x_reg σ) 5 (z_rd σ (z_nw σ)))) (z_fs (z_fs (z_x_reg σ) 5 (z_rd σ (z_nw σ))) 4 (z_rd σ (((z_nw σ) + 1) % 65536)))) := z_ok_reg hO23 (z_fs_lt (z_k_reg hO23) (by omega))
    refine lv_goto K.1 K.2.1 d_R_direct_92 rfl ?_
    refine lv_iload_n K.1 K.2.1 d_R_direct_128 rfl (lv_at hl 1 rfl) ?_
    refine nv_iconst (v := 4) K d_R_direct_129 (by decide) ?_
    refine nv_icmp_ge K (by omega) (by omega) d_R_direct_130 rfl (fun _ => ?_) (fun h => (by omega : False).elim)
    refine lv_iload_n K.1 K.2.1 d_R_direct_138 rfl (lv_at hl 1 rfl) ?_
    refine nv_bipush (v := 6) K d_R_direct_139 (by decide) ?_
    refine nv_icmp_ge K (by omega) (by omega) d_R_direct_141 rfl (fun h => (by omega : False).elim) (fun _ => ?_)
    refine nv_bipush (v := 16) K d_R_direct_144 (by decide) ?_
    refine lv_goto K.1 K.2.1 d_R_direct_146 rfl ?_
    exact qri K hr hlk hw (by rw [ss_reg, h1]; rfl) (by rw [h1]; rfl) d_R_direct_151
  · have hl : lv_has ls 4 [(2, .int (nI 6)), (0, .ref a.1), (1, .int (nI b))] := by rw [h1] at hl; exact hl
    refine lv_iload_n K.1 K.2.1 d_R_direct_5 rfl (lv_at hl 0 rfl) ?_
    refine nv_iconst (v := 4) K d_R_direct_6 (by decide) ?_
    refine nv_icmp_ge K (by omega) (by omega) d_R_direct_7 rfl (fun _ => ?_) (fun h => (by omega : False).elim)
    refine lv_aload_n K.1 K.2.1 d_R_direct_20 rfl (lv_at hl 1 rfl) ?_
    refine qki K (r_nextWord (σ := σ) l D cI a hO) (cw_R_97 K (Nat.le_of_ble_eq_true rfl) (Nat.le_of_ble_eq_true rfl)) hw (va_recv (ci := 3) (q0 := 0) hw.2.2.2.1 hw.1 rfl rfl) rfl hl.1 rfl (Nat.le_of_ble_eq_true rfl) d_R_direct_21 ⟨Nat.zero_le _, Nat.zero_le _⟩ (fun H locs hw => ?_)
    have hO26 : z_Ok (z_nn σ) := z_ok_nn hO
    have hb27 : z_nw σ < 65536 := z_nw_lt hO
    refine lv_istore_n (lv' := [(3, .int (nI (z_nw σ))), (2, .int (nI 6)), (0, .ref a.1), (1, .int (nI b))]) K.1 K.2.1 d_R_direct_24 rfl hl (by decide) rfl (fun ls hl => ?_)
    refine lv_iload_n K.1 K.2.1 d_R_direct_25 rfl (lv_at hl 1 rfl) ?_
    refine nv_iconst (v := 4) K d_R_direct_26 (by decide) ?_
    refine nv_icmp_ne K (by omega) (by omega) d_R_direct_27 rfl (fun _ => ?_) (fun h => (by omega : False).elim)
    refine lv_iload_n K.1 K.2.1 d_R_direct_60 rfl (lv_at hl 1 rfl) ?_
    refine nv_iconst (v := 5) K d_R_direct_61 (by decide) ?_
    refine nv_icmp_ne K (by omega) (by omega) d_R_direct_62 rfl (fun _ => ?_) (fun h => (by omega : False).elim)
    refine lv_iload_n K.1 K.2.1 d_R_direct_95 rfl (lv_at hl 1 rfl) ?_
    refine nv_iconst (v := 2) K d_R_direct_96 (by decide) ?_
    refine nv_irem K (by omega) (by omega) (by omega) d_R_direct_97 (nv_as K (y := nI 0) rfl ?_)
    refine nv_if_ne K (by omega) d_R_direct_98 rfl (fun h => (by omega : False).elim) (fun _ => ?_)
    refine lv_aload_n K.1 K.2.1 d_R_direct_101 rfl (lv_at hl 2 rfl) ?_
    refine lv_iload_n K.1 K.2.1 d_R_direct_102 rfl (lv_at hl 0 rfl) ?_
    refine lv_aload_n K.1 K.2.1 d_R_direct_103 rfl (lv_at hl 2 rfl) ?_
    refine qg_reg K hw d_R_direct_104 ?_
    refine nv_bipush (v := 7) K d_R_direct_107 (by decide) ?_
    refine ql_reg (i := 7) (v := z_x_reg σ 7) K hw (by omega) rfl d_R_direct_109 ?_
    have hb28 : z_x_reg σ 7 < 256 := z_k_reg hO _
    refine qkv K (r_write (σ := z_nn σ) (x := z_nw σ) (v := z_x_reg σ 7) l D cI a hO26 (by omega) (by omega)) (cw_R_37 K (Nat.le_of_ble_eq_true rfl) (Nat.le_of_ble_eq_true rfl)) hw (va_recv (ci := 3) (q0 := 0) hw.2.2.2.1 hw.1 rfl rfl) rfl hl.1 rfl (Nat.le_of_ble_eq_true rfl) d_R_direct_110 ⟨Nat.zero_le _, Nat.zero_le _⟩ (fun H locs hw => ?_)
    have hO29 : z_Ok (z_wr (z_nn σ) (z_nw σ) (z_x_reg σ 7)) := z_ok_wr hO26 _ (by omega)
    refine lv_goto K.1 K.2.1 d_R_direct_113 rfl ?_
    refine lv_iload_n K.1 K.2.1 d_R_direct_128 rfl (lv_at hl 1 rfl) ?_
    refine nv_iconst (v := 4) K d_R_direct_129 (by decide) ?_
    refine nv_icmp_ge K (by omega) (by omega) d_R_direct_130 rfl (fun _ => ?_) (fun h => (by omega : False).elim)
    refine lv_iload_n K.1 K.2.1 d_R_direct_138 rfl (lv_at hl 1 rfl) ?_
    refine nv_bipush (v := 6) K d_R_direct_139 (by decide) ?_
    refine nv_icmp_ge K (by omega) (by omega) d_R_direct_141 rfl (fun _ => ?_) (fun h => (by omega : False).elim)
    refine nv_bipush (v := 13) K d_R_direct_149 (by decide) ?_
    exact qri K hr hlk hw (by rw [h1]; rfl) (by rw [h1]; rfl) d_R_direct_151
  · have hl : lv_has ls 4 [(2, .int (nI 7)), (0, .ref a.1), (1, .int (nI b))] := by rw [h1] at hl; exact hl
    refine lv_iload_n K.1 K.2.1 d_R_direct_5 rfl (lv_at hl 0 rfl) ?_
    refine nv_iconst (v := 4) K d_R_direct_6 (by decide) ?_
    refine nv_icmp_ge K (by omega) (by omega) d_R_direct_7 rfl (fun _ => ?_) (fun h => (by omega : False).elim)
    refine lv_aload_n K.1 K.2.1 d_R_direct_20 rfl (lv_at hl 1 rfl) ?_
    refine qki K (r_nextWord (σ := σ) l D cI a hO) (cw_R_97 K (Nat.le_of_ble_eq_true rfl) (Nat.le_of_ble_eq_true rfl)) hw (va_recv (ci := 3) (q0 := 0) hw.2.2.2.1 hw.1 rfl rfl) rfl hl.1 rfl (Nat.le_of_ble_eq_true rfl) d_R_direct_21 ⟨Nat.zero_le _, Nat.zero_le _⟩ (fun H locs hw => ?_)
    have hO30 : z_Ok (z_nn σ) := z_ok_nn hO
    have hb31 : z_nw σ < 65536 := z_nw_lt hO
    refine lv_istore_n (lv' := [(3, .int (nI (z_nw σ))), (2, .int (nI 7)), (0, .ref a.1), (1, .int (nI b))]) K.1 K.2.1 d_R_direct_24 rfl hl (by decide) rfl (fun ls hl => ?_)
    refine lv_iload_n K.1 K.2.1 d_R_direct_25 rfl (lv_at hl 1 rfl) ?_
    refine nv_iconst (v := 4) K d_R_direct_26 (by decide) ?_
    refine nv_icmp_ne K (by omega) (by omega) d_R_direct_27 rfl (fun _ => ?_) (fun h => (by omega : False).elim)
    refine lv_iload_n K.1 K.2.1 d_R_direct_60 rfl (lv_at hl 1 rfl) ?_
    refine nv_iconst (v := 5) K d_R_direct_61 (by decide) ?_
    refine nv_icmp_ne K (by omega) (by omega) d_R_direct_62 rfl (fun _ => ?_) (fun h => (by omega : False).elim)
    refine lv_iload_n K.1 K.2.1 d_R_direct_95 rfl (lv_at hl 1 rfl) ?_
    refine nv_iconst (v := 2) K d_R_direct_96 (by decide) ?_
    refine nv_irem K (by omega) (by omega) (by omega) d_R_direct_97 (nv_as K (y := nI 1) rfl ?_)
    refine nv_if_ne K (by omega) d_R_direct_98 rfl (fun _ => ?_) (fun h => (by omega : False).elim)
    refine lv_aload_n K.1 K.2.1 d_R_direct_116 rfl (lv_at hl 2 rfl) ?_
    refine qg_reg K hw d_R_direct_117 ?_
    refine nv_bipush (v := 7) K d_R_direct_120 (by decide) ?_
    refine lv_aload_n K.1 K.2.1 d_R_direct_122 rfl (lv_at hl 2 rfl) ?_
    refine lv_iload_n K.1 K.2.1 d_R_direct_123 rfl (lv_at hl 0 rfl) ?_
    refine qki K (r_read (σ := z_nn σ) (x := z_nw σ) l D cI a hO30 (by omega)) (cw_R_33 K (Nat.le_of_ble_eq_true rfl) (Nat.le_of_ble_eq_true rfl)) hw (va_recv (ci := 3) (q0 := 0) hw.2.2.2.1 hw.1 rfl rfl) rfl hl.1 rfl (Nat.le_of_ble_eq_true rfl) d_R_direct_124 ⟨Nat.zero_le _, Nat.zero_le _⟩ (fun H locs hw => ?_)
    refine nv_as K (y := nI (z_rd σ (z_nw σ))) rfl ?_
    have hb32 : z_rd σ (z_nw σ) < 256 := z_rd_lt hO30 _
    refine qs_reg (i := 7) (v := z_rd σ (z_nw σ)) K hw (by omega) d_R_direct_127 (fun H locs hw => ?_)
    have hO33 : z_Ok (z_s_reg (z_nn σ) (z_fs (z_x_reg σ) 7 (z_rd σ (z_nw σ)))) := z_ok_reg hO30 (z_fs_lt (z_k_reg hO) (by omega))
    refine lv_iload_n K.1 K.2.1 d_R_direct_128 rfl (lv_at hl 1 rfl) ?_
    refine nv_iconst (v := 4) K d_R_direct_129 (by decide) ?_
    refine nv_icmp_ge K (by omega) (by omega) d_R_direct_130 rfl (fun _ => ?_) (fun h => (by omega : False).elim)
    refine lv_iload_n K.1 K.2.1 d_R_direct_138 rfl (lv_at hl 1 rfl) ?_
    refine nv_bipush (v := 6) K d_R_direct_139 (by decide) ?_
    refine nv_icmp_ge K (by omega) (by omega) d_R_direct_141 rfl (fun _ => ?_) (fun h => (by omega : False).elim)
    refine nv_bipush (v := 13) K d_R_direct_149 (by decide) ?_
    exact qri K hr hlk hw (by rw [h1]; rfl) (by rw [h1]; rfl) d_R_direct_151

set_option maxHeartbeats 4000000 in
set_option maxRecDepth 100000 in
theorem r_first {σ : z_St} {b : Nat} (l : Launch) (D : va_G) (cI : ClassId) (a : qAd) (hO : z_Ok σ) (hb : b < 64) : qCi l y_R_first w_R_first 4 86 D cI a [.ref a.1, .int (nI b)] σ (z_ea σ b) (nI (z_ta b)) := by
  refine qci_of (cc := b_R_first) (maxL := 7) (ret := (some .int)) (by decide) rfl (Nat.le_of_ble_eq_true rfl) ?_
  intro p e s m below meth c ls K hr hlk hl hw
  have K : CallFix p m c b_R_first 7 s _ (_ :: T0) "PortProcessorModel" := K
  have hl : lv_has ls 7 [(0, .ref a.1), (1, .int (nI b))] := hl
  refine lv_iload_n K.1 K.2.1 d_R_first_0 rfl (lv_at hl 1 rfl) ?_
  refine nv_bipush (v := 8) K d_R_first_1 (by decide) ?_
  refine nv_irem K (by omega) (by omega) (by omega) d_R_first_3 ?_
  refine lv_istore_n (lv' := [(2, .int (nI (b % 8))), (0, .ref a.1), (1, .int (nI b))]) K.1 K.2.1 d_R_first_4 rfl hl (by decide) rfl (fun ls hl => ?_)
  refine lv_iload_n K.1 K.2.1 d_R_first_5 rfl (lv_at hl 2 rfl) ?_
  refine nv_bipush (v := 8) K d_R_first_6 (by decide) ?_
  refine nv_idiv K (by omega) (by omega) (by omega) d_R_first_8 ?_
  refine lv_istore_n (lv' := [(3, .int (nI (b / 8))), (2, .int (nI (b % 8))), (0, .ref a.1), (1, .int (nI b))]) K.1 K.2.1 d_R_first_9 rfl hl (by decide) rfl (fun ls hl => ?_)
  refine lv_iload_n K.1 K.2.1 d_R_first_10 rfl (lv_at hl 3 rfl) ?_
  refine nv_bipush (v := 16) K d_R_first_11 (by decide) ?_
  refine nv_idiv K (by omega) (by omega) (by omega) d_R_first_13 ?_
  refine lv_istore (lv' := [(4, .int (nI (b / 16))), (3, .int (nI (b / 8))), (2, .int (nI (b % 8))), (0, .ref a.1), (1, .int (nI b))]) K.1 K.2.1 d_R_first_14 hl (by decide) rfl (fun ls hl => ?_)
  refine lv_iload_n K.1 K.2.1 d_R_first_16 rfl (lv_at hl 4 rfl) ?_
  refine nv_bipush (v := 8) K d_R_first_17 (by decide) ?_
  refine nv_idiv K (by omega) (by omega) (by omega) d_R_first_19 ?_
  refine nv_iconst (v := 2) K d_R_first_20 (by decide) ?_
  refine nv_irem K (by omega) (by omega) (by omega) d_R_first_21 ?_
  refine nv_iconst (v := 1) K d_R_first_22 (by decide) ?_
  refine nv_icmp_ne K (by omega) (by omega) d_R_first_23 rfl (fun h1 => ?_) (fun h1 => ?_)
  · refine nv_iconst (v := 0) K d_R_first_30 (by decide) ?_
    refine lv_istore (lv' := [(5, .int (nI 0)), (4, .int (nI (b / 16))), (3, .int (nI (b / 8))), (2, .int (nI (b % 8))), (0, .ref a.1), (1, .int (nI b))]) K.1 K.2.1 d_R_first_31 hl (by decide) rfl (fun ls hl => ?_)
    rcases (by omega : b % 8 = 0 ∨ b % 8 = 1 ∨ b % 8 = 2 ∨ b % 8 = 3 ∨ b % 8 = 4 ∨ b % 8 = 5 ∨ b % 8 = 6 ∨ b % 8 = 7) with h2 | h2 | h2 | h2 | h2 | h2 | h2 | h2
    · have hl : lv_has ls 7 [(5, .int (nI 0)), (4, .int (nI (b / 16))), (3, .int (nI (b / 8))), (2, .int (nI 0)), (0, .ref a.1), (1, .int (nI b))] := by rw [h2] at hl; exact hl
      refine lv_iload_n K.1 K.2.1 d_R_first_33 rfl (lv_at hl 3 rfl) ?_
      refine nv_if_ne K (by omega) d_R_first_34 rfl (fun h => (by omega : False).elim) (fun _ => ?_)
      refine nv_iconst (v := 4) K d_R_first_37 (by decide) ?_
      exact qri K hr hlk hw (by unfold z_ea; rw [h2]; rfl) (by unfold z_ta; rw [h2]; rfl) d_R_first_38
    · have hl : lv_has ls 7 [(5, .int (nI 0)), (4, .int (nI (b / 16))), (3, .int (nI (b / 8))), (2, .int (nI 1)), (0, .ref a.1), (1, .int (nI b))] := by rw [h2] at hl; exact hl
      refine lv_iload_n K.1 K.2.1 d_R_first_33 rfl (lv_at hl 3 rfl) ?_
      refine nv_if_ne K (by omega) d_R_first_34 rfl (fun _ => ?_) (fun h => (by omega : False).elim)
      refine lv_iload_n K.1 K.2.1 d_R_first_39 rfl (lv_at hl 3 rfl) ?_
      refine nv_iconst (v := 1) K d_R_first_40 (by decide) ?_
      refine nv_icmp_ne K (by omega) (by omega) d_R_first_41 rfl (fun h => (by omega : False).elim) (fun _ => ?_)
      refine lv_iload K.1 K.2.1 d_R_first_44 (lv_at hl 0 rfl) ?_
      refine nv_if_ne K (by omega) d_R_first_46 rfl (fun h => (by omega : False).elim) (fun _ => ?_)
      refine lv_aload_n K.1 K.2.1 d_R_first_49 rfl (lv_at hl 4 rfl) ?_
      refine lv_iload K.1 K.2.1 d_R_first_50 (lv_at hl 1 rfl) ?_
      refine lv_aload_n K.1 K.2.1 d_R_first_52 rfl (lv_at hl 4 rfl) ?_
      refine qki K (r_nextWord (σ := σ) l D cI a hO) (cw_R_97 K (Nat.le_of_ble_eq_true rfl) (Nat.le_of_ble_eq_true rfl)) hw (va_recv (ci := 3) (q0 := 0) hw.2.2.2.1 hw.1 rfl rfl) rfl hl.1 rfl (Nat.le_of_ble_eq_true rfl) d_R_first_53 ⟨Nat.zero_le _, Nat.zero_le _⟩ (fun H locs hw => ?_)
      have hO3 : z_Ok (z_nn σ) := z_ok_nn hO
      have hb4 : z_nw σ < 65536 := z_nw_lt hO
      refine qkv K (r_setPair (σ := z_nn σ) (k := b / 16) (v := z_nw σ) l D cI a hO3 (by omega) (by omega)) (cw_R_100 K (Nat.le_of_ble_eq_true rfl) (Nat.le_of_ble_eq_true rfl)) hw (va_recv (ci := 3) (q0 := 0) hw.2.2.2.1 hw.1 rfl rfl) rfl hl.1 rfl (Nat.le_of_ble_eq_true rfl) d_R_first_56 ⟨Nat.zero_le _, Nat.zero_le _⟩ (fun H locs hw => ?_)
      have hO5 : z_Ok (z_ps (z_nn σ) (b / 16) ((z_nw σ) % 65536)) := z_ok_ps hO3 _ (by omega)
      refine lv_iload_n K.1 K.2.1 d_R_first_59 rfl (lv_at hl 3 rfl) ?_
      refine nv_iconst (v := 1) K d_R_first_60 (by decide) ?_
      refine nv_icmp_ne K (by omega) (by omega) d_R_first_61 rfl (fun h => (by omega : False).elim) (fun _ => ?_)
      refine lv_iload K.1 K.2.1 d_R_first_64 (lv_at hl 0 rfl) ?_
      refine nv_if_eq K (by omega) d_R_first_66 rfl (fun _ => ?_) (fun h => (by omega : False).elim)
      refine lv_iload_n K.1 K.2.1 d_R_first_98 rfl (lv_at hl 3 rfl) ?_
      refine nv_iconst (v := 1) K d_R_first_99 (by decide) ?_
      refine nv_icmp_ne K (by omega) (by omega) d_R_first_100 rfl (fun h => (by omega : False).elim) (fun _ => ?_)
      refine nv_bipush (v := 10) K d_R_first_103 (by decide) ?_
      exact qri K hr hlk hw (by rw [Nat.mod_eq_of_lt (z_nw_lt hO)]; exact (ea_1a hb h2 (by omega)).symm) (by unfold z_ta; rw [h2]; rfl) d_R_first_105
    · have hl : lv_has ls 7 [(5, .int (nI 0)), (4, .int (nI (b / 16))), (3, .int (nI (b / 8))), (2, .int (nI 2)), (0, .ref a.1), (1, .int (nI b))] := by rw [h2] at hl; exact hl
      refine lv_iload_n K.1 K.2.1 d_R_first_33 rfl (lv_at hl 3 rfl) ?_
      refine nv_if_ne K (by omega) d_R_first_34 rfl (fun _ => ?_) (fun h => (by omega : False).elim)
      refine lv_iload_n K.1 K.2.1 d_R_first_39 rfl (lv_at hl 3 rfl) ?_
      refine nv_iconst (v := 1) K d_R_first_40 (by decide) ?_
      refine nv_icmp_ne K (by omega) (by omega) d_R_first_41 rfl (fun _ => ?_) (fun h => (by omega : False).elim)
      refine lv_iload_n K.1 K.2.1 d_R_first_59 rfl (lv_at hl 3 rfl) ?_
      refine nv_iconst (v := 1) K d_R_first_60 (by decide) ?_
      refine nv_icmp_ne K (by omega) (by omega) d_R_first_61 rfl (fun _ => ?_) (fun h => (by omega : False).elim)
      refine lv_iload_n K.1 K.2.1 d_R_first_98 rfl (lv_at hl 3 rfl) ?_
      refine nv_iconst (v := 1) K d_R_first_99 (by decide) ?_
      refine nv_icmp_ne K (by omega) (by omega) d_R_first_100 rfl (fun _ => ?_) (fun h => (by omega : False).elim)
      refine lv_iload_n K.1 K.2.1 d_R_first_106 rfl (lv_at hl 3 rfl) ?_
      refine nv_iconst (v := 2) K d_R_first_107 (by decide) ?_
      refine nv_icmp_ne K (by omega) (by omega) d_R_first_108 rfl (fun h => (by omega : False).elim) (fun _ => ?_)
      refine lv_aload_n K.1 K.2.1 d_R_first_111 rfl (lv_at hl 4 rfl) ?_
      refine lv_iload_n K.1 K.2.1 d_R_first_112 rfl (lv_at hl 5 rfl) ?_
      refine qki K (r_direct (σ := σ) (b := b) l D cI a hO (by omega)) (cw_R_106 K (Nat.le_of_ble_eq_true rfl) (Nat.le_of_ble_eq_true rfl)) hw (va_recv (ci := 3) (q0 := 0) hw.2.2.2.1 hw.1 rfl rfl) rfl hl.1 rfl (Nat.le_of_ble_eq_true rfl) d_R_first_113 ⟨Nat.zero_le _, Nat.zero_le _⟩ (fun H locs hw => ?_)
      have hO6 : z_Ok (z_e2 σ (b / 8)) := z_ok_e2 hO _
      have hb7 : z_t2 (b / 8) < 17 := z_t2_lt _
      exact qri K hr hlk hw (by unfold z_ea; rw [h2]; rfl) (by unfold z_ta; rw [h2]; rfl) d_R_first_116
    · have hl : lv_has ls 7 [(5, .int (nI 0)), (4, .int (nI (b / 16))), (3, .int (nI (b / 8))), (2, .int (nI 3)), (0, .ref a.1), (1, .int (nI b))] := by rw [h2] at hl; exact hl
      refine lv_iload_n K.1 K.2.1 d_R_first_33 rfl (lv_at hl 3 rfl) ?_
      refine nv_if_ne K (by omega) d_R_first_34 rfl (fun _ => ?_) (fun h => (by omega : False).elim)
      refine lv_iload_n K.1 K.2.1 d_R_first_39 rfl (lv_at hl 3 rfl) ?_
      refine nv_iconst (v := 1) K d_R_first_40 (by decide) ?_
      refine nv_icmp_ne K (by omega) (by omega) d_R_first_41 rfl (fun _ => ?_) (fun h => (by omega : False).elim)
      refine lv_iload_n K.1 K.2.1 d_R_first_59 rfl (lv_at hl 3 rfl) ?_
      refine nv_iconst (v := 1) K d_R_first_60 (by decide) ?_
      refine nv_icmp_ne K (by omega) (by omega) d_R_first_61 rfl (fun _ => ?_) (fun h => (by omega : False).elim)
      refine lv_iload_n K.1 K.2.1 d_R_first_98 rfl (lv_at hl 3 rfl) ?_
      refine nv_iconst (v := 1) K d_R_first_99 (by decide) ?_
      refine nv_icmp_ne K (by omega) (by omega) d_R_first_100 rfl (fun _ => ?_) (fun h => (by omega : False).elim)
      refine lv_iload_n K.1 K.2.1 d_R_first_106 rfl (lv_at hl 3 rfl) ?_
      refine nv_iconst (v := 2) K d_R_first_107 (by decide) ?_
      refine nv_icmp_ne K (by omega) (by omega) d_R_first_108 rfl (fun _ => ?_) (fun h => (by omega : False).elim)
      refine lv_iload_n K.1 K.2.1 d_R_first_117 rfl (lv_at hl 3 rfl) ?_
      refine nv_iconst (v := 3) K d_R_first_118 (by decide) ?_
      refine nv_icmp_ne K (by omega) (by omega) d_R_first_119 rfl (fun h => (by omega : False).elim) (fun _ => ?_)
      refine lv_aload_n K.1 K.2.1 d_R_first_122 rfl (lv_at hl 4 rfl) ?_
      refine lv_iload K.1 K.2.1 d_R_first_123 (lv_at hl 1 rfl) ?_
      refine lv_aload_n K.1 K.2.1 d_R_first_125 rfl (lv_at hl 4 rfl) ?_
      refine lv_iload K.1 K.2.1 d_R_first_126 (lv_at hl 1 rfl) ?_
      refine qki K (r_pair (σ := σ) (k := b / 16) l D cI a hO (by omega)) (cw_R_103 K (Nat.le_of_ble_eq_true rfl) (Nat.le_of_ble_eq_true rfl)) hw (va_recv (ci := 3) (q0 := 0) hw.2.2.2.1 hw.1 rfl rfl) rfl hl.1 rfl (Nat.le_of_ble_eq_true rfl) d_R_first_128 ⟨Nat.zero_le _, Nat.zero_le _⟩ (fun H locs hw => ?_)
      have hb8 : z_pg σ (b / 16) < 65536 := z_pg_lt hO _
      refine lv_iload K.1 K.2.1 d_R_first_131 (lv_at hl 0 rfl) ?_
      refine nv_if_eq K (by omega) d_R_first_133 rfl (fun _ => ?_) (fun h => (by omega : False).elim)
      refine nv_iconst (v := 1) K d_R_first_141 (by decide) ?_
      refine nv_iadd K d_R_first_142 ?_
      refine qkv K (r_setPair (σ := σ) (k := b / 16) (v := (z_pg σ (b / 16)) + 1) l D cI a hO (by omega) (by omega)) (cw_R_100 K (Nat.le_of_ble_eq_true rfl) (Nat.le_of_ble_eq_true rfl)) hw (va_recv (ci := 3) (q0 := 0) hw.2.2.2.1 hw.1 rfl rfl) rfl hl.1 rfl (Nat.le_of_ble_eq_true rfl) d_R_first_143 ⟨Nat.zero_le _, Nat.zero_le _⟩ (fun H locs hw => ?_)
      have hO9 : z_Ok (z_ps σ (b / 16) (((z_pg σ (b / 16)) + 1) % 65536)) := z_ok_ps hO _ (by omega)
      refine nv_iconst (v := 5) K d_R_first_146 (by decide) ?_
      exact qri K hr hlk hw (by exact (ea_3a hb h2 (by omega)).symm) (by unfold z_ta; rw [h2]; rfl) d_R_first_147
    · have hl : lv_has ls 7 [(5, .int (nI 0)), (4, .int (nI (b / 16))), (3, .int (nI (b / 8))), (2, .int (nI 4)), (0, .ref a.1), (1, .int (nI b))] := by rw [h2] at hl; exact hl
      refine lv_iload_n K.1 K.2.1 d_R_first_33 rfl (lv_at hl 3 rfl) ?_
      refine nv_if_ne K (by omega) d_R_first_34 rfl (fun _ => ?_) (fun h => (by omega : False).elim)
      refine lv_iload_n K.1 K.2.1 d_R_first_39 rfl (lv_at hl 3 rfl) ?_
      refine nv_iconst (v := 1) K d_R_first_40 (by decide) ?_
      refine nv_icmp_ne K (by omega) (by omega) d_R_first_41 rfl (fun _ => ?_) (fun h => (by omega : False).elim)
      refine lv_iload_n K.1 K.2.1 d_R_first_59 rfl (lv_at hl 3 rfl) ?_
      refine nv_iconst (v := 1) K d_R_first_60 (by decide) ?_
      refine nv_icmp_ne K (by omega) (by omega) d_R_first_61 rfl (fun _ => ?_) (fun h => (by omega : False).elim)
      refine lv_iload_n K.1 K.2.1 d_R_first_98 rfl (lv_at hl 3 rfl) ?_
      refine nv_iconst (v := 1) K d_R_first_99 (by decide) ?_
      refine nv_icmp_ne K (by omega) (by omega) d_R_first_100 rfl (fun _ => ?_) (fun h => (by omega : False).elim)
      refine lv_iload_n K.1 K.2.1 d_R_first_106 rfl (lv_at hl 3 rfl) ?_
      refine nv_iconst (v := 2) K d_R_first_107 (by decide) ?_
      refine nv_icmp_ne K (by omega) (by omega) d_R_first_108 rfl (fun _ => ?_) (fun h => (by omega : False).elim)
      refine lv_iload_n K.1 K.2.1 d_R_first_117 rfl (lv_at hl 3 rfl) ?_
      refine nv_iconst (v := 3) K d_R_first_118 (by decide) ?_
      refine nv_icmp_ne K (by omega) (by omega) d_R_first_119 rfl (fun _ => ?_) (fun h => (by omega : False).elim)
      refine lv_iload_n K.1 K.2.1 d_R_first_148 rfl (lv_at hl 3 rfl) ?_
      refine nv_bipush (v := 6) K d_R_first_149 (by decide) ?_
      refine nv_icmp_ne K (by omega) (by omega) d_R_first_151 rfl (fun _ => ?_) (fun h => (by omega : False).elim)
      refine lv_iload_n K.1 K.2.1 d_R_first_177 rfl (lv_at hl 3 rfl) ?_
      refine nv_bipush (v := 7) K d_R_first_178 (by decide) ?_
      refine nv_icmp_ne K (by omega) (by omega) d_R_first_180 rfl (fun _ => ?_) (fun h => (by omega : False).elim)
      refine lv_aload_n K.1 K.2.1 d_R_first_190 rfl (lv_at hl 4 rfl) ?_
      refine lv_iload_n K.1 K.2.1 d_R_first_191 rfl (lv_at hl 2 rfl) ?_
      refine qki K (r_get (σ := σ) (r := b / 8) l D cI a hO (by omega)) (cw_R_85 K (Nat.le_of_ble_eq_true rfl) (Nat.le_of_ble_eq_true rfl)) hw (va_recv (ci := 3) (q0 := 0) hw.2.2.2.1 hw.1 rfl rfl) rfl hl.1 rfl (Nat.le_of_ble_eq_true rfl) d_R_first_192 ⟨Nat.zero_le _, Nat.zero_le _⟩ (fun H locs hw => ?_)
      have hb10 : z_rg σ (b / 8) < 256 := z_rg_lt hO _
      refine lv_iload_n K.1 K.2.1 d_R_first_195 rfl (lv_at hl 3 rfl) ?_
      refine nv_iconst (v := 4) K d_R_first_196 (by decide) ?_
      refine nv_icmp_ne K (by omega) (by omega) d_R_first_197 rfl (fun h => (by omega : False).elim) (fun _ => ?_)
      refine nv_iconst (v := 1) K d_R_first_200 (by decide) ?_
      refine lv_goto K.1 K.2.1 d_R_first_201 rfl ?_
      refine nv_iadd K d_R_first_207 ?_
      refine nv_sipush (v := 256) K d_R_first_208 (by decide) ?_
      refine nv_irem K (by omega) (by omega) (by omega) d_R_first_211 ?_
      refine lv_istore (lv' := [(6, .int (nI (((z_rg σ (b / 8)) + 1) % 256))), (5, .int (nI 0)), (4, .int (nI (b / 16))), (3, .int (nI (b / 8))), (2, .int (nI 4)), (0, .ref a.1), (1, .int (nI b))]) K.1 K.2.1 d_R_first_212 hl (by decide) rfl (fun ls hl => ?_)
      refine lv_aload_n K.1 K.2.1 d_R_first_214 rfl (lv_at hl 5 rfl) ?_
      refine lv_iload_n K.1 K.2.1 d_R_first_215 rfl (lv_at hl 4 rfl) ?_
      refine nv_iconst (v := 4) K d_R_first_216 (by decide) ?_
      refine nv_icmp_ne K (by omega) (by omega) d_R_first_217 rfl (fun h => (by omega : False).elim) (fun _ => ?_)
      refine lv_iload K.1 K.2.1 d_R_first_220 (lv_at hl 0 rfl) ?_
      refine nv_bipush (v := 16) K d_R_first_222 (by decide) ?_
      refine nv_irem K (by omega) (by omega) (by omega) d_R_first_224 ?_
      refine nf_if_ne (u := 0) (v := 1) (Y := 251) K (by omega) d_R_first_225 rfl (fun _ k => nv_iconst (v := 0) K d_R_first_232 (by decide) (lv_goto K.1 K.2.1 d_R_first_233 rfl k)) (fun _ k => nv_iconst (v := 1) K d_R_first_228 (by decide) (lv_goto K.1 K.2.1 d_R_first_229 rfl k)) ?_
      have hb11 : (if ((((z_rg σ (b / 8)) + 1) % 256) % 16) = 0 then 1 else 0) < 2 := z_ite_ltB _ (by omega) (by omega)
      refine qp_half (v := (if ((((z_rg σ (b / 8)) + 1) % 256) % 16) = 0 then 1 else 0)) K hw d_R_first_251 (fun H locs hw => ?_)
      have hO12 : z_Ok (z_s_au σ (if ((((z_rg σ (b / 8)) + 1) % 256) % 16) = 0 then 1 else 0)) := z_ok_au hO (by omega)
      refine lv_aload_n K.1 K.2.1 d_R_first_254 rfl (lv_at hl 5 rfl) ?_
      refine lv_iload K.1 K.2.1 d_R_first_255 (lv_at hl 0 rfl) ?_
      refine qkv K (r_show (σ := z_s_au σ (if ((((z_rg σ (b / 8)) + 1) % 256) % 16) = 0 then 1 else 0)) (v := ((z_rg σ (b / 8)) + 1) % 256) l D cI a hO12 (by omega)) (cw_R_67 K (Nat.le_of_ble_eq_true rfl) (Nat.le_of_ble_eq_true rfl)) hw (va_recv (ci := 3) (q0 := 0) hw.2.2.2.1 hw.1 rfl rfl) rfl hl.1 rfl (Nat.le_of_ble_eq_true rfl) d_R_first_257 ⟨Nat.zero_le _, Nat.zero_le _⟩ (fun H locs hw => ?_)
      have hO13 : z_Ok (z_jd (z_s_au σ (if ((((z_rg σ (b / 8)) + 1) % 256) % 16) = 0 then 1 else 0)) (((z_rg σ (b / 8)) + 1) % 256)) := z_ok_jd hO12 (by omega)
      refine lv_aload_n K.1 K.2.1 d_R_first_260 rfl (lv_at hl 5 rfl) ?_
      refine lv_iload_n K.1 K.2.1 d_R_first_261 rfl (lv_at hl 3 rfl) ?_
      refine lv_iload K.1 K.2.1 d_R_first_262 (lv_at hl 0 rfl) ?_
      refine qkv K (r_set8 (σ := z_jd (z_s_au σ (if ((((z_rg σ (b / 8)) + 1) % 256) % 16) = 0 then 1 else 0)) (((z_rg σ (b / 8)) + 1) % 256)) (r := b / 8) (v := ((z_rg σ (b / 8)) + 1) % 256) l D cI a hO13 (by omega) (by omega)) (cw_R_88 K (Nat.le_of_ble_eq_true rfl) (Nat.le_of_ble_eq_true rfl)) hw (va_recv (ci := 3) (q0 := 0) hw.2.2.2.1 hw.1 rfl rfl) rfl hl.1 rfl (Nat.le_of_ble_eq_true rfl) d_R_first_264 ⟨Nat.zero_le _, Nat.zero_le _⟩ (fun H locs hw => ?_)
      have hO14 : z_Ok (z_rs (z_jd (z_s_au σ (if ((((z_rg σ (b / 8)) + 1) % 256) % 16) = 0 then 1 else 0)) (((z_rg σ (b / 8)) + 1) % 256)) (b / 8) (((z_rg σ (b / 8)) + 1) % 256)) := z_ok_rs hO13 _ (by omega)
      refine lv_iload_n K.1 K.2.1 d_R_first_267 rfl (lv_at hl 3 rfl) ?_
      refine nv_bipush (v := 6) K d_R_first_268 (by decide) ?_
      refine nf_icmp_ne (u := 5) (v := 10) (Y := 279) K (by omega) (by omega) d_R_first_270 rfl (fun _ k => nv_iconst (v := 5) K d_R_first_278 (by decide) k) (fun _ k => nv_bipush (v := 10) K d_R_first_273 (by decide) (lv_goto K.1 K.2.1 d_R_first_275 rfl k)) ?_
      have hb15 : (if (b / 8) = 6 then 10 else 5) < 11 := z_ite_ltB _ (by omega) (by omega)
      exact qri K hr hlk hw (by exact (ea_4 hb h2).symm) (congrArg nI (by unfold z_ta; rw [h2, show b / 8 % 8 = b / 8 by omega]; rfl)) d_R_first_279
    · have hl : lv_has ls 7 [(5, .int (nI 0)), (4, .int (nI (b / 16))), (3, .int (nI (b / 8))), (2, .int (nI 5)), (0, .ref a.1), (1, .int (nI b))] := by rw [h2] at hl; exact hl
      refine lv_iload_n K.1 K.2.1 d_R_first_33 rfl (lv_at hl 3 rfl) ?_
      refine nv_if_ne K (by omega) d_R_first_34 rfl (fun _ => ?_) (fun h => (by omega : False).elim)
      refine lv_iload_n K.1 K.2.1 d_R_first_39 rfl (lv_at hl 3 rfl) ?_
      refine nv_iconst (v := 1) K d_R_first_40 (by decide) ?_
      refine nv_icmp_ne K (by omega) (by omega) d_R_first_41 rfl (fun _ => ?_) (fun h => (by omega : False).elim)
      refine lv_iload_n K.1 K.2.1 d_R_first_59 rfl (lv_at hl 3 rfl) ?_
      refine nv_iconst (v := 1) K d_R_first_60 (by decide) ?_
      refine nv_icmp_ne K (by omega) (by omega) d_R_first_61 rfl (fun _ => ?_) (fun h => (by omega : False).elim)
      refine lv_iload_n K.1 K.2.1 d_R_first_98 rfl (lv_at hl 3 rfl) ?_
      refine nv_iconst (v := 1) K d_R_first_99 (by decide) ?_
      refine nv_icmp_ne K (by omega) (by omega) d_R_first_100 rfl (fun _ => ?_) (fun h => (by omega : False).elim)
      refine lv_iload_n K.1 K.2.1 d_R_first_106 rfl (lv_at hl 3 rfl) ?_
      refine nv_iconst (v := 2) K d_R_first_107 (by decide) ?_
      refine nv_icmp_ne K (by omega) (by omega) d_R_first_108 rfl (fun _ => ?_) (fun h => (by omega : False).elim)
      refine lv_iload_n K.1 K.2.1 d_R_first_117 rfl (lv_at hl 3 rfl) ?_
      refine nv_iconst (v := 3) K d_R_first_118 (by decide) ?_
      refine nv_icmp_ne K (by omega) (by omega) d_R_first_119 rfl (fun _ => ?_) (fun h => (by omega : False).elim)
      refine lv_iload_n K.1 K.2.1 d_R_first_148 rfl (lv_at hl 3 rfl) ?_
      refine nv_bipush (v := 6) K d_R_first_149 (by decide) ?_
      refine nv_icmp_ne K (by omega) (by omega) d_R_first_151 rfl (fun _ => ?_) (fun h => (by omega : False).elim)
      refine lv_iload_n K.1 K.2.1 d_R_first_177 rfl (lv_at hl 3 rfl) ?_
      refine nv_bipush (v := 7) K d_R_first_178 (by decide) ?_
      refine nv_icmp_ne K (by omega) (by omega) d_R_first_180 rfl (fun _ => ?_) (fun h => (by omega : False).elim)
      refine lv_aload_n K.1 K.2.1 d_R_first_190 rfl (lv_at hl 4 rfl) ?_
      refine lv_iload_n K.1 K.2.1 d_R_first_191 rfl (lv_at hl 2 rfl) ?_
      refine qki K (r_get (σ := σ) (r := b / 8) l D cI a hO (by omega)) (cw_R_85 K (Nat.le_of_ble_eq_true rfl) (Nat.le_of_ble_eq_true rfl)) hw (va_recv (ci := 3) (q0 := 0) hw.2.2.2.1 hw.1 rfl rfl) rfl hl.1 rfl (Nat.le_of_ble_eq_true rfl) d_R_first_192 ⟨Nat.zero_le _, Nat.zero_le _⟩ (fun H locs hw => ?_)
      have hb16 : z_rg σ (b / 8) < 256 := z_rg_lt hO _
      refine lv_iload_n K.1 K.2.1 d_R_first_195 rfl (lv_at hl 3 rfl) ?_
      refine nv_iconst (v := 4) K d_R_first_196 (by decide) ?_
      refine nv_icmp_ne K (by omega) (by omega) d_R_first_197 rfl (fun _ => ?_) (fun h => (by omega : False).elim)
      refine nv_sipush (v := 255) K d_R_first_204 (by decide) ?_
      refine nv_iadd K d_R_first_207 ?_
      refine nv_sipush (v := 256) K d_R_first_208 (by decide) ?_
      refine nv_irem K (by omega) (by omega) (by omega) d_R_first_211 ?_
      refine lv_istore (lv' := [(6, .int (nI (((z_rg σ (b / 8)) + 255) % 256))), (5, .int (nI 0)), (4, .int (nI (b / 16))), (3, .int (nI (b / 8))), (2, .int (nI 5)), (0, .ref a.1), (1, .int (nI b))]) K.1 K.2.1 d_R_first_212 hl (by decide) rfl (fun ls hl => ?_)
      refine lv_aload_n K.1 K.2.1 d_R_first_214 rfl (lv_at hl 5 rfl) ?_
      refine lv_iload_n K.1 K.2.1 d_R_first_215 rfl (lv_at hl 4 rfl) ?_
      refine nv_iconst (v := 4) K d_R_first_216 (by decide) ?_
      refine nv_icmp_ne K (by omega) (by omega) d_R_first_217 rfl (fun _ => ?_) (fun h => (by omega : False).elim)
      refine lv_iload K.1 K.2.1 d_R_first_236 (lv_at hl 0 rfl) ?_
      refine nv_bipush (v := 16) K d_R_first_238 (by decide) ?_
      refine nv_irem K (by omega) (by omega) (by omega) d_R_first_240 ?_
      refine nv_bipush (v := 15) K d_R_first_241 (by decide) ?_
      refine nf_icmp_ne (u := 1) (v := 0) (Y := 251) K (by omega) (by omega) d_R_first_243 rfl (fun _ k => nv_iconst (v := 1) K d_R_first_250 (by decide) k) (fun _ k => nv_iconst (v := 0) K d_R_first_246 (by decide) (lv_goto K.1 K.2.1 d_R_first_247 rfl k)) ?_
      have hb17 : (if ((((z_rg σ (b / 8)) + 255) % 256) % 16) = 15 then 0 else 1) < 2 := z_ite_ltB _ (by omega) (by omega)
      refine qp_half (v := (if ((((z_rg σ (b / 8)) + 255) % 256) % 16) = 15 then 0 else 1)) K hw d_R_first_251 (fun H locs hw => ?_)
      have hO18 : z_Ok (z_s_au σ (if ((((z_rg σ (b / 8)) + 255) % 256) % 16) = 15 then 0 else 1)) := z_ok_au hO (by omega)
      refine lv_aload_n K.1 K.2.1 d_R_first_254 rfl (lv_at hl 5 rfl) ?_
      refine lv_iload K.1 K.2.1 d_R_first_255 (lv_at hl 0 rfl) ?_
      refine qkv K (r_show (σ := z_s_au σ (if ((((z_rg σ (b / 8)) + 255) % 256) % 16) = 15 then 0 else 1)) (v := ((z_rg σ (b / 8)) + 255) % 256) l D cI a hO18 (by omega)) (cw_R_67 K (Nat.le_of_ble_eq_true rfl) (Nat.le_of_ble_eq_true rfl)) hw (va_recv (ci := 3) (q0 := 0) hw.2.2.2.1 hw.1 rfl rfl) rfl hl.1 rfl (Nat.le_of_ble_eq_true rfl) d_R_first_257 ⟨Nat.zero_le _, Nat.zero_le _⟩ (fun H locs hw => ?_)
      have hO19 : z_Ok (z_jd (z_s_au σ (if ((((z_rg σ (b / 8)) + 255) % 256) % 16) = 15 then 0 else 1)) (((z_rg σ (b / 8)) + 255) % 256)) := z_ok_jd hO18 (by omega)
      refine lv_aload_n K.1 K.2.1 d_R_first_260 rfl (lv_at hl 5 rfl) ?_
      refine lv_iload_n K.1 K.2.1 d_R_first_261 rfl (lv_at hl 3 rfl) ?_
      refine lv_iload K.1 K.2.1 d_R_first_262 (lv_at hl 0 rfl) ?_
      refine qkv K (r_set8 (σ := z_jd (z_s_au σ (if ((((z_rg σ (b / 8)) + 255) % 256) % 16) = 15 then 0 else 1)) (((z_rg σ (b / 8)) + 255) % 256)) (r := b / 8) (v := ((z_rg σ (b / 8)) + 255) % 256) l D cI a hO19 (by omega) (by omega)) (cw_R_88 K (Nat.le_of_ble_eq_true rfl) (Nat.le_of_ble_eq_true rfl)) hw (va_recv (ci := 3) (q0 := 0) hw.2.2.2.1 hw.1 rfl rfl) rfl hl.1 rfl (Nat.le_of_ble_eq_true rfl) d_R_first_264 ⟨Nat.zero_le _, Nat.zero_le _⟩ (fun H locs hw => ?_)
      have hO20 : z_Ok (z_rs (z_jd (z_s_au σ (if ((((z_rg σ (b / 8)) + 255) % 256) % 16) = 15 then 0 else 1)) (((z_rg σ (b / 8)) + 255) % 256)) (b / 8) (((z_rg σ (b / 8)) + 255) % 256)) := z_ok_rs hO19 _ (by omega)
      refine lv_iload_n K.1 K.2.1 d_R_first_267 rfl (lv_at hl 3 rfl) ?_
      refine nv_bipush (v := 6) K d_R_first_268 (by decide) ?_
      refine nf_icmp_ne (u := 5) (v := 10) (Y := 279) K (by omega) (by omega) d_R_first_270 rfl (fun _ k => nv_iconst (v := 5) K d_R_first_278 (by decide) k) (fun _ k => nv_bipush (v := 10) K d_R_first_273 (by decide) (lv_goto K.1 K.2.1 d_R_first_275 rfl k)) ?_
      have hb21 : (if (b / 8) = 6 then 10 else 5) < 11 := z_ite_ltB _ (by omega) (by omega)
      exact qri K hr hlk hw (by exact (ea_5 hb h2).symm) (congrArg nI (by unfold z_ta; rw [h2, show b / 8 % 8 = b / 8 by omega]; rfl)) d_R_first_279
    · have hl : lv_has ls 7 [(5, .int (nI 0)), (4, .int (nI (b / 16))), (3, .int (nI (b / 8))), (2, .int (nI 6)), (0, .ref a.1), (1, .int (nI b))] := by rw [h2] at hl; exact hl
      refine lv_iload_n K.1 K.2.1 d_R_first_33 rfl (lv_at hl 3 rfl) ?_
      refine nv_if_ne K (by omega) d_R_first_34 rfl (fun _ => ?_) (fun h => (by omega : False).elim)
      refine lv_iload_n K.1 K.2.1 d_R_first_39 rfl (lv_at hl 3 rfl) ?_
      refine nv_iconst (v := 1) K d_R_first_40 (by decide) ?_
      refine nv_icmp_ne K (by omega) (by omega) d_R_first_41 rfl (fun _ => ?_) (fun h => (by omega : False).elim)
      refine lv_iload_n K.1 K.2.1 d_R_first_59 rfl (lv_at hl 3 rfl) ?_
      refine nv_iconst (v := 1) K d_R_first_60 (by decide) ?_
      refine nv_icmp_ne K (by omega) (by omega) d_R_first_61 rfl (fun _ => ?_) (fun h => (by omega : False).elim)
      refine lv_iload_n K.1 K.2.1 d_R_first_98 rfl (lv_at hl 3 rfl) ?_
      refine nv_iconst (v := 1) K d_R_first_99 (by decide) ?_
      refine nv_icmp_ne K (by omega) (by omega) d_R_first_100 rfl (fun _ => ?_) (fun h => (by omega : False).elim)
      refine lv_iload_n K.1 K.2.1 d_R_first_106 rfl (lv_at hl 3 rfl) ?_
      refine nv_iconst (v := 2) K d_R_first_107 (by decide) ?_
      refine nv_icmp_ne K (by omega) (by omega) d_R_first_108 rfl (fun _ => ?_) (fun h => (by omega : False).elim)
      refine lv_iload_n K.1 K.2.1 d_R_first_117 rfl (lv_at hl 3 rfl) ?_
      refine nv_iconst (v := 3) K d_R_first_118 (by decide) ?_
      refine nv_icmp_ne K (by omega) (by omega) d_R_first_119 rfl (fun _ => ?_) (fun h => (by omega : False).elim)
      refine lv_iload_n K.1 K.2.1 d_R_first_148 rfl (lv_at hl 3 rfl) ?_
      refine nv_bipush (v := 6) K d_R_first_149 (by decide) ?_
      refine nv_icmp_ne K (by omega) (by omega) d_R_first_151 rfl (fun h => (by omega : False).elim) (fun _ => ?_)
      refine lv_aload_n K.1 K.2.1 d_R_first_154 rfl (lv_at hl 4 rfl) ?_
      refine lv_iload_n K.1 K.2.1 d_R_first_155 rfl (lv_at hl 2 rfl) ?_
      refine lv_aload_n K.1 K.2.1 d_R_first_156 rfl (lv_at hl 4 rfl) ?_
      refine qki K (r_next (σ := σ) l D cI a hO) (cw_R_49 K (Nat.le_of_ble_eq_true rfl) (Nat.le_of_ble_eq_true rfl)) hw (va_recv (ci := 3) (q0 := 0) hw.2.2.2.1 hw.1 rfl rfl) rfl hl.1 rfl (Nat.le_of_ble_eq_true rfl) d_R_first_157 ⟨Nat.zero_le _, Nat.zero_le _⟩ (fun H locs hw => ?_)
      have hO22 : z_Ok (z_nx σ) := z_ok_nx hO
      have hb23 : z_nb σ < 256 := z_nb_lt hO
      refine qkv K (r_set8 (σ := z_nx σ) (r := b / 8) (v := z_nb σ) l D cI a hO22 (by omega) (by omega)) (cw_R_88 K (Nat.le_of_ble_eq_true rfl) (Nat.le_of_ble_eq_true rfl)) hw (va_recv (ci := 3) (q0 := 0) hw.2.2.2.1 hw.1 rfl rfl) rfl hl.1 rfl (Nat.le_of_ble_eq_true rfl) d_R_first_160 ⟨Nat.zero_le _, Nat.zero_le _⟩ (fun H locs hw => ?_)
      have hO24 : z_Ok (z_rs (z_nx σ) (b / 8) (z_nb σ)) := z_ok_rs hO22 _ (by omega)
      refine lv_iload_n K.1 K.2.1 d_R_first_163 rfl (lv_at hl 2 rfl) ?_
      refine nv_bipush (v := 6) K d_R_first_164 (by decide) ?_
      refine nf_icmp_ne (u := 7) (v := 10) (Y := 176) K (by omega) (by omega) d_R_first_166 rfl (fun _ k => nv_bipush (v := 7) K d_R_first_174 (by decide) k) (fun _ k => nv_bipush (v := 10) K d_R_first_169 (by decide) (lv_goto K.1 K.2.1 d_R_first_171 rfl k)) ?_
      have hb25 : (if (b / 8) = 6 then 10 else 7) < 11 := z_ite_ltB _ (by omega) (by omega)
      exact qri K hr hlk hw (by exact (ea_6 hb h2).symm) (congrArg nI (by unfold z_ta; rw [h2, show b / 8 % 8 = b / 8 by omega]; rfl)) d_R_first_176
    · have hl : lv_has ls 7 [(5, .int (nI 0)), (4, .int (nI (b / 16))), (3, .int (nI (b / 8))), (2, .int (nI 7)), (0, .ref a.1), (1, .int (nI b))] := by rw [h2] at hl; exact hl
      refine lv_iload_n K.1 K.2.1 d_R_first_33 rfl (lv_at hl 3 rfl) ?_
      refine nv_if_ne K (by omega) d_R_first_34 rfl (fun _ => ?_) (fun h => (by omega : False).elim)
      refine lv_iload_n K.1 K.2.1 d_R_first_39 rfl (lv_at hl 3 rfl) ?_
      refine nv_iconst (v := 1) K d_R_first_40 (by decide) ?_
      refine nv_icmp_ne K (by omega) (by omega) d_R_first_41 rfl (fun _ => ?_) (fun h => (by omega : False).elim)
      refine lv_iload_n K.1 K.2.1 d_R_first_59 rfl (lv_at hl 3 rfl) ?_
      refine nv_iconst (v := 1) K d_R_first_60 (by decide) ?_
      refine nv_icmp_ne K (by omega) (by omega) d_R_first_61 rfl (fun _ => ?_) (fun h => (by omega : False).elim)
      refine lv_iload_n K.1 K.2.1 d_R_first_98 rfl (lv_at hl 3 rfl) ?_
      refine nv_iconst (v := 1) K d_R_first_99 (by decide) ?_
      refine nv_icmp_ne K (by omega) (by omega) d_R_first_100 rfl (fun _ => ?_) (fun h => (by omega : False).elim)
      refine lv_iload_n K.1 K.2.1 d_R_first_106 rfl (lv_at hl 3 rfl) ?_
      refine nv_iconst (v := 2) K d_R_first_107 (by decide) ?_
      refine nv_icmp_ne K (by omega) (by omega) d_R_first_108 rfl (fun _ => ?_) (fun h => (by omega : False).elim)
      refine lv_iload_n K.1 K.2.1 d_R_first_117 rfl (lv_at hl 3 rfl) ?_
      refine nv_iconst (v := 3) K d_R_first_118 (by decide) ?_
      refine nv_icmp_ne K (by omega) (by omega) d_R_first_119 rfl (fun _ => ?_) (fun h => (by omega : False).elim)
      refine lv_iload_n K.1 K.2.1 d_R_first_148 rfl (lv_at hl 3 rfl) ?_
      refine nv_bipush (v := 6) K d_R_first_149 (by decide) ?_
      refine nv_icmp_ne K (by omega) (by omega) d_R_first_151 rfl (fun _ => ?_) (fun h => (by omega : False).elim)
      refine lv_iload_n K.1 K.2.1 d_R_first_177 rfl (lv_at hl 3 rfl) ?_
      refine nv_bipush (v := 7) K d_R_first_178 (by decide) ?_
      refine nv_icmp_ne K (by omega) (by omega) d_R_first_180 rfl (fun h => (by omega : False).elim) (fun _ => ?_)
      refine lv_aload_n K.1 K.2.1 d_R_first_183 rfl (lv_at hl 4 rfl) ?_
      refine lv_iload_n K.1 K.2.1 d_R_first_184 rfl (lv_at hl 2 rfl) ?_
      refine qkv K (r_alter (σ := σ) (k := b / 8) l D cI a hO (by omega)) (cw_R_109 K (Nat.le_of_ble_eq_true rfl) (Nat.le_of_ble_eq_true rfl)) hw (va_recv (ci := 3) (q0 := 0) hw.2.2.2.1 hw.1 rfl rfl) rfl hl.1 rfl (Nat.le_of_ble_eq_true rfl) d_R_first_185 ⟨Nat.zero_le _, Nat.zero_le _⟩ (fun H locs hw => ?_)
      have hO26 : z_Ok (z_e7 σ (b / 8)) := z_ok_e7 hO _
      refine nv_iconst (v := 4) K d_R_first_188 (by decide) ?_
      exact qri K hr hlk hw (by unfold z_ea; rw [h2]; rfl) (by unfold z_ta; rw [h2]; rfl) d_R_first_189
  · refine nv_iconst (v := 1) K d_R_first_26 (by decide) ?_
    refine lv_goto K.1 K.2.1 d_R_first_27 rfl ?_
    refine lv_istore (lv' := [(5, .int (nI 1)), (4, .int (nI (b / 16))), (3, .int (nI (b / 8))), (2, .int (nI (b % 8))), (0, .ref a.1), (1, .int (nI b))]) K.1 K.2.1 d_R_first_31 hl (by decide) rfl (fun ls hl => ?_)
    rcases (by omega : b % 8 = 0 ∨ b % 8 = 1 ∨ b % 8 = 2 ∨ b % 8 = 3 ∨ b % 8 = 4 ∨ b % 8 = 5 ∨ b % 8 = 6 ∨ b % 8 = 7) with h27 | h27 | h27 | h27 | h27 | h27 | h27 | h27
    · have hl : lv_has ls 7 [(5, .int (nI 1)), (4, .int (nI (b / 16))), (3, .int (nI (b / 8))), (2, .int (nI 0)), (0, .ref a.1), (1, .int (nI b))] := by rw [h27] at hl; exact hl
      refine lv_iload_n K.1 K.2.1 d_R_first_33 rfl (lv_at hl 3 rfl) ?_
      refine nv_if_ne K (by omega) d_R_first_34 rfl (fun h => (by omega : False).elim) (fun _ => ?_)
      refine nv_iconst (v := 4) K d_R_first_37 (by decide) ?_
      exact qri K hr hlk hw (by unfold z_ea; rw [h27]; rfl) (by unfold z_ta; rw [h27]; rfl) d_R_first_38
    · have hl : lv_has ls 7 [(5, .int (nI 1)), (4, .int (nI (b / 16))), (3, .int (nI (b / 8))), (2, .int (nI 1)), (0, .ref a.1), (1, .int (nI b))] := by rw [h27] at hl; exact hl
      refine lv_iload_n K.1 K.2.1 d_R_first_33 rfl (lv_at hl 3 rfl) ?_
      refine nv_if_ne K (by omega) d_R_first_34 rfl (fun _ => ?_) (fun h => (by omega : False).elim)
      refine lv_iload_n K.1 K.2.1 d_R_first_39 rfl (lv_at hl 3 rfl) ?_
      refine nv_iconst (v := 1) K d_R_first_40 (by decide) ?_
      refine nv_icmp_ne K (by omega) (by omega) d_R_first_41 rfl (fun h => (by omega : False).elim) (fun _ => ?_)
      refine lv_iload K.1 K.2.1 d_R_first_44 (lv_at hl 0 rfl) ?_
      refine nv_if_ne K (by omega) d_R_first_46 rfl (fun _ => ?_) (fun h => (by omega : False).elim)
      refine lv_iload_n K.1 K.2.1 d_R_first_59 rfl (lv_at hl 3 rfl) ?_
      refine nv_iconst (v := 1) K d_R_first_60 (by decide) ?_
      refine nv_icmp_ne K (by omega) (by omega) d_R_first_61 rfl (fun h => (by omega : False).elim) (fun _ => ?_)
      refine lv_iload K.1 K.2.1 d_R_first_64 (lv_at hl 0 rfl) ?_
      refine nv_if_eq K (by omega) d_R_first_66 rfl (fun h => (by omega : False).elim) (fun _ => ?_)
      refine lv_aload_n K.1 K.2.1 d_R_first_69 rfl (lv_at hl 4 rfl) ?_
      refine qki K (r_hl (σ := σ) l D cI a hO) (cw_R_29 K (Nat.le_of_ble_eq_true rfl) (Nat.le_of_ble_eq_true rfl)) hw (va_recv (ci := 3) (q0 := 0) hw.2.2.2.1 hw.1 rfl rfl) rfl hl.1 rfl (Nat.le_of_ble_eq_true rfl) d_R_first_70 ⟨Nat.zero_le _, Nat.zero_le _⟩ (fun H locs hw => ?_)
      have hb28 : z_pg σ 2 < 65536 := z_pg_lt hO _
      refine lv_aload_n K.1 K.2.1 d_R_first_73 rfl (lv_at hl 4 rfl) ?_
      refine lv_iload K.1 K.2.1 d_R_first_74 (lv_at hl 1 rfl) ?_
      refine qki K (r_pair (σ := σ) (k := b / 16) l D cI a hO (by omega)) (cw_R_103 K (Nat.le_of_ble_eq_true rfl) (Nat.le_of_ble_eq_true rfl)) hw (va_recv (ci := 3) (q0 := 0) hw.2.2.2.1 hw.1 rfl rfl) rfl hl.1 rfl (Nat.le_of_ble_eq_true rfl) d_R_first_76 ⟨Nat.zero_le _, Nat.zero_le _⟩ (fun H locs hw => ?_)
      have hb29 : z_pg σ (b / 16) < 65536 := z_pg_lt hO _
      refine nv_iadd K d_R_first_79 ?_
      refine lv_istore (lv' := [(6, .int (nI ((z_pg σ 2) + (z_pg σ (b / 16))))), (5, .int (nI 1)), (4, .int (nI (b / 16))), (3, .int (nI (b / 8))), (2, .int (nI 1)), (0, .ref a.1), (1, .int (nI b))]) K.1 K.2.1 d_R_first_80 hl (by decide) rfl (fun ls hl => ?_)
      refine lv_aload_n K.1 K.2.1 d_R_first_82 rfl (lv_at hl 5 rfl) ?_
      refine lv_iload K.1 K.2.1 d_R_first_83 (lv_at hl 0 rfl) ?_
      refine nv_ldc (v := 65536) K d_R_first_85 (K.2.2.2.2 _ (List.mem_cons_of_mem _ m_constant_PortProcessorModel_48_65536)) ?_
      refine nv_idiv K (by omega) (by omega) (by omega) d_R_first_87 ?_
      refine qp_c (v := ((z_pg σ 2) + (z_pg σ (b / 16))) / 65536) K hw d_R_first_88 (fun H locs hw => ?_)
      have hO30 : z_Ok (z_s_ca σ (((z_pg σ 2) + (z_pg σ (b / 16))) / 65536)) := z_ok_ca hO (by omega)
      refine lv_aload_n K.1 K.2.1 d_R_first_91 rfl (lv_at hl 5 rfl) ?_
      refine nv_iconst (v := 2) K d_R_first_92 (by decide) ?_
      refine lv_iload K.1 K.2.1 d_R_first_93 (lv_at hl 0 rfl) ?_
      refine qkv K (r_setPair (σ := z_s_ca σ (((z_pg σ 2) + (z_pg σ (b / 16))) / 65536)) (k := 2) (v := (z_pg σ 2) + (z_pg σ (b / 16))) l D cI a hO30 (by omega) (by omega)) (cw_R_100 K (Nat.le_of_ble_eq_true rfl) (Nat.le_of_ble_eq_true rfl)) hw (va_recv (ci := 3) (q0 := 0) hw.2.2.2.1 hw.1 rfl rfl) rfl hl.1 rfl (Nat.le_of_ble_eq_true rfl) d_R_first_95 ⟨Nat.zero_le _, Nat.zero_le _⟩ (fun H locs hw => ?_)
      have hO31 : z_Ok (z_ps (z_s_ca σ (((z_pg σ 2) + (z_pg σ (b / 16))) / 65536)) 2 (((z_pg σ 2) + (z_pg σ (b / 16))) % 65536)) := z_ok_ps hO30 _ (by omega)
      refine lv_iload_n K.1 K.2.1 d_R_first_98 rfl (lv_at hl 4 rfl) ?_
      refine nv_iconst (v := 1) K d_R_first_99 (by decide) ?_
      refine nv_icmp_ne K (by omega) (by omega) d_R_first_100 rfl (fun h => (by omega : False).elim) (fun _ => ?_)
      refine nv_bipush (v := 10) K d_R_first_103 (by decide) ?_
      exact qri K hr hlk hw (by exact (ea_1b hb h27 (by omega)).symm) (by unfold z_ta; rw [h27]; rfl) d_R_first_105
    · have hl : lv_has ls 7 [(5, .int (nI 1)), (4, .int (nI (b / 16))), (3, .int (nI (b / 8))), (2, .int (nI 2)), (0, .ref a.1), (1, .int (nI b))] := by rw [h27] at hl; exact hl
      refine lv_iload_n K.1 K.2.1 d_R_first_33 rfl (lv_at hl 3 rfl) ?_
      refine nv_if_ne K (by omega) d_R_first_34 rfl (fun _ => ?_) (fun h => (by omega : False).elim)
      refine lv_iload_n K.1 K.2.1 d_R_first_39 rfl (lv_at hl 3 rfl) ?_
      refine nv_iconst (v := 1) K d_R_first_40 (by decide) ?_
      refine nv_icmp_ne K (by omega) (by omega) d_R_first_41 rfl (fun _ => ?_) (fun h => (by omega : False).elim)
      refine lv_iload_n K.1 K.2.1 d_R_first_59 rfl (lv_at hl 3 rfl) ?_
      refine nv_iconst (v := 1) K d_R_first_60 (by decide) ?_
      refine nv_icmp_ne K (by omega) (by omega) d_R_first_61 rfl (fun _ => ?_) (fun h => (by omega : False).elim)
      refine lv_iload_n K.1 K.2.1 d_R_first_98 rfl (lv_at hl 3 rfl) ?_
      refine nv_iconst (v := 1) K d_R_first_99 (by decide) ?_
      refine nv_icmp_ne K (by omega) (by omega) d_R_first_100 rfl (fun _ => ?_) (fun h => (by omega : False).elim)
      refine lv_iload_n K.1 K.2.1 d_R_first_106 rfl (lv_at hl 3 rfl) ?_
      refine nv_iconst (v := 2) K d_R_first_107 (by decide) ?_
      refine nv_icmp_ne K (by omega) (by omega) d_R_first_108 rfl (fun h => (by omega : False).elim) (fun _ => ?_)
      refine lv_aload_n K.1 K.2.1 d_R_first_111 rfl (lv_at hl 4 rfl) ?_
      refine lv_iload_n K.1 K.2.1 d_R_first_112 rfl (lv_at hl 5 rfl) ?_
      refine qki K (r_direct (σ := σ) (b := b) l D cI a hO (by omega)) (cw_R_106 K (Nat.le_of_ble_eq_true rfl) (Nat.le_of_ble_eq_true rfl)) hw (va_recv (ci := 3) (q0 := 0) hw.2.2.2.1 hw.1 rfl rfl) rfl hl.1 rfl (Nat.le_of_ble_eq_true rfl) d_R_first_113 ⟨Nat.zero_le _, Nat.zero_le _⟩ (fun H locs hw => ?_)
      have hO32 : z_Ok (z_e2 σ (b / 8)) := z_ok_e2 hO _
      have hb33 : z_t2 (b / 8) < 17 := z_t2_lt _
      exact qri K hr hlk hw (by unfold z_ea; rw [h27]; rfl) (by unfold z_ta; rw [h27]; rfl) d_R_first_116
    · have hl : lv_has ls 7 [(5, .int (nI 1)), (4, .int (nI (b / 16))), (3, .int (nI (b / 8))), (2, .int (nI 3)), (0, .ref a.1), (1, .int (nI b))] := by rw [h27] at hl; exact hl
      refine lv_iload_n K.1 K.2.1 d_R_first_33 rfl (lv_at hl 3 rfl) ?_
      refine nv_if_ne K (by omega) d_R_first_34 rfl (fun _ => ?_) (fun h => (by omega : False).elim)
      refine lv_iload_n K.1 K.2.1 d_R_first_39 rfl (lv_at hl 3 rfl) ?_
      refine nv_iconst (v := 1) K d_R_first_40 (by decide) ?_
      refine nv_icmp_ne K (by omega) (by omega) d_R_first_41 rfl (fun _ => ?_) (fun h => (by omega : False).elim)
      refine lv_iload_n K.1 K.2.1 d_R_first_59 rfl (lv_at hl 3 rfl) ?_
      refine nv_iconst (v := 1) K d_R_first_60 (by decide) ?_
      refine nv_icmp_ne K (by omega) (by omega) d_R_first_61 rfl (fun _ => ?_) (fun h => (by omega : False).elim)
      refine lv_iload_n K.1 K.2.1 d_R_first_98 rfl (lv_at hl 3 rfl) ?_
      refine nv_iconst (v := 1) K d_R_first_99 (by decide) ?_
      refine nv_icmp_ne K (by omega) (by omega) d_R_first_100 rfl (fun _ => ?_) (fun h => (by omega : False).elim)
      refine lv_iload_n K.1 K.2.1 d_R_first_106 rfl (lv_at hl 3 rfl) ?_
      refine nv_iconst (v := 2) K d_R_first_107 (by decide) ?_
      refine nv_icmp_ne K (by omega) (by omega) d_R_first_108 rfl (fun _ => ?_) (fun h => (by omega : False).elim)
      refine lv_iload_n K.1 K.2.1 d_R_first_117 rfl (lv_at hl 3 rfl) ?_
      refine nv_iconst (v := 3) K d_R_first_118 (by decide) ?_
      refine nv_icmp_ne K (by omega) (by omega) d_R_first_119 rfl (fun h => (by omega : False).elim) (fun _ => ?_)
      refine lv_aload_n K.1 K.2.1 d_R_first_122 rfl (lv_at hl 4 rfl) ?_
      refine lv_iload K.1 K.2.1 d_R_first_123 (lv_at hl 1 rfl) ?_
      refine lv_aload_n K.1 K.2.1 d_R_first_125 rfl (lv_at hl 4 rfl) ?_
      refine lv_iload K.1 K.2.1 d_R_first_126 (lv_at hl 1 rfl) ?_
      refine qki K (r_pair (σ := σ) (k := b / 16) l D cI a hO (by omega)) (cw_R_103 K (Nat.le_of_ble_eq_true rfl) (Nat.le_of_ble_eq_true rfl)) hw (va_recv (ci := 3) (q0 := 0) hw.2.2.2.1 hw.1 rfl rfl) rfl hl.1 rfl (Nat.le_of_ble_eq_true rfl) d_R_first_128 ⟨Nat.zero_le _, Nat.zero_le _⟩ (fun H locs hw => ?_)
      have hb34 : z_pg σ (b / 16) < 65536 := z_pg_lt hO _
      refine lv_iload K.1 K.2.1 d_R_first_131 (lv_at hl 0 rfl) ?_
      refine nv_if_eq K (by omega) d_R_first_133 rfl (fun h => (by omega : False).elim) (fun _ => ?_)
      refine nv_ldc (v := 65535) K d_R_first_136 (K.2.2.2.2 _ (List.mem_cons_of_mem _ m_constant_PortProcessorModel_44_65535)) ?_
      refine lv_goto K.1 K.2.1 d_R_first_138 rfl ?_
      refine nv_iadd K d_R_first_142 ?_
      refine qkv K (r_setPair (σ := σ) (k := b / 16) (v := (z_pg σ (b / 16)) + 65535) l D cI a hO (by omega) (by omega)) (cw_R_100 K (Nat.le_of_ble_eq_true rfl) (Nat.le_of_ble_eq_true rfl)) hw (va_recv (ci := 3) (q0 := 0) hw.2.2.2.1 hw.1 rfl rfl) rfl hl.1 rfl (Nat.le_of_ble_eq_true rfl) d_R_first_143 ⟨Nat.zero_le _, Nat.zero_le _⟩ (fun H locs hw => ?_)
      have hO35 : z_Ok (z_ps σ (b / 16) (((z_pg σ (b / 16)) + 65535) % 65536)) := z_ok_ps hO _ (by omega)
      refine nv_iconst (v := 5) K d_R_first_146 (by decide) ?_
      exact qri K hr hlk hw (by exact (ea_3b hb h27 (by omega)).symm) (by unfold z_ta; rw [h27]; rfl) d_R_first_147
    · have hl : lv_has ls 7 [(5, .int (nI 1)), (4, .int (nI (b / 16))), (3, .int (nI (b / 8))), (2, .int (nI 4)), (0, .ref a.1), (1, .int (nI b))] := by rw [h27] at hl; exact hl
      refine lv_iload_n K.1 K.2.1 d_R_first_33 rfl (lv_at hl 3 rfl) ?_
      refine nv_if_ne K (by omega) d_R_first_34 rfl (fun _ => ?_) (fun h => (by omega : False).elim)
      refine lv_iload_n K.1 K.2.1 d_R_first_39 rfl (lv_at hl 3 rfl) ?_
      refine nv_iconst (v := 1) K d_R_first_40 (by decide) ?_
      refine nv_icmp_ne K (by omega) (by omega) d_R_first_41 rfl (fun _ => ?_) (fun h => (by omega : False).elim)
      refine lv_iload_n K.1 K.2.1 d_R_first_59 rfl (lv_at hl 3 rfl) ?_
      refine nv_iconst (v := 1) K d_R_first_60 (by decide) ?_
      refine nv_icmp_ne K (by omega) (by omega) d_R_first_61 rfl (fun _ => ?_) (fun h => (by omega : False).elim)
      refine lv_iload_n K.1 K.2.1 d_R_first_98 rfl (lv_at hl 3 rfl) ?_
      refine nv_iconst (v := 1) K d_R_first_99 (by decide) ?_
      refine nv_icmp_ne K (by omega) (by omega) d_R_first_100 rfl (fun _ => ?_) (fun h => (by omega : False).elim)
      refine lv_iload_n K.1 K.2.1 d_R_first_106 rfl (lv_at hl 3 rfl) ?_
      refine nv_iconst (v := 2) K d_R_first_107 (by decide) ?_
      refine nv_icmp_ne K (by omega) (by omega) d_R_first_108 rfl (fun _ => ?_) (fun h => (by omega : False).elim)
      refine lv_iload_n K.1 K.2.1 d_R_first_117 rfl (lv_at hl 3 rfl) ?_
      refine nv_iconst (v := 3) K d_R_first_118 (by decide) ?_
      refine nv_icmp_ne K (by omega) (by omega) d_R_first_119 rfl (fun _ => ?_) (fun h => (by omega : False).elim)
      refine lv_iload_n K.1 K.2.1 d_R_first_148 rfl (lv_at hl 3 rfl) ?_
      refine nv_bipush (v := 6) K d_R_first_149 (by decide) ?_
      refine nv_icmp_ne K (by omega) (by omega) d_R_first_151 rfl (fun _ => ?_) (fun h => (by omega : False).elim)
      refine lv_iload_n K.1 K.2.1 d_R_first_177 rfl (lv_at hl 3 rfl) ?_
      refine nv_bipush (v := 7) K d_R_first_178 (by decide) ?_
      refine nv_icmp_ne K (by omega) (by omega) d_R_first_180 rfl (fun _ => ?_) (fun h => (by omega : False).elim)
      refine lv_aload_n K.1 K.2.1 d_R_first_190 rfl (lv_at hl 4 rfl) ?_
      refine lv_iload_n K.1 K.2.1 d_R_first_191 rfl (lv_at hl 2 rfl) ?_
      refine qki K (r_get (σ := σ) (r := b / 8) l D cI a hO (by omega)) (cw_R_85 K (Nat.le_of_ble_eq_true rfl) (Nat.le_of_ble_eq_true rfl)) hw (va_recv (ci := 3) (q0 := 0) hw.2.2.2.1 hw.1 rfl rfl) rfl hl.1 rfl (Nat.le_of_ble_eq_true rfl) d_R_first_192 ⟨Nat.zero_le _, Nat.zero_le _⟩ (fun H locs hw => ?_)
      have hb36 : z_rg σ (b / 8) < 256 := z_rg_lt hO _
      refine lv_iload_n K.1 K.2.1 d_R_first_195 rfl (lv_at hl 3 rfl) ?_
      refine nv_iconst (v := 4) K d_R_first_196 (by decide) ?_
      refine nv_icmp_ne K (by omega) (by omega) d_R_first_197 rfl (fun h => (by omega : False).elim) (fun _ => ?_)
      refine nv_iconst (v := 1) K d_R_first_200 (by decide) ?_
      refine lv_goto K.1 K.2.1 d_R_first_201 rfl ?_
      refine nv_iadd K d_R_first_207 ?_
      refine nv_sipush (v := 256) K d_R_first_208 (by decide) ?_
      refine nv_irem K (by omega) (by omega) (by omega) d_R_first_211 ?_
      refine lv_istore (lv' := [(6, .int (nI (((z_rg σ (b / 8)) + 1) % 256))), (5, .int (nI 1)), (4, .int (nI (b / 16))), (3, .int (nI (b / 8))), (2, .int (nI 4)), (0, .ref a.1), (1, .int (nI b))]) K.1 K.2.1 d_R_first_212 hl (by decide) rfl (fun ls hl => ?_)
      refine lv_aload_n K.1 K.2.1 d_R_first_214 rfl (lv_at hl 5 rfl) ?_
      refine lv_iload_n K.1 K.2.1 d_R_first_215 rfl (lv_at hl 4 rfl) ?_
      refine nv_iconst (v := 4) K d_R_first_216 (by decide) ?_
      refine nv_icmp_ne K (by omega) (by omega) d_R_first_217 rfl (fun h => (by omega : False).elim) (fun _ => ?_)
      refine lv_iload K.1 K.2.1 d_R_first_220 (lv_at hl 0 rfl) ?_
      refine nv_bipush (v := 16) K d_R_first_222 (by decide) ?_
      refine nv_irem K (by omega) (by omega) (by omega) d_R_first_224 ?_
      refine nf_if_ne (u := 0) (v := 1) (Y := 251) K (by omega) d_R_first_225 rfl (fun _ k => nv_iconst (v := 0) K d_R_first_232 (by decide) (lv_goto K.1 K.2.1 d_R_first_233 rfl k)) (fun _ k => nv_iconst (v := 1) K d_R_first_228 (by decide) (lv_goto K.1 K.2.1 d_R_first_229 rfl k)) ?_
      have hb37 : (if ((((z_rg σ (b / 8)) + 1) % 256) % 16) = 0 then 1 else 0) < 2 := z_ite_ltB _ (by omega) (by omega)
      refine qp_half (v := (if ((((z_rg σ (b / 8)) + 1) % 256) % 16) = 0 then 1 else 0)) K hw d_R_first_251 (fun H locs hw => ?_)
      have hO38 : z_Ok (z_s_au σ (if ((((z_rg σ (b / 8)) + 1) % 256) % 16) = 0 then 1 else 0)) := z_ok_au hO (by omega)
      refine lv_aload_n K.1 K.2.1 d_R_first_254 rfl (lv_at hl 5 rfl) ?_
      refine lv_iload K.1 K.2.1 d_R_first_255 (lv_at hl 0 rfl) ?_
      refine qkv K (r_show (σ := z_s_au σ (if ((((z_rg σ (b / 8)) + 1) % 256) % 16) = 0 then 1 else 0)) (v := ((z_rg σ (b / 8)) + 1) % 256) l D cI a hO38 (by omega)) (cw_R_67 K (Nat.le_of_ble_eq_true rfl) (Nat.le_of_ble_eq_true rfl)) hw (va_recv (ci := 3) (q0 := 0) hw.2.2.2.1 hw.1 rfl rfl) rfl hl.1 rfl (Nat.le_of_ble_eq_true rfl) d_R_first_257 ⟨Nat.zero_le _, Nat.zero_le _⟩ (fun H locs hw => ?_)
      have hO39 : z_Ok (z_jd (z_s_au σ (if ((((z_rg σ (b / 8)) + 1) % 256) % 16) = 0 then 1 else 0)) (((z_rg σ (b / 8)) + 1) % 256)) := z_ok_jd hO38 (by omega)
      refine lv_aload_n K.1 K.2.1 d_R_first_260 rfl (lv_at hl 5 rfl) ?_
      refine lv_iload_n K.1 K.2.1 d_R_first_261 rfl (lv_at hl 3 rfl) ?_
      refine lv_iload K.1 K.2.1 d_R_first_262 (lv_at hl 0 rfl) ?_
      refine qkv K (r_set8 (σ := z_jd (z_s_au σ (if ((((z_rg σ (b / 8)) + 1) % 256) % 16) = 0 then 1 else 0)) (((z_rg σ (b / 8)) + 1) % 256)) (r := b / 8) (v := ((z_rg σ (b / 8)) + 1) % 256) l D cI a hO39 (by omega) (by omega)) (cw_R_88 K (Nat.le_of_ble_eq_true rfl) (Nat.le_of_ble_eq_true rfl)) hw (va_recv (ci := 3) (q0 := 0) hw.2.2.2.1 hw.1 rfl rfl) rfl hl.1 rfl (Nat.le_of_ble_eq_true rfl) d_R_first_264 ⟨Nat.zero_le _, Nat.zero_le _⟩ (fun H locs hw => ?_)
      have hO40 : z_Ok (z_rs (z_jd (z_s_au σ (if ((((z_rg σ (b / 8)) + 1) % 256) % 16) = 0 then 1 else 0)) (((z_rg σ (b / 8)) + 1) % 256)) (b / 8) (((z_rg σ (b / 8)) + 1) % 256)) := z_ok_rs hO39 _ (by omega)
      refine lv_iload_n K.1 K.2.1 d_R_first_267 rfl (lv_at hl 3 rfl) ?_
      refine nv_bipush (v := 6) K d_R_first_268 (by decide) ?_
      refine nf_icmp_ne (u := 5) (v := 10) (Y := 279) K (by omega) (by omega) d_R_first_270 rfl (fun _ k => nv_iconst (v := 5) K d_R_first_278 (by decide) k) (fun _ k => nv_bipush (v := 10) K d_R_first_273 (by decide) (lv_goto K.1 K.2.1 d_R_first_275 rfl k)) ?_
      have hb41 : (if (b / 8) = 6 then 10 else 5) < 11 := z_ite_ltB _ (by omega) (by omega)
      exact qri K hr hlk hw (by exact (ea_4 hb h27).symm) (congrArg nI (by unfold z_ta; rw [h27, show b / 8 % 8 = b / 8 by omega]; rfl)) d_R_first_279
    · have hl : lv_has ls 7 [(5, .int (nI 1)), (4, .int (nI (b / 16))), (3, .int (nI (b / 8))), (2, .int (nI 5)), (0, .ref a.1), (1, .int (nI b))] := by rw [h27] at hl; exact hl
      refine lv_iload_n K.1 K.2.1 d_R_first_33 rfl (lv_at hl 3 rfl) ?_
      refine nv_if_ne K (by omega) d_R_first_34 rfl (fun _ => ?_) (fun h => (by omega : False).elim)
      refine lv_iload_n K.1 K.2.1 d_R_first_39 rfl (lv_at hl 3 rfl) ?_
      refine nv_iconst (v := 1) K d_R_first_40 (by decide) ?_
      refine nv_icmp_ne K (by omega) (by omega) d_R_first_41 rfl (fun _ => ?_) (fun h => (by omega : False).elim)
      refine lv_iload_n K.1 K.2.1 d_R_first_59 rfl (lv_at hl 3 rfl) ?_
      refine nv_iconst (v := 1) K d_R_first_60 (by decide) ?_
      refine nv_icmp_ne K (by omega) (by omega) d_R_first_61 rfl (fun _ => ?_) (fun h => (by omega : False).elim)
      refine lv_iload_n K.1 K.2.1 d_R_first_98 rfl (lv_at hl 3 rfl) ?_
      refine nv_iconst (v := 1) K d_R_first_99 (by decide) ?_
      refine nv_icmp_ne K (by omega) (by omega) d_R_first_100 rfl (fun _ => ?_) (fun h => (by omega : False).elim)
      refine lv_iload_n K.1 K.2.1 d_R_first_106 rfl (lv_at hl 3 rfl) ?_
      refine nv_iconst (v := 2) K d_R_first_107 (by decide) ?_
      refine nv_icmp_ne K (by omega) (by omega) d_R_first_108 rfl (fun _ => ?_) (fun h => (by omega : False).elim)
      refine lv_iload_n K.1 K.2.1 d_R_first_117 rfl (lv_at hl 3 rfl) ?_
      refine nv_iconst (v := 3) K d_R_first_118 (by decide) ?_
      refine nv_icmp_ne K (by omega) (by omega) d_R_first_119 rfl (fun _ => ?_) (fun h => (by omega : False).elim)
      refine lv_iload_n K.1 K.2.1 d_R_first_148 rfl (lv_at hl 3 rfl) ?_
      refine nv_bipush (v := 6) K d_R_first_149 (by decide) ?_
      refine nv_icmp_ne K (by omega) (by omega) d_R_first_151 rfl (fun _ => ?_) (fun h => (by omega : False).elim)
      refine lv_iload_n K.1 K.2.1 d_R_first_177 rfl (lv_at hl 3 rfl) ?_
      refine nv_bipush (v := 7) K d_R_first_178 (by decide) ?_
      refine nv_icmp_ne K (by omega) (by omega) d_R_first_180 rfl (fun _ => ?_) (fun h => (by omega : False).elim)
      refine lv_aload_n K.1 K.2.1 d_R_first_190 rfl (lv_at hl 4 rfl) ?_
      refine lv_iload_n K.1 K.2.1 d_R_first_191 rfl (lv_at hl 2 rfl) ?_
      refine qki K (r_get (σ := σ) (r := b / 8) l D cI a hO (by omega)) (cw_R_85 K (Nat.le_of_ble_eq_true rfl) (Nat.le_of_ble_eq_true rfl)) hw (va_recv (ci := 3) (q0 := 0) hw.2.2.2.1 hw.1 rfl rfl) rfl hl.1 rfl (Nat.le_of_ble_eq_true rfl) d_R_first_192 ⟨Nat.zero_le _, Nat.zero_le _⟩ (fun H locs hw => ?_)
      have hb42 : z_rg σ (b / 8) < 256 := z_rg_lt hO _
      refine lv_iload_n K.1 K.2.1 d_R_first_195 rfl (lv_at hl 3 rfl) ?_
      refine nv_iconst (v := 4) K d_R_first_196 (by decide) ?_
      refine nv_icmp_ne K (by omega) (by omega) d_R_first_197 rfl (fun _ => ?_) (fun h => (by omega : False).elim)
      refine nv_sipush (v := 255) K d_R_first_204 (by decide) ?_
      refine nv_iadd K d_R_first_207 ?_
      refine nv_sipush (v := 256) K d_R_first_208 (by decide) ?_
      refine nv_irem K (by omega) (by omega) (by omega) d_R_first_211 ?_
      refine lv_istore (lv' := [(6, .int (nI (((z_rg σ (b / 8)) + 255) % 256))), (5, .int (nI 1)), (4, .int (nI (b / 16))), (3, .int (nI (b / 8))), (2, .int (nI 5)), (0, .ref a.1), (1, .int (nI b))]) K.1 K.2.1 d_R_first_212 hl (by decide) rfl (fun ls hl => ?_)
      refine lv_aload_n K.1 K.2.1 d_R_first_214 rfl (lv_at hl 5 rfl) ?_
      refine lv_iload_n K.1 K.2.1 d_R_first_215 rfl (lv_at hl 4 rfl) ?_
      refine nv_iconst (v := 4) K d_R_first_216 (by decide) ?_
      refine nv_icmp_ne K (by omega) (by omega) d_R_first_217 rfl (fun _ => ?_) (fun h => (by omega : False).elim)
      refine lv_iload K.1 K.2.1 d_R_first_236 (lv_at hl 0 rfl) ?_
      refine nv_bipush (v := 16) K d_R_first_238 (by decide) ?_
      refine nv_irem K (by omega) (by omega) (by omega) d_R_first_240 ?_
      refine nv_bipush (v := 15) K d_R_first_241 (by decide) ?_
      refine nf_icmp_ne (u := 1) (v := 0) (Y := 251) K (by omega) (by omega) d_R_first_243 rfl (fun _ k => nv_iconst (v := 1) K d_R_first_250 (by decide) k) (fun _ k => nv_iconst (v := 0) K d_R_first_246 (by decide) (lv_goto K.1 K.2.1 d_R_first_247 rfl k)) ?_
      have hb43 : (if ((((z_rg σ (b / 8)) + 255) % 256) % 16) = 15 then 0 else 1) < 2 := z_ite_ltB _ (by omega) (by omega)
      refine qp_half (v := (if ((((z_rg σ (b / 8)) + 255) % 256) % 16) = 15 then 0 else 1)) K hw d_R_first_251 (fun H locs hw => ?_)
      have hO44 : z_Ok (z_s_au σ (if ((((z_rg σ (b / 8)) + 255) % 256) % 16) = 15 then 0 else 1)) := z_ok_au hO (by omega)
      refine lv_aload_n K.1 K.2.1 d_R_first_254 rfl (lv_at hl 5 rfl) ?_
      refine lv_iload K.1 K.2.1 d_R_first_255 (lv_at hl 0 rfl) ?_
      refine qkv K (r_show (σ := z_s_au σ (if ((((z_rg σ (b / 8)) + 255) % 256) % 16) = 15 then 0 else 1)) (v := ((z_rg σ (b / 8)) + 255) % 256) l D cI a hO44 (by omega)) (cw_R_67 K (Nat.le_of_ble_eq_true rfl) (Nat.le_of_ble_eq_true rfl)) hw (va_recv (ci := 3) (q0 := 0) hw.2.2.2.1 hw.1 rfl rfl) rfl hl.1 rfl (Nat.le_of_ble_eq_true rfl) d_R_first_257 ⟨Nat.zero_le _, Nat.zero_le _⟩ (fun H locs hw => ?_)
      have hO45 : z_Ok (z_jd (z_s_au σ (if ((((z_rg σ (b / 8)) + 255) % 256) % 16) = 15 then 0 else 1)) (((z_rg σ (b / 8)) + 255) % 256)) := z_ok_jd hO44 (by omega)
      refine lv_aload_n K.1 K.2.1 d_R_first_260 rfl (lv_at hl 5 rfl) ?_
      refine lv_iload_n K.1 K.2.1 d_R_first_261 rfl (lv_at hl 3 rfl) ?_
      refine lv_iload K.1 K.2.1 d_R_first_262 (lv_at hl 0 rfl) ?_
      refine qkv K (r_set8 (σ := z_jd (z_s_au σ (if ((((z_rg σ (b / 8)) + 255) % 256) % 16) = 15 then 0 else 1)) (((z_rg σ (b / 8)) + 255) % 256)) (r := b / 8) (v := ((z_rg σ (b / 8)) + 255) % 256) l D cI a hO45 (by omega) (by omega)) (cw_R_88 K (Nat.le_of_ble_eq_true rfl) (Nat.le_of_ble_eq_true rfl)) hw (va_recv (ci := 3) (q0 := 0) hw.2.2.2.1 hw.1 rfl rfl) rfl hl.1 rfl (Nat.le_of_ble_eq_true rfl) d_R_first_264 ⟨Nat.zero_le _, Nat.zero_le _⟩ (fun H locs hw => ?_)
      have hO46 : z_Ok (z_rs (z_jd (z_s_au σ (if ((((z_rg σ (b / 8)) + 255) % 256) % 16) = 15 then 0 else 1)) (((z_rg σ (b / 8)) + 255) % 256)) (b / 8) (((z_rg σ (b / 8)) + 255) % 256)) := z_ok_rs hO45 _ (by omega)
      refine lv_iload_n K.1 K.2.1 d_R_first_267 rfl (lv_at hl 3 rfl) ?_
      refine nv_bipush (v := 6) K d_R_first_268 (by decide) ?_
      refine nf_icmp_ne (u := 5) (v := 10) (Y := 279) K (by omega) (by omega) d_R_first_270 rfl (fun _ k => nv_iconst (v := 5) K d_R_first_278 (by decide) k) (fun _ k => nv_bipush (v := 10) K d_R_first_273 (by decide) (lv_goto K.1 K.2.1 d_R_first_275 rfl k)) ?_
      have hb47 : (if (b / 8) = 6 then 10 else 5) < 11 := z_ite_ltB _ (by omega) (by omega)
      exact qri K hr hlk hw (by exact (ea_5 hb h27).symm) (congrArg nI (by unfold z_ta; rw [h27, show b / 8 % 8 = b / 8 by omega]; rfl)) d_R_first_279
    · have hl : lv_has ls 7 [(5, .int (nI 1)), (4, .int (nI (b / 16))), (3, .int (nI (b / 8))), (2, .int (nI 6)), (0, .ref a.1), (1, .int (nI b))] := by rw [h27] at hl; exact hl
      refine lv_iload_n K.1 K.2.1 d_R_first_33 rfl (lv_at hl 3 rfl) ?_
      refine nv_if_ne K (by omega) d_R_first_34 rfl (fun _ => ?_) (fun h => (by omega : False).elim)
      refine lv_iload_n K.1 K.2.1 d_R_first_39 rfl (lv_at hl 3 rfl) ?_
      refine nv_iconst (v := 1) K d_R_first_40 (by decide) ?_
      refine nv_icmp_ne K (by omega) (by omega) d_R_first_41 rfl (fun _ => ?_) (fun h => (by omega : False).elim)
      refine lv_iload_n K.1 K.2.1 d_R_first_59 rfl (lv_at hl 3 rfl) ?_
      refine nv_iconst (v := 1) K d_R_first_60 (by decide) ?_
      refine nv_icmp_ne K (by omega) (by omega) d_R_first_61 rfl (fun _ => ?_) (fun h => (by omega : False).elim)
      refine lv_iload_n K.1 K.2.1 d_R_first_98 rfl (lv_at hl 3 rfl) ?_
      refine nv_iconst (v := 1) K d_R_first_99 (by decide) ?_
      refine nv_icmp_ne K (by omega) (by omega) d_R_first_100 rfl (fun _ => ?_) (fun h => (by omega : False).elim)
      refine lv_iload_n K.1 K.2.1 d_R_first_106 rfl (lv_at hl 3 rfl) ?_
      refine nv_iconst (v := 2) K d_R_first_107 (by decide) ?_
      refine nv_icmp_ne K (by omega) (by omega) d_R_first_108 rfl (fun _ => ?_) (fun h => (by omega : False).elim)
      refine lv_iload_n K.1 K.2.1 d_R_first_117 rfl (lv_at hl 3 rfl) ?_
      refine nv_iconst (v := 3) K d_R_first_118 (by decide) ?_
      refine nv_icmp_ne K (by omega) (by omega) d_R_first_119 rfl (fun _ => ?_) (fun h => (by omega : False).elim)
      refine lv_iload_n K.1 K.2.1 d_R_first_148 rfl (lv_at hl 3 rfl) ?_
      refine nv_bipush (v := 6) K d_R_first_149 (by decide) ?_
      refine nv_icmp_ne K (by omega) (by omega) d_R_first_151 rfl (fun h => (by omega : False).elim) (fun _ => ?_)
      refine lv_aload_n K.1 K.2.1 d_R_first_154 rfl (lv_at hl 4 rfl) ?_
      refine lv_iload_n K.1 K.2.1 d_R_first_155 rfl (lv_at hl 2 rfl) ?_
      refine lv_aload_n K.1 K.2.1 d_R_first_156 rfl (lv_at hl 4 rfl) ?_
      refine qki K (r_next (σ := σ) l D cI a hO) (cw_R_49 K (Nat.le_of_ble_eq_true rfl) (Nat.le_of_ble_eq_true rfl)) hw (va_recv (ci := 3) (q0 := 0) hw.2.2.2.1 hw.1 rfl rfl) rfl hl.1 rfl (Nat.le_of_ble_eq_true rfl) d_R_first_157 ⟨Nat.zero_le _, Nat.zero_le _⟩ (fun H locs hw => ?_)
      have hO48 : z_Ok (z_nx σ) := z_ok_nx hO
      have hb49 : z_nb σ < 256 := z_nb_lt hO
      refine qkv K (r_set8 (σ := z_nx σ) (r := b / 8) (v := z_nb σ) l D cI a hO48 (by omega) (by omega)) (cw_R_88 K (Nat.le_of_ble_eq_true rfl) (Nat.le_of_ble_eq_true rfl)) hw (va_recv (ci := 3) (q0 := 0) hw.2.2.2.1 hw.1 rfl rfl) rfl hl.1 rfl (Nat.le_of_ble_eq_true rfl) d_R_first_160 ⟨Nat.zero_le _, Nat.zero_le _⟩ (fun H locs hw => ?_)
      have hO50 : z_Ok (z_rs (z_nx σ) (b / 8) (z_nb σ)) := z_ok_rs hO48 _ (by omega)
      refine lv_iload_n K.1 K.2.1 d_R_first_163 rfl (lv_at hl 2 rfl) ?_
      refine nv_bipush (v := 6) K d_R_first_164 (by decide) ?_
      refine nf_icmp_ne (u := 7) (v := 10) (Y := 176) K (by omega) (by omega) d_R_first_166 rfl (fun _ k => nv_bipush (v := 7) K d_R_first_174 (by decide) k) (fun _ k => nv_bipush (v := 10) K d_R_first_169 (by decide) (lv_goto K.1 K.2.1 d_R_first_171 rfl k)) ?_
      have hb51 : (if (b / 8) = 6 then 10 else 7) < 11 := z_ite_ltB _ (by omega) (by omega)
      exact qri K hr hlk hw (by exact (ea_6 hb h27).symm) (congrArg nI (by unfold z_ta; rw [h27, show b / 8 % 8 = b / 8 by omega]; rfl)) d_R_first_176
    · have hl : lv_has ls 7 [(5, .int (nI 1)), (4, .int (nI (b / 16))), (3, .int (nI (b / 8))), (2, .int (nI 7)), (0, .ref a.1), (1, .int (nI b))] := by rw [h27] at hl; exact hl
      refine lv_iload_n K.1 K.2.1 d_R_first_33 rfl (lv_at hl 3 rfl) ?_
      refine nv_if_ne K (by omega) d_R_first_34 rfl (fun _ => ?_) (fun h => (by omega : False).elim)
      refine lv_iload_n K.1 K.2.1 d_R_first_39 rfl (lv_at hl 3 rfl) ?_
      refine nv_iconst (v := 1) K d_R_first_40 (by decide) ?_
      refine nv_icmp_ne K (by omega) (by omega) d_R_first_41 rfl (fun _ => ?_) (fun h => (by omega : False).elim)
      refine lv_iload_n K.1 K.2.1 d_R_first_59 rfl (lv_at hl 3 rfl) ?_
      refine nv_iconst (v := 1) K d_R_first_60 (by decide) ?_
      refine nv_icmp_ne K (by omega) (by omega) d_R_first_61 rfl (fun _ => ?_) (fun h => (by omega : False).elim)
      refine lv_iload_n K.1 K.2.1 d_R_first_98 rfl (lv_at hl 3 rfl) ?_
      refine nv_iconst (v := 1) K d_R_first_99 (by decide) ?_
      refine nv_icmp_ne K (by omega) (by omega) d_R_first_100 rfl (fun _ => ?_) (fun h => (by omega : False).elim)
      refine lv_iload_n K.1 K.2.1 d_R_first_106 rfl (lv_at hl 3 rfl) ?_
      refine nv_iconst (v := 2) K d_R_first_107 (by decide) ?_
      refine nv_icmp_ne K (by omega) (by omega) d_R_first_108 rfl (fun _ => ?_) (fun h => (by omega : False).elim)
      refine lv_iload_n K.1 K.2.1 d_R_first_117 rfl (lv_at hl 3 rfl) ?_
      refine nv_iconst (v := 3) K d_R_first_118 (by decide) ?_
      refine nv_icmp_ne K (by omega) (by omega) d_R_first_119 rfl (fun _ => ?_) (fun h => (by omega : False).elim)
      refine lv_iload_n K.1 K.2.1 d_R_first_148 rfl (lv_at hl 3 rfl) ?_
      refine nv_bipush (v := 6) K d_R_first_149 (by decide) ?_
      refine nv_icmp_ne K (by omega) (by omega) d_R_first_151 rfl (fun _ => ?_) (fun h => (by omega : False).elim)
      refine lv_iload_n K.1 K.2.1 d_R_first_177 rfl (lv_at hl 3 rfl) ?_
      refine nv_bipush (v := 7) K d_R_first_178 (by decide) ?_
      refine nv_icmp_ne K (by omega) (by omega) d_R_first_180 rfl (fun h => (by omega : False).elim) (fun _ => ?_)
      refine lv_aload_n K.1 K.2.1 d_R_first_183 rfl (lv_at hl 4 rfl) ?_
      refine lv_iload_n K.1 K.2.1 d_R_first_184 rfl (lv_at hl 2 rfl) ?_
      refine qkv K (r_alter (σ := σ) (k := b / 8) l D cI a hO (by omega)) (cw_R_109 K (Nat.le_of_ble_eq_true rfl) (Nat.le_of_ble_eq_true rfl)) hw (va_recv (ci := 3) (q0 := 0) hw.2.2.2.1 hw.1 rfl rfl) rfl hl.1 rfl (Nat.le_of_ble_eq_true rfl) d_R_first_185 ⟨Nat.zero_le _, Nat.zero_le _⟩ (fun H locs hw => ?_)
      have hO52 : z_Ok (z_e7 σ (b / 8)) := z_ok_e7 hO _
      refine nv_iconst (v := 4) K d_R_first_188 (by decide) ?_
      exact qri K hr hlk hw (by unfold z_ea; rw [h27]; rfl) (by unfold z_ta; rw [h27]; rfl) d_R_first_189

set_option maxHeartbeats 4000000 in
set_option maxRecDepth 100000 in
theorem r_last {σ : z_St} {b : Nat} (l : Launch) (D : va_G) (cI : ClassId) (a : qAd) (hO : z_Ok σ) (hb : b < 256) (hb2 : 192 ≤ b) (hla : z_x_la σ = 0) : qCi l y_R_last w_R_last 4 97 D cI a [.ref a.1, .int (nI b)] σ (if b = 251 then z_s_la (z_s_it σ 1) 1 else z_ed σ b) (nI (z_td σ b)) := by
  refine qci_of (cc := b_R_last) (maxL := 5) (ret := (some .int)) (by decide) rfl (Nat.le_of_ble_eq_true rfl) ?_
  intro p e s m below meth c ls K hr hlk hl hw
  have K : CallFix p m c b_R_last 5 s _ (_ :: T0) "PortProcessorModel" := K
  have hl : lv_has ls 5 [(0, .ref a.1), (1, .int (nI b))] := hl
  refine lv_iload_n K.1 K.2.1 d_R_last_0 rfl (lv_at hl 1 rfl) ?_
  refine nv_bipush (v := 8) K d_R_last_1 (by decide) ?_
  refine nv_irem K (by omega) (by omega) (by omega) d_R_last_3 ?_
  refine lv_istore_n (lv' := [(2, .int (nI (b % 8))), (0, .ref a.1), (1, .int (nI b))]) K.1 K.2.1 d_R_last_4 rfl hl (by decide) rfl (fun ls hl => ?_)
  refine lv_iload_n K.1 K.2.1 d_R_last_5 rfl (lv_at hl 2 rfl) ?_
  refine nv_bipush (v := 8) K d_R_last_6 (by decide) ?_
  refine nv_idiv K (by omega) (by omega) (by omega) d_R_last_8 ?_
  refine nv_bipush (v := 8) K d_R_last_9 (by decide) ?_
  refine nv_irem K (by omega) (by omega) (by omega) d_R_last_11 ?_
  refine lv_istore_n (lv' := [(3, .int (nI ((b / 8) % 8))), (2, .int (nI (b % 8))), (0, .ref a.1), (1, .int (nI b))]) K.1 K.2.1 d_R_last_12 rfl hl (by decide) rfl (fun ls hl => ?_)
  rcases (by omega : b % 8 = 0 ∨ b % 8 = 1 ∨ b % 8 = 2 ∨ b % 8 = 3 ∨ b % 8 = 4 ∨ b % 8 = 5 ∨ b % 8 = 6 ∨ b % 8 = 7) with h1 | h1 | h1 | h1 | h1 | h1 | h1 | h1
  · have hl : lv_has ls 5 [(3, .int (nI ((b / 8) % 8))), (2, .int (nI 0)), (0, .ref a.1), (1, .int (nI b))] := by rw [h1] at hl; exact hl
    refine lv_iload_n K.1 K.2.1 d_R_last_13 rfl (lv_at hl 1 rfl) ?_
    refine nv_if_ne K (by omega) d_R_last_14 rfl (fun h => (by omega : False).elim) (fun _ => ?_)
    refine lv_aload_n K.1 K.2.1 d_R_last_17 rfl (lv_at hl 2 rfl) ?_
    refine lv_iload_n K.1 K.2.1 d_R_last_18 rfl (lv_at hl 0 rfl) ?_
    refine qki K (r_holds (σ := σ) (k := (b / 8) % 8) l D cI a hO (by omega)) (cw_R_115 K (Nat.le_of_ble_eq_true rfl) (Nat.le_of_ble_eq_true rfl)) hw (va_recv (ci := 3) (q0 := 0) hw.2.2.2.1 hw.1 rfl rfl) rfl hl.1 rfl (Nat.le_of_ble_eq_true rfl) d_R_last_19 ⟨Nat.zero_le _, Nat.zero_le _⟩ (fun H locs hw => ?_)
    have hb2 : z_hold σ ((b / 8) % 8) < 2 := z_hold_lt _ _
    refine nv_if_ne K (by omega) d_R_last_22 rfl (fun h3 => ?_) (fun h3 => ?_)
    · refine lv_aload_n K.1 K.2.1 d_R_last_27 rfl (lv_at hl 2 rfl) ?_
      refine lv_aload_n K.1 K.2.1 d_R_last_28 rfl (lv_at hl 2 rfl) ?_
      refine qki K (r_pop (σ := σ) l D cI a hO) (cw_R_119 K (Nat.le_of_ble_eq_true rfl) (Nat.le_of_ble_eq_true rfl)) hw (va_recv (ci := 3) (q0 := 0) hw.2.2.2.1 hw.1 rfl rfl) rfl hl.1 rfl (Nat.le_of_ble_eq_true rfl) d_R_last_29 ⟨Nat.zero_le _, Nat.zero_le _⟩ (fun H locs hw => ?_)
      have hO4 : z_Ok (z_po σ) := z_ok_po hO
      have hb5 : z_pv σ < 65536 := z_pv_lt hO
      refine qp_pc (v := z_pv σ) K hw d_R_last_32 (fun H locs hw => ?_)
      have hO6 : z_Ok (z_s_pc (z_po σ) (z_pv σ)) := z_ok_pc hO4 (by omega)
      refine nv_bipush (v := 11) K d_R_last_35 (by decide) ?_
      exact qri K hr hlk hw (by rw [if_neg (by omega)]; unfold z_ed; exact ((if_pos h1).trans (if_pos (by omega))).symm) (congrArg nI (by unfold z_td; exact ((if_pos h1).trans (if_pos (by omega))).symm)) d_R_last_37
    · refine nv_iconst (v := 5) K d_R_last_25 (by decide) ?_
      exact qri K hr hlk hw (by rw [if_neg (by omega)]; unfold z_ed; exact ((if_pos h1).trans (if_neg (by omega))).symm) (congrArg nI (by unfold z_td; exact ((if_pos h1).trans (if_neg (by omega))).symm)) d_R_last_26
  · have hl : lv_has ls 5 [(3, .int (nI ((b / 8) % 8))), (2, .int (nI 1)), (0, .ref a.1), (1, .int (nI b))] := by rw [h1] at hl; exact hl
    refine lv_iload_n K.1 K.2.1 d_R_last_13 rfl (lv_at hl 1 rfl) ?_
    refine nv_if_ne K (by omega) d_R_last_14 rfl (fun _ => ?_) (fun h => (by omega : False).elim)
    rcases (by omega : (b / 8) % 8 = 0 ∨ (b / 8) % 8 = 1 ∨ (b / 8) % 8 = 2 ∨ (b / 8) % 8 = 3 ∨ (b / 8) % 8 = 4 ∨ (b / 8) % 8 = 5 ∨ (b / 8) % 8 = 6 ∨ (b / 8) % 8 = 7) with h7 | h7 | h7 | h7 | h7 | h7 | h7 | h7
    · have hl : lv_has ls 5 [(3, .int (nI 0)), (2, .int (nI 1)), (0, .ref a.1), (1, .int (nI b))] := by rw [h7] at hl; exact hl
      refine lv_iload_n K.1 K.2.1 d_R_last_38 rfl (lv_at hl 1 rfl) ?_
      refine nv_iconst (v := 2) K d_R_last_39 (by decide) ?_
      refine nv_icmp_eq K (by omega) (by omega) d_R_last_40 rfl (fun h => (by omega : False).elim) (fun _ => ?_)
      refine lv_iload_n K.1 K.2.1 d_R_last_43 rfl (lv_at hl 3 rfl) ?_
      refine nv_sipush (v := 195) K d_R_last_44 (by decide) ?_
      refine nv_icmp_eq K (by omega) (by omega) d_R_last_47 rfl (fun h => (by omega : False).elim) (fun _ => ?_)
      refine lv_iload_n K.1 K.2.1 d_R_last_50 rfl (lv_at hl 3 rfl) ?_
      refine nv_sipush (v := 203) K d_R_last_51 (by decide) ?_
      refine nv_icmp_ne K (by omega) (by omega) d_R_last_54 rfl (fun _ => ?_) (fun h => (by omega : False).elim)
      refine lv_iload_n K.1 K.2.1 d_R_last_85 rfl (lv_at hl 1 rfl) ?_
      refine nv_iconst (v := 4) K d_R_last_86 (by decide) ?_
      refine nv_icmp_eq K (by omega) (by omega) d_R_last_87 rfl (fun h => (by omega : False).elim) (fun _ => ?_)
      refine lv_iload_n K.1 K.2.1 d_R_last_90 rfl (lv_at hl 1 rfl) ?_
      refine nv_iconst (v := 5) K d_R_last_91 (by decide) ?_
      refine nv_icmp_ne K (by omega) (by omega) d_R_last_92 rfl (fun _ => ?_) (fun h => (by omega : False).elim)
      refine lv_iload_n K.1 K.2.1 d_R_last_141 rfl (lv_at hl 1 rfl) ?_
      refine nv_iconst (v := 5) K d_R_last_142 (by decide) ?_
      refine nv_icmp_ne K (by omega) (by omega) d_R_last_143 rfl (fun _ => ?_) (fun h => (by omega : False).elim)
      refine lv_iload_n K.1 K.2.1 d_R_last_185 rfl (lv_at hl 1 rfl) ?_
      refine nv_bipush (v := 6) K d_R_last_186 (by decide) ?_
      refine nv_icmp_ne K (by omega) (by omega) d_R_last_188 rfl (fun _ => ?_) (fun h => (by omega : False).elim)
      refine lv_iload_n K.1 K.2.1 d_R_last_203 rfl (lv_at hl 1 rfl) ?_
      refine nv_bipush (v := 7) K d_R_last_204 (by decide) ?_
      refine nv_icmp_ne K (by omega) (by omega) d_R_last_206 rfl (fun _ => ?_) (fun h => (by omega : False).elim)
      refine lv_iload_n K.1 K.2.1 d_R_last_228 rfl (lv_at hl 1 rfl) ?_
      refine nv_iconst (v := 1) K d_R_last_229 (by decide) ?_
      refine nv_icmp_ne K (by omega) (by omega) d_R_last_230 rfl (fun h => (by omega : False).elim) (fun _ => ?_)
      refine lv_aload_n K.1 K.2.1 d_R_last_233 rfl (lv_at hl 2 rfl) ?_
      refine lv_iload_n K.1 K.2.1 d_R_last_234 rfl (lv_at hl 0 rfl) ?_
      refine qki K (r_popped (σ := σ) (r := 0) l D cI a hO (by omega)) (cw_R_128 K (Nat.le_of_ble_eq_true rfl) (Nat.le_of_ble_eq_true rfl)) hw (va_recv (ci := 3) (q0 := 0) hw.2.2.2.1 hw.1 rfl rfl) rfl hl.1 rfl (Nat.le_of_ble_eq_true rfl) d_R_last_235 ⟨Nat.zero_le _, Nat.zero_le _⟩ (fun H locs hw => ?_)
      have hO8 : z_Ok (z_pd σ 0) := z_ok_pd hO _
      have hb9 : z_pdt 0 < 11 := z_pdt_lt _
      refine lv_goto K.1 K.2.1 d_R_last_238 rfl ?_
      exact qri K hr hlk hw (by rw [if_neg (by omega)]; unfold z_ed; rw [h1, show b / 8 % 2 = 0 by omega, show b / 16 % 4 = 0 by omega, h7]; rfl) (congrArg nI (by unfold z_td; rw [h1, show b / 8 % 2 = 0 by omega, show b / 16 % 4 = 0 by omega, h7]; rfl)) d_R_last_246
    · have hl : lv_has ls 5 [(3, .int (nI 1)), (2, .int (nI 1)), (0, .ref a.1), (1, .int (nI b))] := by rw [h7] at hl; exact hl
      refine lv_iload_n K.1 K.2.1 d_R_last_38 rfl (lv_at hl 1 rfl) ?_
      refine nv_iconst (v := 2) K d_R_last_39 (by decide) ?_
      refine nv_icmp_eq K (by omega) (by omega) d_R_last_40 rfl (fun h => (by omega : False).elim) (fun _ => ?_)
      refine lv_iload_n K.1 K.2.1 d_R_last_43 rfl (lv_at hl 3 rfl) ?_
      refine nv_sipush (v := 195) K d_R_last_44 (by decide) ?_
      refine nv_icmp_eq K (by omega) (by omega) d_R_last_47 rfl (fun h => (by omega : False).elim) (fun _ => ?_)
      refine lv_iload_n K.1 K.2.1 d_R_last_50 rfl (lv_at hl 3 rfl) ?_
      refine nv_sipush (v := 203) K d_R_last_51 (by decide) ?_
      refine nv_icmp_ne K (by omega) (by omega) d_R_last_54 rfl (fun _ => ?_) (fun h => (by omega : False).elim)
      refine lv_iload_n K.1 K.2.1 d_R_last_85 rfl (lv_at hl 1 rfl) ?_
      refine nv_iconst (v := 4) K d_R_last_86 (by decide) ?_
      refine nv_icmp_eq K (by omega) (by omega) d_R_last_87 rfl (fun h => (by omega : False).elim) (fun _ => ?_)
      refine lv_iload_n K.1 K.2.1 d_R_last_90 rfl (lv_at hl 1 rfl) ?_
      refine nv_iconst (v := 5) K d_R_last_91 (by decide) ?_
      refine nv_icmp_ne K (by omega) (by omega) d_R_last_92 rfl (fun _ => ?_) (fun h => (by omega : False).elim)
      refine lv_iload_n K.1 K.2.1 d_R_last_141 rfl (lv_at hl 1 rfl) ?_
      refine nv_iconst (v := 5) K d_R_last_142 (by decide) ?_
      refine nv_icmp_ne K (by omega) (by omega) d_R_last_143 rfl (fun _ => ?_) (fun h => (by omega : False).elim)
      refine lv_iload_n K.1 K.2.1 d_R_last_185 rfl (lv_at hl 1 rfl) ?_
      refine nv_bipush (v := 6) K d_R_last_186 (by decide) ?_
      refine nv_icmp_ne K (by omega) (by omega) d_R_last_188 rfl (fun _ => ?_) (fun h => (by omega : False).elim)
      refine lv_iload_n K.1 K.2.1 d_R_last_203 rfl (lv_at hl 1 rfl) ?_
      refine nv_bipush (v := 7) K d_R_last_204 (by decide) ?_
      refine nv_icmp_ne K (by omega) (by omega) d_R_last_206 rfl (fun _ => ?_) (fun h => (by omega : False).elim)
      refine lv_iload_n K.1 K.2.1 d_R_last_228 rfl (lv_at hl 1 rfl) ?_
      refine nv_iconst (v := 1) K d_R_last_229 (by decide) ?_
      refine nv_icmp_ne K (by omega) (by omega) d_R_last_230 rfl (fun h => (by omega : False).elim) (fun _ => ?_)
      refine lv_aload_n K.1 K.2.1 d_R_last_233 rfl (lv_at hl 2 rfl) ?_
      refine lv_iload_n K.1 K.2.1 d_R_last_234 rfl (lv_at hl 0 rfl) ?_
      refine qki K (r_popped (σ := σ) (r := 1) l D cI a hO (by omega)) (cw_R_128 K (Nat.le_of_ble_eq_true rfl) (Nat.le_of_ble_eq_true rfl)) hw (va_recv (ci := 3) (q0 := 0) hw.2.2.2.1 hw.1 rfl rfl) rfl hl.1 rfl (Nat.le_of_ble_eq_true rfl) d_R_last_235 ⟨Nat.zero_le _, Nat.zero_le _⟩ (fun H locs hw => ?_)
      have hO10 : z_Ok (z_pd σ 1) := z_ok_pd hO _
      have hb11 : z_pdt 1 < 11 := z_pdt_lt _
      refine lv_goto K.1 K.2.1 d_R_last_238 rfl ?_
      exact qri K hr hlk hw (by rw [if_neg (by omega)]; unfold z_ed; rw [h1, show b / 8 % 2 = 1 by omega, show b / 16 % 4 = 0 by omega, h7]; rfl) (congrArg nI (by unfold z_td; rw [h1, show b / 8 % 2 = 1 by omega, show b / 16 % 4 = 0 by omega, h7]; rfl)) d_R_last_246
    · have hl : lv_has ls 5 [(3, .int (nI 2)), (2, .int (nI 1)), (0, .ref a.1), (1, .int (nI b))] := by rw [h7] at hl; exact hl
      refine lv_iload_n K.1 K.2.1 d_R_last_38 rfl (lv_at hl 1 rfl) ?_
      refine nv_iconst (v := 2) K d_R_last_39 (by decide) ?_
      refine nv_icmp_eq K (by omega) (by omega) d_R_last_40 rfl (fun h => (by omega : False).elim) (fun _ => ?_)
      refine lv_iload_n K.1 K.2.1 d_R_last_43 rfl (lv_at hl 3 rfl) ?_
      refine nv_sipush (v := 195) K d_R_last_44 (by decide) ?_
      refine nv_icmp_eq K (by omega) (by omega) d_R_last_47 rfl (fun h => (by omega : False).elim) (fun _ => ?_)
      refine lv_iload_n K.1 K.2.1 d_R_last_50 rfl (lv_at hl 3 rfl) ?_
      refine nv_sipush (v := 203) K d_R_last_51 (by decide) ?_
      refine nv_icmp_ne K (by omega) (by omega) d_R_last_54 rfl (fun _ => ?_) (fun h => (by omega : False).elim)
      refine lv_iload_n K.1 K.2.1 d_R_last_85 rfl (lv_at hl 1 rfl) ?_
      refine nv_iconst (v := 4) K d_R_last_86 (by decide) ?_
      refine nv_icmp_eq K (by omega) (by omega) d_R_last_87 rfl (fun h => (by omega : False).elim) (fun _ => ?_)
      refine lv_iload_n K.1 K.2.1 d_R_last_90 rfl (lv_at hl 1 rfl) ?_
      refine nv_iconst (v := 5) K d_R_last_91 (by decide) ?_
      refine nv_icmp_ne K (by omega) (by omega) d_R_last_92 rfl (fun _ => ?_) (fun h => (by omega : False).elim)
      refine lv_iload_n K.1 K.2.1 d_R_last_141 rfl (lv_at hl 1 rfl) ?_
      refine nv_iconst (v := 5) K d_R_last_142 (by decide) ?_
      refine nv_icmp_ne K (by omega) (by omega) d_R_last_143 rfl (fun _ => ?_) (fun h => (by omega : False).elim)
      refine lv_iload_n K.1 K.2.1 d_R_last_185 rfl (lv_at hl 1 rfl) ?_
      refine nv_bipush (v := 6) K d_R_last_186 (by decide) ?_
      refine nv_icmp_ne K (by omega) (by omega) d_R_last_188 rfl (fun _ => ?_) (fun h => (by omega : False).elim)
      refine lv_iload_n K.1 K.2.1 d_R_last_203 rfl (lv_at hl 1 rfl) ?_
      refine nv_bipush (v := 7) K d_R_last_204 (by decide) ?_
      refine nv_icmp_ne K (by omega) (by omega) d_R_last_206 rfl (fun _ => ?_) (fun h => (by omega : False).elim)
      refine lv_iload_n K.1 K.2.1 d_R_last_228 rfl (lv_at hl 1 rfl) ?_
      refine nv_iconst (v := 1) K d_R_last_229 (by decide) ?_
      refine nv_icmp_ne K (by omega) (by omega) d_R_last_230 rfl (fun h => (by omega : False).elim) (fun _ => ?_)
      refine lv_aload_n K.1 K.2.1 d_R_last_233 rfl (lv_at hl 2 rfl) ?_
      refine lv_iload_n K.1 K.2.1 d_R_last_234 rfl (lv_at hl 0 rfl) ?_
      refine qki K (r_popped (σ := σ) (r := 2) l D cI a hO (by omega)) (cw_R_128 K (Nat.le_of_ble_eq_true rfl) (Nat.le_of_ble_eq_true rfl)) hw (va_recv (ci := 3) (q0 := 0) hw.2.2.2.1 hw.1 rfl rfl) rfl hl.1 rfl (Nat.le_of_ble_eq_true rfl) d_R_last_235 ⟨Nat.zero_le _, Nat.zero_le _⟩ (fun H locs hw => ?_)
      have hO12 : z_Ok (z_pd σ 2) := z_ok_pd hO _
      have hb13 : z_pdt 2 < 11 := z_pdt_lt _
      refine lv_goto K.1 K.2.1 d_R_last_238 rfl ?_
      exact qri K hr hlk hw (by rw [if_neg (by omega)]; unfold z_ed; rw [h1, show b / 8 % 2 = 0 by omega, show b / 16 % 4 = 1 by omega, h7]; rfl) (congrArg nI (by unfold z_td; rw [h1, show b / 8 % 2 = 0 by omega, show b / 16 % 4 = 1 by omega, h7]; rfl)) d_R_last_246
    · have hl : lv_has ls 5 [(3, .int (nI 3)), (2, .int (nI 1)), (0, .ref a.1), (1, .int (nI b))] := by rw [h7] at hl; exact hl
      refine lv_iload_n K.1 K.2.1 d_R_last_38 rfl (lv_at hl 1 rfl) ?_
      refine nv_iconst (v := 2) K d_R_last_39 (by decide) ?_
      refine nv_icmp_eq K (by omega) (by omega) d_R_last_40 rfl (fun h => (by omega : False).elim) (fun _ => ?_)
      refine lv_iload_n K.1 K.2.1 d_R_last_43 rfl (lv_at hl 3 rfl) ?_
      refine nv_sipush (v := 195) K d_R_last_44 (by decide) ?_
      refine nv_icmp_eq K (by omega) (by omega) d_R_last_47 rfl (fun h => (by omega : False).elim) (fun _ => ?_)
      refine lv_iload_n K.1 K.2.1 d_R_last_50 rfl (lv_at hl 3 rfl) ?_
      refine nv_sipush (v := 203) K d_R_last_51 (by decide) ?_
      refine nv_icmp_ne K (by omega) (by omega) d_R_last_54 rfl (fun _ => ?_) (fun h => (by omega : False).elim)
      refine lv_iload_n K.1 K.2.1 d_R_last_85 rfl (lv_at hl 1 rfl) ?_
      refine nv_iconst (v := 4) K d_R_last_86 (by decide) ?_
      refine nv_icmp_eq K (by omega) (by omega) d_R_last_87 rfl (fun h => (by omega : False).elim) (fun _ => ?_)
      refine lv_iload_n K.1 K.2.1 d_R_last_90 rfl (lv_at hl 1 rfl) ?_
      refine nv_iconst (v := 5) K d_R_last_91 (by decide) ?_
      refine nv_icmp_ne K (by omega) (by omega) d_R_last_92 rfl (fun _ => ?_) (fun h => (by omega : False).elim)
      refine lv_iload_n K.1 K.2.1 d_R_last_141 rfl (lv_at hl 1 rfl) ?_
      refine nv_iconst (v := 5) K d_R_last_142 (by decide) ?_
      refine nv_icmp_ne K (by omega) (by omega) d_R_last_143 rfl (fun _ => ?_) (fun h => (by omega : False).elim)
      refine lv_iload_n K.1 K.2.1 d_R_last_185 rfl (lv_at hl 1 rfl) ?_
      refine nv_bipush (v := 6) K d_R_last_186 (by decide) ?_
      refine nv_icmp_ne K (by omega) (by omega) d_R_last_188 rfl (fun _ => ?_) (fun h => (by omega : False).elim)
      refine lv_iload_n K.1 K.2.1 d_R_last_203 rfl (lv_at hl 1 rfl) ?_
      refine nv_bipush (v := 7) K d_R_last_204 (by decide) ?_
      refine nv_icmp_ne K (by omega) (by omega) d_R_last_206 rfl (fun _ => ?_) (fun h => (by omega : False).elim)
      refine lv_iload_n K.1 K.2.1 d_R_last_228 rfl (lv_at hl 1 rfl) ?_
      refine nv_iconst (v := 1) K d_R_last_229 (by decide) ?_
      refine nv_icmp_ne K (by omega) (by omega) d_R_last_230 rfl (fun h => (by omega : False).elim) (fun _ => ?_)
      refine lv_aload_n K.1 K.2.1 d_R_last_233 rfl (lv_at hl 2 rfl) ?_
      refine lv_iload_n K.1 K.2.1 d_R_last_234 rfl (lv_at hl 0 rfl) ?_
      refine qki K (r_popped (σ := σ) (r := 3) l D cI a hO (by omega)) (cw_R_128 K (Nat.le_of_ble_eq_true rfl) (Nat.le_of_ble_eq_true rfl)) hw (va_recv (ci := 3) (q0 := 0) hw.2.2.2.1 hw.1 rfl rfl) rfl hl.1 rfl (Nat.le_of_ble_eq_true rfl) d_R_last_235 ⟨Nat.zero_le _, Nat.zero_le _⟩ (fun H locs hw => ?_)
      have hO14 : z_Ok (z_pd σ 3) := z_ok_pd hO _
      have hb15 : z_pdt 3 < 11 := z_pdt_lt _
      refine lv_goto K.1 K.2.1 d_R_last_238 rfl ?_
      exact qri K hr hlk hw (by rw [if_neg (by omega)]; unfold z_ed; rw [h1, show b / 8 % 2 = 1 by omega, show b / 16 % 4 = 1 by omega, h7]; rfl) (congrArg nI (by unfold z_td; rw [h1, show b / 8 % 2 = 1 by omega, show b / 16 % 4 = 1 by omega, h7]; rfl)) d_R_last_246
    · have hl : lv_has ls 5 [(3, .int (nI 4)), (2, .int (nI 1)), (0, .ref a.1), (1, .int (nI b))] := by rw [h7] at hl; exact hl
      refine lv_iload_n K.1 K.2.1 d_R_last_38 rfl (lv_at hl 1 rfl) ?_
      refine nv_iconst (v := 2) K d_R_last_39 (by decide) ?_
      refine nv_icmp_eq K (by omega) (by omega) d_R_last_40 rfl (fun h => (by omega : False).elim) (fun _ => ?_)
      refine lv_iload_n K.1 K.2.1 d_R_last_43 rfl (lv_at hl 3 rfl) ?_
      refine nv_sipush (v := 195) K d_R_last_44 (by decide) ?_
      refine nv_icmp_eq K (by omega) (by omega) d_R_last_47 rfl (fun h => (by omega : False).elim) (fun _ => ?_)
      refine lv_iload_n K.1 K.2.1 d_R_last_50 rfl (lv_at hl 3 rfl) ?_
      refine nv_sipush (v := 203) K d_R_last_51 (by decide) ?_
      refine nv_icmp_ne K (by omega) (by omega) d_R_last_54 rfl (fun _ => ?_) (fun h => (by omega : False).elim)
      refine lv_iload_n K.1 K.2.1 d_R_last_85 rfl (lv_at hl 1 rfl) ?_
      refine nv_iconst (v := 4) K d_R_last_86 (by decide) ?_
      refine nv_icmp_eq K (by omega) (by omega) d_R_last_87 rfl (fun h => (by omega : False).elim) (fun _ => ?_)
      refine lv_iload_n K.1 K.2.1 d_R_last_90 rfl (lv_at hl 1 rfl) ?_
      refine nv_iconst (v := 5) K d_R_last_91 (by decide) ?_
      refine nv_icmp_ne K (by omega) (by omega) d_R_last_92 rfl (fun _ => ?_) (fun h => (by omega : False).elim)
      refine lv_iload_n K.1 K.2.1 d_R_last_141 rfl (lv_at hl 1 rfl) ?_
      refine nv_iconst (v := 5) K d_R_last_142 (by decide) ?_
      refine nv_icmp_ne K (by omega) (by omega) d_R_last_143 rfl (fun _ => ?_) (fun h => (by omega : False).elim)
      refine lv_iload_n K.1 K.2.1 d_R_last_185 rfl (lv_at hl 1 rfl) ?_
      refine nv_bipush (v := 6) K d_R_last_186 (by decide) ?_
      refine nv_icmp_ne K (by omega) (by omega) d_R_last_188 rfl (fun _ => ?_) (fun h => (by omega : False).elim)
      refine lv_iload_n K.1 K.2.1 d_R_last_203 rfl (lv_at hl 1 rfl) ?_
      refine nv_bipush (v := 7) K d_R_last_204 (by decide) ?_
      refine nv_icmp_ne K (by omega) (by omega) d_R_last_206 rfl (fun _ => ?_) (fun h => (by omega : False).elim)
      refine lv_iload_n K.1 K.2.1 d_R_last_228 rfl (lv_at hl 1 rfl) ?_
      refine nv_iconst (v := 1) K d_R_last_229 (by decide) ?_
      refine nv_icmp_ne K (by omega) (by omega) d_R_last_230 rfl (fun h => (by omega : False).elim) (fun _ => ?_)
      refine lv_aload_n K.1 K.2.1 d_R_last_233 rfl (lv_at hl 2 rfl) ?_
      refine lv_iload_n K.1 K.2.1 d_R_last_234 rfl (lv_at hl 0 rfl) ?_
      refine qki K (r_popped (σ := σ) (r := 4) l D cI a hO (by omega)) (cw_R_128 K (Nat.le_of_ble_eq_true rfl) (Nat.le_of_ble_eq_true rfl)) hw (va_recv (ci := 3) (q0 := 0) hw.2.2.2.1 hw.1 rfl rfl) rfl hl.1 rfl (Nat.le_of_ble_eq_true rfl) d_R_last_235 ⟨Nat.zero_le _, Nat.zero_le _⟩ (fun H locs hw => ?_)
      have hO16 : z_Ok (z_pd σ 4) := z_ok_pd hO _
      have hb17 : z_pdt 4 < 11 := z_pdt_lt _
      refine lv_goto K.1 K.2.1 d_R_last_238 rfl ?_
      exact qri K hr hlk hw (by rw [if_neg (by omega)]; unfold z_ed; rw [h1, show b / 8 % 2 = 0 by omega, show b / 16 % 4 = 2 by omega, h7]; rfl) (congrArg nI (by unfold z_td; rw [h1, show b / 8 % 2 = 0 by omega, show b / 16 % 4 = 2 by omega, h7]; rfl)) d_R_last_246
    · have hl : lv_has ls 5 [(3, .int (nI 5)), (2, .int (nI 1)), (0, .ref a.1), (1, .int (nI b))] := by rw [h7] at hl; exact hl
      refine lv_iload_n K.1 K.2.1 d_R_last_38 rfl (lv_at hl 1 rfl) ?_
      refine nv_iconst (v := 2) K d_R_last_39 (by decide) ?_
      refine nv_icmp_eq K (by omega) (by omega) d_R_last_40 rfl (fun h => (by omega : False).elim) (fun _ => ?_)
      refine lv_iload_n K.1 K.2.1 d_R_last_43 rfl (lv_at hl 3 rfl) ?_
      refine nv_sipush (v := 195) K d_R_last_44 (by decide) ?_
      refine nv_icmp_eq K (by omega) (by omega) d_R_last_47 rfl (fun h => (by omega : False).elim) (fun _ => ?_)
      refine lv_iload_n K.1 K.2.1 d_R_last_50 rfl (lv_at hl 3 rfl) ?_
      refine nv_sipush (v := 203) K d_R_last_51 (by decide) ?_
      refine nv_icmp_ne K (by omega) (by omega) d_R_last_54 rfl (fun _ => ?_) (fun h => (by omega : False).elim)
      refine lv_iload_n K.1 K.2.1 d_R_last_85 rfl (lv_at hl 1 rfl) ?_
      refine nv_iconst (v := 4) K d_R_last_86 (by decide) ?_
      refine nv_icmp_eq K (by omega) (by omega) d_R_last_87 rfl (fun h => (by omega : False).elim) (fun _ => ?_)
      refine lv_iload_n K.1 K.2.1 d_R_last_90 rfl (lv_at hl 1 rfl) ?_
      refine nv_iconst (v := 5) K d_R_last_91 (by decide) ?_
      refine nv_icmp_ne K (by omega) (by omega) d_R_last_92 rfl (fun _ => ?_) (fun h => (by omega : False).elim)
      refine lv_iload_n K.1 K.2.1 d_R_last_141 rfl (lv_at hl 1 rfl) ?_
      refine nv_iconst (v := 5) K d_R_last_142 (by decide) ?_
      refine nv_icmp_ne K (by omega) (by omega) d_R_last_143 rfl (fun _ => ?_) (fun h => (by omega : False).elim)
      refine lv_iload_n K.1 K.2.1 d_R_last_185 rfl (lv_at hl 1 rfl) ?_
      refine nv_bipush (v := 6) K d_R_last_186 (by decide) ?_
      refine nv_icmp_ne K (by omega) (by omega) d_R_last_188 rfl (fun _ => ?_) (fun h => (by omega : False).elim)
      refine lv_iload_n K.1 K.2.1 d_R_last_203 rfl (lv_at hl 1 rfl) ?_
      refine nv_bipush (v := 7) K d_R_last_204 (by decide) ?_
      refine nv_icmp_ne K (by omega) (by omega) d_R_last_206 rfl (fun _ => ?_) (fun h => (by omega : False).elim)
      refine lv_iload_n K.1 K.2.1 d_R_last_228 rfl (lv_at hl 1 rfl) ?_
      refine nv_iconst (v := 1) K d_R_last_229 (by decide) ?_
      refine nv_icmp_ne K (by omega) (by omega) d_R_last_230 rfl (fun h => (by omega : False).elim) (fun _ => ?_)
      refine lv_aload_n K.1 K.2.1 d_R_last_233 rfl (lv_at hl 2 rfl) ?_
      refine lv_iload_n K.1 K.2.1 d_R_last_234 rfl (lv_at hl 0 rfl) ?_
      refine qki K (r_popped (σ := σ) (r := 5) l D cI a hO (by omega)) (cw_R_128 K (Nat.le_of_ble_eq_true rfl) (Nat.le_of_ble_eq_true rfl)) hw (va_recv (ci := 3) (q0 := 0) hw.2.2.2.1 hw.1 rfl rfl) rfl hl.1 rfl (Nat.le_of_ble_eq_true rfl) d_R_last_235 ⟨Nat.zero_le _, Nat.zero_le _⟩ (fun H locs hw => ?_)
      have hO18 : z_Ok (z_pd σ 5) := z_ok_pd hO _
      have hb19 : z_pdt 5 < 11 := z_pdt_lt _
      refine lv_goto K.1 K.2.1 d_R_last_238 rfl ?_
      exact qri K hr hlk hw (by rw [if_neg (by omega)]; unfold z_ed; rw [h1, show b / 8 % 2 = 1 by omega, show b / 16 % 4 = 2 by omega, h7]; rfl) (congrArg nI (by unfold z_td; rw [h1, show b / 8 % 2 = 1 by omega, show b / 16 % 4 = 2 by omega, h7]; rfl)) d_R_last_246
    · have hl : lv_has ls 5 [(3, .int (nI 6)), (2, .int (nI 1)), (0, .ref a.1), (1, .int (nI b))] := by rw [h7] at hl; exact hl
      refine lv_iload_n K.1 K.2.1 d_R_last_38 rfl (lv_at hl 1 rfl) ?_
      refine nv_iconst (v := 2) K d_R_last_39 (by decide) ?_
      refine nv_icmp_eq K (by omega) (by omega) d_R_last_40 rfl (fun h => (by omega : False).elim) (fun _ => ?_)
      refine lv_iload_n K.1 K.2.1 d_R_last_43 rfl (lv_at hl 3 rfl) ?_
      refine nv_sipush (v := 195) K d_R_last_44 (by decide) ?_
      refine nv_icmp_eq K (by omega) (by omega) d_R_last_47 rfl (fun h => (by omega : False).elim) (fun _ => ?_)
      refine lv_iload_n K.1 K.2.1 d_R_last_50 rfl (lv_at hl 3 rfl) ?_
      refine nv_sipush (v := 203) K d_R_last_51 (by decide) ?_
      refine nv_icmp_ne K (by omega) (by omega) d_R_last_54 rfl (fun _ => ?_) (fun h => (by omega : False).elim)
      refine lv_iload_n K.1 K.2.1 d_R_last_85 rfl (lv_at hl 1 rfl) ?_
      refine nv_iconst (v := 4) K d_R_last_86 (by decide) ?_
      refine nv_icmp_eq K (by omega) (by omega) d_R_last_87 rfl (fun h => (by omega : False).elim) (fun _ => ?_)
      refine lv_iload_n K.1 K.2.1 d_R_last_90 rfl (lv_at hl 1 rfl) ?_
      refine nv_iconst (v := 5) K d_R_last_91 (by decide) ?_
      refine nv_icmp_ne K (by omega) (by omega) d_R_last_92 rfl (fun _ => ?_) (fun h => (by omega : False).elim)
      refine lv_iload_n K.1 K.2.1 d_R_last_141 rfl (lv_at hl 1 rfl) ?_
      refine nv_iconst (v := 5) K d_R_last_142 (by decide) ?_
      refine nv_icmp_ne K (by omega) (by omega) d_R_last_143 rfl (fun _ => ?_) (fun h => (by omega : False).elim)
      refine lv_iload_n K.1 K.2.1 d_R_last_185 rfl (lv_at hl 1 rfl) ?_
      refine nv_bipush (v := 6) K d_R_last_186 (by decide) ?_
      refine nv_icmp_ne K (by omega) (by omega) d_R_last_188 rfl (fun _ => ?_) (fun h => (by omega : False).elim)
      refine lv_iload_n K.1 K.2.1 d_R_last_203 rfl (lv_at hl 1 rfl) ?_
      refine nv_bipush (v := 7) K d_R_last_204 (by decide) ?_
      refine nv_icmp_ne K (by omega) (by omega) d_R_last_206 rfl (fun _ => ?_) (fun h => (by omega : False).elim)
      refine lv_iload_n K.1 K.2.1 d_R_last_228 rfl (lv_at hl 1 rfl) ?_
      refine nv_iconst (v := 1) K d_R_last_229 (by decide) ?_
      refine nv_icmp_ne K (by omega) (by omega) d_R_last_230 rfl (fun h => (by omega : False).elim) (fun _ => ?_)
      refine lv_aload_n K.1 K.2.1 d_R_last_233 rfl (lv_at hl 2 rfl) ?_
      refine lv_iload_n K.1 K.2.1 d_R_last_234 rfl (lv_at hl 0 rfl) ?_
      refine qki K (r_popped (σ := σ) (r := 6) l D cI a hO (by omega)) (cw_R_128 K (Nat.le_of_ble_eq_true rfl) (Nat.le_of_ble_eq_true rfl)) hw (va_recv (ci := 3) (q0 := 0) hw.2.2.2.1 hw.1 rfl rfl) rfl hl.1 rfl (Nat.le_of_ble_eq_true rfl) d_R_last_235 ⟨Nat.zero_le _, Nat.zero_le _⟩ (fun H locs hw => ?_)
      have hO20 : z_Ok (z_pd σ 6) := z_ok_pd hO _
      have hb21 : z_pdt 6 < 11 := z_pdt_lt _
      refine lv_goto K.1 K.2.1 d_R_last_238 rfl ?_
      exact qri K hr hlk hw (by rw [if_neg (by omega)]; unfold z_ed; rw [h1, show b / 8 % 2 = 0 by omega, show b / 16 % 4 = 3 by omega, h7]; rfl) (congrArg nI (by unfold z_td; rw [h1, show b / 8 % 2 = 0 by omega, show b / 16 % 4 = 3 by omega, h7]; rfl)) d_R_last_246
    · have hl : lv_has ls 5 [(3, .int (nI 7)), (2, .int (nI 1)), (0, .ref a.1), (1, .int (nI b))] := by rw [h7] at hl; exact hl
      refine lv_iload_n K.1 K.2.1 d_R_last_38 rfl (lv_at hl 1 rfl) ?_
      refine nv_iconst (v := 2) K d_R_last_39 (by decide) ?_
      refine nv_icmp_eq K (by omega) (by omega) d_R_last_40 rfl (fun h => (by omega : False).elim) (fun _ => ?_)
      refine lv_iload_n K.1 K.2.1 d_R_last_43 rfl (lv_at hl 3 rfl) ?_
      refine nv_sipush (v := 195) K d_R_last_44 (by decide) ?_
      refine nv_icmp_eq K (by omega) (by omega) d_R_last_47 rfl (fun h => (by omega : False).elim) (fun _ => ?_)
      refine lv_iload_n K.1 K.2.1 d_R_last_50 rfl (lv_at hl 3 rfl) ?_
      refine nv_sipush (v := 203) K d_R_last_51 (by decide) ?_
      refine nv_icmp_ne K (by omega) (by omega) d_R_last_54 rfl (fun _ => ?_) (fun h => (by omega : False).elim)
      refine lv_iload_n K.1 K.2.1 d_R_last_85 rfl (lv_at hl 1 rfl) ?_
      refine nv_iconst (v := 4) K d_R_last_86 (by decide) ?_
      refine nv_icmp_eq K (by omega) (by omega) d_R_last_87 rfl (fun h => (by omega : False).elim) (fun _ => ?_)
      refine lv_iload_n K.1 K.2.1 d_R_last_90 rfl (lv_at hl 1 rfl) ?_
      refine nv_iconst (v := 5) K d_R_last_91 (by decide) ?_
      refine nv_icmp_ne K (by omega) (by omega) d_R_last_92 rfl (fun _ => ?_) (fun h => (by omega : False).elim)
      refine lv_iload_n K.1 K.2.1 d_R_last_141 rfl (lv_at hl 1 rfl) ?_
      refine nv_iconst (v := 5) K d_R_last_142 (by decide) ?_
      refine nv_icmp_ne K (by omega) (by omega) d_R_last_143 rfl (fun _ => ?_) (fun h => (by omega : False).elim)
      refine lv_iload_n K.1 K.2.1 d_R_last_185 rfl (lv_at hl 1 rfl) ?_
      refine nv_bipush (v := 6) K d_R_last_186 (by decide) ?_
      refine nv_icmp_ne K (by omega) (by omega) d_R_last_188 rfl (fun _ => ?_) (fun h => (by omega : False).elim)
      refine lv_iload_n K.1 K.2.1 d_R_last_203 rfl (lv_at hl 1 rfl) ?_
      refine nv_bipush (v := 7) K d_R_last_204 (by decide) ?_
      refine nv_icmp_ne K (by omega) (by omega) d_R_last_206 rfl (fun _ => ?_) (fun h => (by omega : False).elim)
      refine lv_iload_n K.1 K.2.1 d_R_last_228 rfl (lv_at hl 1 rfl) ?_
      refine nv_iconst (v := 1) K d_R_last_229 (by decide) ?_
      refine nv_icmp_ne K (by omega) (by omega) d_R_last_230 rfl (fun h => (by omega : False).elim) (fun _ => ?_)
      refine lv_aload_n K.1 K.2.1 d_R_last_233 rfl (lv_at hl 2 rfl) ?_
      refine lv_iload_n K.1 K.2.1 d_R_last_234 rfl (lv_at hl 0 rfl) ?_
      refine qki K (r_popped (σ := σ) (r := 7) l D cI a hO (by omega)) (cw_R_128 K (Nat.le_of_ble_eq_true rfl) (Nat.le_of_ble_eq_true rfl)) hw (va_recv (ci := 3) (q0 := 0) hw.2.2.2.1 hw.1 rfl rfl) rfl hl.1 rfl (Nat.le_of_ble_eq_true rfl) d_R_last_235 ⟨Nat.zero_le _, Nat.zero_le _⟩ (fun H locs hw => ?_)
      have hO22 : z_Ok (z_pd σ 7) := z_ok_pd hO _
      have hb23 : z_pdt 7 < 11 := z_pdt_lt _
      refine lv_goto K.1 K.2.1 d_R_last_238 rfl ?_
      exact qri K hr hlk hw (by rw [if_neg (by omega)]; unfold z_ed; rw [h1, show b / 8 % 2 = 1 by omega, show b / 16 % 4 = 3 by omega, h7]; rfl) (congrArg nI (by unfold z_td; rw [h1, show b / 8 % 2 = 1 by omega, show b / 16 % 4 = 3 by omega, h7]; rfl)) d_R_last_246
  · have hl : lv_has ls 5 [(3, .int (nI ((b / 8) % 8))), (2, .int (nI 2)), (0, .ref a.1), (1, .int (nI b))] := by rw [h1] at hl; exact hl
    refine lv_iload_n K.1 K.2.1 d_R_last_13 rfl (lv_at hl 1 rfl) ?_
    refine nv_if_ne K (by omega) d_R_last_14 rfl (fun _ => ?_) (fun h => (by omega : False).elim)
    refine lv_iload_n K.1 K.2.1 d_R_last_38 rfl (lv_at hl 1 rfl) ?_
    refine nv_iconst (v := 2) K d_R_last_39 (by decide) ?_
    refine nv_icmp_eq K (by omega) (by omega) d_R_last_40 rfl (fun _ => ?_) (fun h => (by omega : False).elim)
    refine lv_aload_n K.1 K.2.1 d_R_last_57 rfl (lv_at hl 2 rfl) ?_
    refine qki K (r_nextWord (σ := σ) l D cI a hO) (cw_R_97 K (Nat.le_of_ble_eq_true rfl) (Nat.le_of_ble_eq_true rfl)) hw (va_recv (ci := 3) (q0 := 0) hw.2.2.2.1 hw.1 rfl rfl) rfl hl.1 rfl (Nat.le_of_ble_eq_true rfl) d_R_last_58 ⟨Nat.zero_le _, Nat.zero_le _⟩ (fun H locs hw => ?_)
    have hO24 : z_Ok (z_nn σ) := z_ok_nn hO
    have hb25 : z_nw σ < 65536 := z_nw_lt hO
    refine lv_istore (lv' := [(4, .int (nI (z_nw σ))), (3, .int (nI ((b / 8) % 8))), (2, .int (nI 2)), (0, .ref a.1), (1, .int (nI b))]) K.1 K.2.1 d_R_last_61 hl (by decide) rfl (fun ls hl => ?_)
    refine lv_iload_n K.1 K.2.1 d_R_last_63 rfl (lv_at hl 2 rfl) ?_
    refine nv_iconst (v := 3) K d_R_last_64 (by decide) ?_
    refine nv_icmp_eq K (by omega) (by omega) d_R_last_65 rfl (fun h => (by omega : False).elim) (fun _ => ?_)
    refine lv_aload_n K.1 K.2.1 d_R_last_68 rfl (lv_at hl 3 rfl) ?_
    refine lv_iload_n K.1 K.2.1 d_R_last_69 rfl (lv_at hl 1 rfl) ?_
    refine qki K (r_holds (σ := z_nn σ) (k := (b / 8) % 8) l D cI a hO24 (by omega)) (cw_R_115 K (Nat.le_of_ble_eq_true rfl) (Nat.le_of_ble_eq_true rfl)) hw (va_recv (ci := 3) (q0 := 0) hw.2.2.2.1 hw.1 rfl rfl) rfl hl.1 rfl (Nat.le_of_ble_eq_true rfl) d_R_last_70 ⟨Nat.zero_le _, Nat.zero_le _⟩ (fun H locs hw => ?_)
    refine nv_as K (y := nI (z_hold σ ((b / 8) % 8))) rfl ?_
    have hb26 : z_hold σ ((b / 8) % 8) < 2 := z_hold_lt _ _
    refine nv_if_eq K (by omega) d_R_last_73 rfl (fun h27 => ?_) (fun h27 => ?_)
    · refine nv_bipush (v := 10) K d_R_last_82 (by decide) ?_
      exact qri K hr hlk hw (by rw [if_neg (by omega)]; unfold z_ed; exact ((if_neg (by omega)).trans ((if_neg (by omega)).trans ((if_pos h1).trans (if_neg (by omega))))).symm) (congrArg nI (by unfold z_td; exact ((if_neg (by omega)).trans ((if_neg (by omega)).trans ((if_pos h1)))).symm)) d_R_last_84
    · refine lv_aload_n K.1 K.2.1 d_R_last_76 rfl (lv_at hl 3 rfl) ?_
      refine lv_iload K.1 K.2.1 d_R_last_77 (lv_at hl 0 rfl) ?_
      refine qp_pc (v := z_nw σ) K hw d_R_last_79 (fun H locs hw => ?_)
      have hO28 : z_Ok (z_s_pc (z_nn σ) (z_nw σ)) := z_ok_pc hO24 (by omega)
      refine nv_bipush (v := 10) K d_R_last_82 (by decide) ?_
      exact qri K hr hlk hw (by rw [if_neg (by omega)]; unfold z_ed; exact ((if_neg (by omega)).trans ((if_neg (by omega)).trans ((if_pos h1).trans (if_pos (by omega))))).symm) (congrArg nI (by unfold z_td; exact ((if_neg (by omega)).trans ((if_neg (by omega)).trans ((if_pos h1)))).symm)) d_R_last_84
  · have hl : lv_has ls 5 [(3, .int (nI ((b / 8) % 8))), (2, .int (nI 3)), (0, .ref a.1), (1, .int (nI b))] := by rw [h1] at hl; exact hl
    refine lv_iload_n K.1 K.2.1 d_R_last_13 rfl (lv_at hl 1 rfl) ?_
    refine nv_if_ne K (by omega) d_R_last_14 rfl (fun _ => ?_) (fun h => (by omega : False).elim)
    rcases (by omega : (b / 8) % 8 = 0 ∨ (b / 8) % 8 = 1 ∨ (b / 8) % 8 = 2 ∨ (b / 8) % 8 = 3 ∨ (b / 8) % 8 = 4 ∨ (b / 8) % 8 = 5 ∨ (b / 8) % 8 = 6 ∨ (b / 8) % 8 = 7) with h29 | h29 | h29 | h29 | h29 | h29 | h29 | h29
    · have hl : lv_has ls 5 [(3, .int (nI 0)), (2, .int (nI 3)), (0, .ref a.1), (1, .int (nI b))] := by rw [h29] at hl; exact hl
      refine lv_iload_n K.1 K.2.1 d_R_last_38 rfl (lv_at hl 1 rfl) ?_
      refine nv_iconst (v := 2) K d_R_last_39 (by decide) ?_
      refine nv_icmp_eq K (by omega) (by omega) d_R_last_40 rfl (fun h => (by omega : False).elim) (fun _ => ?_)
      refine lv_iload_n K.1 K.2.1 d_R_last_43 rfl (lv_at hl 3 rfl) ?_
      refine nv_sipush (v := 195) K d_R_last_44 (by decide) ?_
      refine nv_icmp_eq K (by omega) (by omega) d_R_last_47 rfl (fun _ => ?_) (fun h => (by omega : False).elim)
      refine lv_aload_n K.1 K.2.1 d_R_last_57 rfl (lv_at hl 2 rfl) ?_
      refine qki K (r_nextWord (σ := σ) l D cI a hO) (cw_R_97 K (Nat.le_of_ble_eq_true rfl) (Nat.le_of_ble_eq_true rfl)) hw (va_recv (ci := 3) (q0 := 0) hw.2.2.2.1 hw.1 rfl rfl) rfl hl.1 rfl (Nat.le_of_ble_eq_true rfl) d_R_last_58 ⟨Nat.zero_le _, Nat.zero_le _⟩ (fun H locs hw => ?_)
      have hO30 : z_Ok (z_nn σ) := z_ok_nn hO
      have hb31 : z_nw σ < 65536 := z_nw_lt hO
      refine lv_istore (lv' := [(4, .int (nI (z_nw σ))), (3, .int (nI 0)), (2, .int (nI 3)), (0, .ref a.1), (1, .int (nI b))]) K.1 K.2.1 d_R_last_61 hl (by decide) rfl (fun ls hl => ?_)
      refine lv_iload_n K.1 K.2.1 d_R_last_63 rfl (lv_at hl 2 rfl) ?_
      refine nv_iconst (v := 3) K d_R_last_64 (by decide) ?_
      refine nv_icmp_eq K (by omega) (by omega) d_R_last_65 rfl (fun _ => ?_) (fun h => (by omega : False).elim)
      refine lv_aload_n K.1 K.2.1 d_R_last_76 rfl (lv_at hl 3 rfl) ?_
      refine lv_iload K.1 K.2.1 d_R_last_77 (lv_at hl 0 rfl) ?_
      refine qp_pc (v := z_nw σ) K hw d_R_last_79 (fun H locs hw => ?_)
      have hO32 : z_Ok (z_s_pc (z_nn σ) (z_nw σ)) := z_ok_pc hO30 (by omega)
      refine nv_bipush (v := 10) K d_R_last_82 (by decide) ?_
      exact qri K hr hlk hw (by rw [if_neg (by omega)]; unfold z_ed; rw [h1, show b / 8 % 2 = 0 by omega, show b / 16 % 4 = 0 by omega, h29]; rfl) (congrArg nI (by unfold z_td; rw [h1, show b / 8 % 2 = 0 by omega, show b / 16 % 4 = 0 by omega, h29]; rfl)) d_R_last_84
    · have hl : lv_has ls 5 [(3, .int (nI 1)), (2, .int (nI 3)), (0, .ref a.1), (1, .int (nI b))] := by rw [h29] at hl; exact hl
      refine lv_iload_n K.1 K.2.1 d_R_last_38 rfl (lv_at hl 1 rfl) ?_
      refine nv_iconst (v := 2) K d_R_last_39 (by decide) ?_
      refine nv_icmp_eq K (by omega) (by omega) d_R_last_40 rfl (fun h => (by omega : False).elim) (fun _ => ?_)
      refine lv_iload_n K.1 K.2.1 d_R_last_43 rfl (lv_at hl 3 rfl) ?_
      refine nv_sipush (v := 195) K d_R_last_44 (by decide) ?_
      refine nv_icmp_eq K (by omega) (by omega) d_R_last_47 rfl (fun h => (by omega : False).elim) (fun _ => ?_)
      refine lv_iload_n K.1 K.2.1 d_R_last_50 rfl (lv_at hl 3 rfl) ?_
      refine nv_sipush (v := 203) K d_R_last_51 (by decide) ?_
      refine nv_icmp_ne K (by omega) (by omega) d_R_last_54 rfl (fun h => (by omega : False).elim) (fun _ => ?_)
      refine lv_aload_n K.1 K.2.1 d_R_last_57 rfl (lv_at hl 2 rfl) ?_
      refine qki K (r_nextWord (σ := σ) l D cI a hO) (cw_R_97 K (Nat.le_of_ble_eq_true rfl) (Nat.le_of_ble_eq_true rfl)) hw (va_recv (ci := 3) (q0 := 0) hw.2.2.2.1 hw.1 rfl rfl) rfl hl.1 rfl (Nat.le_of_ble_eq_true rfl) d_R_last_58 ⟨Nat.zero_le _, Nat.zero_le _⟩ (fun H locs hw => ?_)
      have hO33 : z_Ok (z_nn σ) := z_ok_nn hO
      have hb34 : z_nw σ < 65536 := z_nw_lt hO
      refine lv_istore (lv' := [(4, .int (nI (z_nw σ))), (3, .int (nI 1)), (2, .int (nI 3)), (0, .ref a.1), (1, .int (nI b))]) K.1 K.2.1 d_R_last_61 hl (by decide) rfl (fun ls hl => ?_)
      refine lv_iload_n K.1 K.2.1 d_R_last_63 rfl (lv_at hl 2 rfl) ?_
      refine nv_iconst (v := 3) K d_R_last_64 (by decide) ?_
      refine nv_icmp_eq K (by omega) (by omega) d_R_last_65 rfl (fun _ => ?_) (fun h => (by omega : False).elim)
      refine lv_aload_n K.1 K.2.1 d_R_last_76 rfl (lv_at hl 3 rfl) ?_
      refine lv_iload K.1 K.2.1 d_R_last_77 (lv_at hl 0 rfl) ?_
      refine qp_pc (v := z_nw σ) K hw d_R_last_79 (fun H locs hw => ?_)
      have hO35 : z_Ok (z_s_pc (z_nn σ) (z_nw σ)) := z_ok_pc hO33 (by omega)
      refine nv_bipush (v := 10) K d_R_last_82 (by decide) ?_
      exact qri K hr hlk hw (by rw [if_neg (by omega)]; unfold z_ed; rw [h1, show b / 8 % 2 = 1 by omega, show b / 16 % 4 = 0 by omega, h29]; rfl) (congrArg nI (by unfold z_td; rw [h1, show b / 8 % 2 = 1 by omega, show b / 16 % 4 = 0 by omega, h29]; rfl)) d_R_last_84
    · have hl : lv_has ls 5 [(3, .int (nI 2)), (2, .int (nI 3)), (0, .ref a.1), (1, .int (nI b))] := by rw [h29] at hl; exact hl
      refine lv_iload_n K.1 K.2.1 d_R_last_38 rfl (lv_at hl 1 rfl) ?_
      refine nv_iconst (v := 2) K d_R_last_39 (by decide) ?_
      refine nv_icmp_eq K (by omega) (by omega) d_R_last_40 rfl (fun h => (by omega : False).elim) (fun _ => ?_)
      refine lv_iload_n K.1 K.2.1 d_R_last_43 rfl (lv_at hl 3 rfl) ?_
      refine nv_sipush (v := 195) K d_R_last_44 (by decide) ?_
      refine nv_icmp_eq K (by omega) (by omega) d_R_last_47 rfl (fun h => (by omega : False).elim) (fun _ => ?_)
      refine lv_iload_n K.1 K.2.1 d_R_last_50 rfl (lv_at hl 3 rfl) ?_
      refine nv_sipush (v := 203) K d_R_last_51 (by decide) ?_
      refine nv_icmp_ne K (by omega) (by omega) d_R_last_54 rfl (fun _ => ?_) (fun h => (by omega : False).elim)
      refine lv_iload_n K.1 K.2.1 d_R_last_85 rfl (lv_at hl 1 rfl) ?_
      refine nv_iconst (v := 4) K d_R_last_86 (by decide) ?_
      refine nv_icmp_eq K (by omega) (by omega) d_R_last_87 rfl (fun h => (by omega : False).elim) (fun _ => ?_)
      refine lv_iload_n K.1 K.2.1 d_R_last_90 rfl (lv_at hl 1 rfl) ?_
      refine nv_iconst (v := 5) K d_R_last_91 (by decide) ?_
      refine nv_icmp_ne K (by omega) (by omega) d_R_last_92 rfl (fun _ => ?_) (fun h => (by omega : False).elim)
      refine lv_iload_n K.1 K.2.1 d_R_last_141 rfl (lv_at hl 1 rfl) ?_
      refine nv_iconst (v := 5) K d_R_last_142 (by decide) ?_
      refine nv_icmp_ne K (by omega) (by omega) d_R_last_143 rfl (fun _ => ?_) (fun h => (by omega : False).elim)
      refine lv_iload_n K.1 K.2.1 d_R_last_185 rfl (lv_at hl 1 rfl) ?_
      refine nv_bipush (v := 6) K d_R_last_186 (by decide) ?_
      refine nv_icmp_ne K (by omega) (by omega) d_R_last_188 rfl (fun _ => ?_) (fun h => (by omega : False).elim)
      refine lv_iload_n K.1 K.2.1 d_R_last_203 rfl (lv_at hl 1 rfl) ?_
      refine nv_bipush (v := 7) K d_R_last_204 (by decide) ?_
      refine nv_icmp_ne K (by omega) (by omega) d_R_last_206 rfl (fun _ => ?_) (fun h => (by omega : False).elim)
      refine lv_iload_n K.1 K.2.1 d_R_last_228 rfl (lv_at hl 1 rfl) ?_
      refine nv_iconst (v := 1) K d_R_last_229 (by decide) ?_
      refine nv_icmp_ne K (by omega) (by omega) d_R_last_230 rfl (fun _ => ?_) (fun h => (by omega : False).elim)
      refine lv_aload_n K.1 K.2.1 d_R_last_241 rfl (lv_at hl 2 rfl) ?_
      refine lv_iload_n K.1 K.2.1 d_R_last_242 rfl (lv_at hl 0 rfl) ?_
      refine qki K (r_single (σ := σ) (r := 2) l D cI a hO (by omega) (by omega)) (cw_R_131 K (Nat.le_of_ble_eq_true rfl) (Nat.le_of_ble_eq_true rfl)) hw (va_recv (ci := 3) (q0 := 0) hw.2.2.2.1 hw.1 rfl rfl) rfl hl.1 rfl (Nat.le_of_ble_eq_true rfl) d_R_last_243 ⟨Nat.zero_le _, Nat.zero_le _⟩ (fun H locs hw => ?_)
      have hO36 : z_Ok (z_sg_ σ 2) := z_ok_sgl hO _
      have hb37 : z_t3 2 < 19 := z_t3_lt _
      exact qri K hr hlk hw (by rw [if_neg (by omega)]; unfold z_ed; rw [h1, show b / 8 % 2 = 0 by omega, show b / 16 % 4 = 1 by omega, h29]; rfl) (congrArg nI (by unfold z_td; rw [h1, show b / 8 % 2 = 0 by omega, show b / 16 % 4 = 1 by omega, h29]; rfl)) d_R_last_246
    · have hl : lv_has ls 5 [(3, .int (nI 3)), (2, .int (nI 3)), (0, .ref a.1), (1, .int (nI b))] := by rw [h29] at hl; exact hl
      refine lv_iload_n K.1 K.2.1 d_R_last_38 rfl (lv_at hl 1 rfl) ?_
      refine nv_iconst (v := 2) K d_R_last_39 (by decide) ?_
      refine nv_icmp_eq K (by omega) (by omega) d_R_last_40 rfl (fun h => (by omega : False).elim) (fun _ => ?_)
      refine lv_iload_n K.1 K.2.1 d_R_last_43 rfl (lv_at hl 3 rfl) ?_
      refine nv_sipush (v := 195) K d_R_last_44 (by decide) ?_
      refine nv_icmp_eq K (by omega) (by omega) d_R_last_47 rfl (fun h => (by omega : False).elim) (fun _ => ?_)
      refine lv_iload_n K.1 K.2.1 d_R_last_50 rfl (lv_at hl 3 rfl) ?_
      refine nv_sipush (v := 203) K d_R_last_51 (by decide) ?_
      refine nv_icmp_ne K (by omega) (by omega) d_R_last_54 rfl (fun _ => ?_) (fun h => (by omega : False).elim)
      refine lv_iload_n K.1 K.2.1 d_R_last_85 rfl (lv_at hl 1 rfl) ?_
      refine nv_iconst (v := 4) K d_R_last_86 (by decide) ?_
      refine nv_icmp_eq K (by omega) (by omega) d_R_last_87 rfl (fun h => (by omega : False).elim) (fun _ => ?_)
      refine lv_iload_n K.1 K.2.1 d_R_last_90 rfl (lv_at hl 1 rfl) ?_
      refine nv_iconst (v := 5) K d_R_last_91 (by decide) ?_
      refine nv_icmp_ne K (by omega) (by omega) d_R_last_92 rfl (fun _ => ?_) (fun h => (by omega : False).elim)
      refine lv_iload_n K.1 K.2.1 d_R_last_141 rfl (lv_at hl 1 rfl) ?_
      refine nv_iconst (v := 5) K d_R_last_142 (by decide) ?_
      refine nv_icmp_ne K (by omega) (by omega) d_R_last_143 rfl (fun _ => ?_) (fun h => (by omega : False).elim)
      refine lv_iload_n K.1 K.2.1 d_R_last_185 rfl (lv_at hl 1 rfl) ?_
      refine nv_bipush (v := 6) K d_R_last_186 (by decide) ?_
      refine nv_icmp_ne K (by omega) (by omega) d_R_last_188 rfl (fun _ => ?_) (fun h => (by omega : False).elim)
      refine lv_iload_n K.1 K.2.1 d_R_last_203 rfl (lv_at hl 1 rfl) ?_
      refine nv_bipush (v := 7) K d_R_last_204 (by decide) ?_
      refine nv_icmp_ne K (by omega) (by omega) d_R_last_206 rfl (fun _ => ?_) (fun h => (by omega : False).elim)
      refine lv_iload_n K.1 K.2.1 d_R_last_228 rfl (lv_at hl 1 rfl) ?_
      refine nv_iconst (v := 1) K d_R_last_229 (by decide) ?_
      refine nv_icmp_ne K (by omega) (by omega) d_R_last_230 rfl (fun _ => ?_) (fun h => (by omega : False).elim)
      refine lv_aload_n K.1 K.2.1 d_R_last_241 rfl (lv_at hl 2 rfl) ?_
      refine lv_iload_n K.1 K.2.1 d_R_last_242 rfl (lv_at hl 0 rfl) ?_
      refine qki K (r_single (σ := σ) (r := 3) l D cI a hO (by omega) (by omega)) (cw_R_131 K (Nat.le_of_ble_eq_true rfl) (Nat.le_of_ble_eq_true rfl)) hw (va_recv (ci := 3) (q0 := 0) hw.2.2.2.1 hw.1 rfl rfl) rfl hl.1 rfl (Nat.le_of_ble_eq_true rfl) d_R_last_243 ⟨Nat.zero_le _, Nat.zero_le _⟩ (fun H locs hw => ?_)
      have hO38 : z_Ok (z_sg_ σ 3) := z_ok_sgl hO _
      have hb39 : z_t3 3 < 19 := z_t3_lt _
      exact qri K hr hlk hw (by rw [if_neg (by omega)]; unfold z_ed; rw [h1, show b / 8 % 2 = 1 by omega, show b / 16 % 4 = 1 by omega, h29]; rfl) (congrArg nI (by unfold z_td; rw [h1, show b / 8 % 2 = 1 by omega, show b / 16 % 4 = 1 by omega, h29]; rfl)) d_R_last_246
    · have hl : lv_has ls 5 [(3, .int (nI 4)), (2, .int (nI 3)), (0, .ref a.1), (1, .int (nI b))] := by rw [h29] at hl; exact hl
      refine lv_iload_n K.1 K.2.1 d_R_last_38 rfl (lv_at hl 1 rfl) ?_
      refine nv_iconst (v := 2) K d_R_last_39 (by decide) ?_
      refine nv_icmp_eq K (by omega) (by omega) d_R_last_40 rfl (fun h => (by omega : False).elim) (fun _ => ?_)
      refine lv_iload_n K.1 K.2.1 d_R_last_43 rfl (lv_at hl 3 rfl) ?_
      refine nv_sipush (v := 195) K d_R_last_44 (by decide) ?_
      refine nv_icmp_eq K (by omega) (by omega) d_R_last_47 rfl (fun h => (by omega : False).elim) (fun _ => ?_)
      refine lv_iload_n K.1 K.2.1 d_R_last_50 rfl (lv_at hl 3 rfl) ?_
      refine nv_sipush (v := 203) K d_R_last_51 (by decide) ?_
      refine nv_icmp_ne K (by omega) (by omega) d_R_last_54 rfl (fun _ => ?_) (fun h => (by omega : False).elim)
      refine lv_iload_n K.1 K.2.1 d_R_last_85 rfl (lv_at hl 1 rfl) ?_
      refine nv_iconst (v := 4) K d_R_last_86 (by decide) ?_
      refine nv_icmp_eq K (by omega) (by omega) d_R_last_87 rfl (fun h => (by omega : False).elim) (fun _ => ?_)
      refine lv_iload_n K.1 K.2.1 d_R_last_90 rfl (lv_at hl 1 rfl) ?_
      refine nv_iconst (v := 5) K d_R_last_91 (by decide) ?_
      refine nv_icmp_ne K (by omega) (by omega) d_R_last_92 rfl (fun _ => ?_) (fun h => (by omega : False).elim)
      refine lv_iload_n K.1 K.2.1 d_R_last_141 rfl (lv_at hl 1 rfl) ?_
      refine nv_iconst (v := 5) K d_R_last_142 (by decide) ?_
      refine nv_icmp_ne K (by omega) (by omega) d_R_last_143 rfl (fun _ => ?_) (fun h => (by omega : False).elim)
      refine lv_iload_n K.1 K.2.1 d_R_last_185 rfl (lv_at hl 1 rfl) ?_
      refine nv_bipush (v := 6) K d_R_last_186 (by decide) ?_
      refine nv_icmp_ne K (by omega) (by omega) d_R_last_188 rfl (fun _ => ?_) (fun h => (by omega : False).elim)
      refine lv_iload_n K.1 K.2.1 d_R_last_203 rfl (lv_at hl 1 rfl) ?_
      refine nv_bipush (v := 7) K d_R_last_204 (by decide) ?_
      refine nv_icmp_ne K (by omega) (by omega) d_R_last_206 rfl (fun _ => ?_) (fun h => (by omega : False).elim)
      refine lv_iload_n K.1 K.2.1 d_R_last_228 rfl (lv_at hl 1 rfl) ?_
      refine nv_iconst (v := 1) K d_R_last_229 (by decide) ?_
      refine nv_icmp_ne K (by omega) (by omega) d_R_last_230 rfl (fun _ => ?_) (fun h => (by omega : False).elim)
      refine lv_aload_n K.1 K.2.1 d_R_last_241 rfl (lv_at hl 2 rfl) ?_
      refine lv_iload_n K.1 K.2.1 d_R_last_242 rfl (lv_at hl 0 rfl) ?_
      refine qki K (r_single (σ := σ) (r := 4) l D cI a hO (by omega) (by omega)) (cw_R_131 K (Nat.le_of_ble_eq_true rfl) (Nat.le_of_ble_eq_true rfl)) hw (va_recv (ci := 3) (q0 := 0) hw.2.2.2.1 hw.1 rfl rfl) rfl hl.1 rfl (Nat.le_of_ble_eq_true rfl) d_R_last_243 ⟨Nat.zero_le _, Nat.zero_le _⟩ (fun H locs hw => ?_)
      have hO40 : z_Ok (z_sg_ σ 4) := z_ok_sgl hO _
      have hb41 : z_t3 4 < 19 := z_t3_lt _
      exact qri K hr hlk hw (by rw [if_neg (by omega)]; unfold z_ed; rw [h1, show b / 8 % 2 = 0 by omega, show b / 16 % 4 = 2 by omega, h29]; rfl) (congrArg nI (by unfold z_td; rw [h1, show b / 8 % 2 = 0 by omega, show b / 16 % 4 = 2 by omega, h29]; rfl)) d_R_last_246
    · have hl : lv_has ls 5 [(3, .int (nI 5)), (2, .int (nI 3)), (0, .ref a.1), (1, .int (nI b))] := by rw [h29] at hl; exact hl
      refine lv_iload_n K.1 K.2.1 d_R_last_38 rfl (lv_at hl 1 rfl) ?_
      refine nv_iconst (v := 2) K d_R_last_39 (by decide) ?_
      refine nv_icmp_eq K (by omega) (by omega) d_R_last_40 rfl (fun h => (by omega : False).elim) (fun _ => ?_)
      refine lv_iload_n K.1 K.2.1 d_R_last_43 rfl (lv_at hl 3 rfl) ?_
      refine nv_sipush (v := 195) K d_R_last_44 (by decide) ?_
      refine nv_icmp_eq K (by omega) (by omega) d_R_last_47 rfl (fun h => (by omega : False).elim) (fun _ => ?_)
      refine lv_iload_n K.1 K.2.1 d_R_last_50 rfl (lv_at hl 3 rfl) ?_
      refine nv_sipush (v := 203) K d_R_last_51 (by decide) ?_
      refine nv_icmp_ne K (by omega) (by omega) d_R_last_54 rfl (fun _ => ?_) (fun h => (by omega : False).elim)
      refine lv_iload_n K.1 K.2.1 d_R_last_85 rfl (lv_at hl 1 rfl) ?_
      refine nv_iconst (v := 4) K d_R_last_86 (by decide) ?_
      refine nv_icmp_eq K (by omega) (by omega) d_R_last_87 rfl (fun h => (by omega : False).elim) (fun _ => ?_)
      refine lv_iload_n K.1 K.2.1 d_R_last_90 rfl (lv_at hl 1 rfl) ?_
      refine nv_iconst (v := 5) K d_R_last_91 (by decide) ?_
      refine nv_icmp_ne K (by omega) (by omega) d_R_last_92 rfl (fun _ => ?_) (fun h => (by omega : False).elim)
      refine lv_iload_n K.1 K.2.1 d_R_last_141 rfl (lv_at hl 1 rfl) ?_
      refine nv_iconst (v := 5) K d_R_last_142 (by decide) ?_
      refine nv_icmp_ne K (by omega) (by omega) d_R_last_143 rfl (fun _ => ?_) (fun h => (by omega : False).elim)
      refine lv_iload_n K.1 K.2.1 d_R_last_185 rfl (lv_at hl 1 rfl) ?_
      refine nv_bipush (v := 6) K d_R_last_186 (by decide) ?_
      refine nv_icmp_ne K (by omega) (by omega) d_R_last_188 rfl (fun _ => ?_) (fun h => (by omega : False).elim)
      refine lv_iload_n K.1 K.2.1 d_R_last_203 rfl (lv_at hl 1 rfl) ?_
      refine nv_bipush (v := 7) K d_R_last_204 (by decide) ?_
      refine nv_icmp_ne K (by omega) (by omega) d_R_last_206 rfl (fun _ => ?_) (fun h => (by omega : False).elim)
      refine lv_iload_n K.1 K.2.1 d_R_last_228 rfl (lv_at hl 1 rfl) ?_
      refine nv_iconst (v := 1) K d_R_last_229 (by decide) ?_
      refine nv_icmp_ne K (by omega) (by omega) d_R_last_230 rfl (fun _ => ?_) (fun h => (by omega : False).elim)
      refine lv_aload_n K.1 K.2.1 d_R_last_241 rfl (lv_at hl 2 rfl) ?_
      refine lv_iload_n K.1 K.2.1 d_R_last_242 rfl (lv_at hl 0 rfl) ?_
      refine qki K (r_single (σ := σ) (r := 5) l D cI a hO (by omega) (by omega)) (cw_R_131 K (Nat.le_of_ble_eq_true rfl) (Nat.le_of_ble_eq_true rfl)) hw (va_recv (ci := 3) (q0 := 0) hw.2.2.2.1 hw.1 rfl rfl) rfl hl.1 rfl (Nat.le_of_ble_eq_true rfl) d_R_last_243 ⟨Nat.zero_le _, Nat.zero_le _⟩ (fun H locs hw => ?_)
      have hO42 : z_Ok (z_sg_ σ 5) := z_ok_sgl hO _
      have hb43 : z_t3 5 < 19 := z_t3_lt _
      exact qri K hr hlk hw (by rw [if_neg (by omega)]; unfold z_ed; rw [h1, show b / 8 % 2 = 1 by omega, show b / 16 % 4 = 2 by omega, h29]; rfl) (congrArg nI (by unfold z_td; rw [h1, show b / 8 % 2 = 1 by omega, show b / 16 % 4 = 2 by omega, h29]; rfl)) d_R_last_246
    · have hl : lv_has ls 5 [(3, .int (nI 6)), (2, .int (nI 3)), (0, .ref a.1), (1, .int (nI b))] := by rw [h29] at hl; exact hl
      refine lv_iload_n K.1 K.2.1 d_R_last_38 rfl (lv_at hl 1 rfl) ?_
      refine nv_iconst (v := 2) K d_R_last_39 (by decide) ?_
      refine nv_icmp_eq K (by omega) (by omega) d_R_last_40 rfl (fun h => (by omega : False).elim) (fun _ => ?_)
      refine lv_iload_n K.1 K.2.1 d_R_last_43 rfl (lv_at hl 3 rfl) ?_
      refine nv_sipush (v := 195) K d_R_last_44 (by decide) ?_
      refine nv_icmp_eq K (by omega) (by omega) d_R_last_47 rfl (fun h => (by omega : False).elim) (fun _ => ?_)
      refine lv_iload_n K.1 K.2.1 d_R_last_50 rfl (lv_at hl 3 rfl) ?_
      refine nv_sipush (v := 203) K d_R_last_51 (by decide) ?_
      refine nv_icmp_ne K (by omega) (by omega) d_R_last_54 rfl (fun _ => ?_) (fun h => (by omega : False).elim)
      refine lv_iload_n K.1 K.2.1 d_R_last_85 rfl (lv_at hl 1 rfl) ?_
      refine nv_iconst (v := 4) K d_R_last_86 (by decide) ?_
      refine nv_icmp_eq K (by omega) (by omega) d_R_last_87 rfl (fun h => (by omega : False).elim) (fun _ => ?_)
      refine lv_iload_n K.1 K.2.1 d_R_last_90 rfl (lv_at hl 1 rfl) ?_
      refine nv_iconst (v := 5) K d_R_last_91 (by decide) ?_
      refine nv_icmp_ne K (by omega) (by omega) d_R_last_92 rfl (fun _ => ?_) (fun h => (by omega : False).elim)
      refine lv_iload_n K.1 K.2.1 d_R_last_141 rfl (lv_at hl 1 rfl) ?_
      refine nv_iconst (v := 5) K d_R_last_142 (by decide) ?_
      refine nv_icmp_ne K (by omega) (by omega) d_R_last_143 rfl (fun _ => ?_) (fun h => (by omega : False).elim)
      refine lv_iload_n K.1 K.2.1 d_R_last_185 rfl (lv_at hl 1 rfl) ?_
      refine nv_bipush (v := 6) K d_R_last_186 (by decide) ?_
      refine nv_icmp_ne K (by omega) (by omega) d_R_last_188 rfl (fun _ => ?_) (fun h => (by omega : False).elim)
      refine lv_iload_n K.1 K.2.1 d_R_last_203 rfl (lv_at hl 1 rfl) ?_
      refine nv_bipush (v := 7) K d_R_last_204 (by decide) ?_
      refine nv_icmp_ne K (by omega) (by omega) d_R_last_206 rfl (fun _ => ?_) (fun h => (by omega : False).elim)
      refine lv_iload_n K.1 K.2.1 d_R_last_228 rfl (lv_at hl 1 rfl) ?_
      refine nv_iconst (v := 1) K d_R_last_229 (by decide) ?_
      refine nv_icmp_ne K (by omega) (by omega) d_R_last_230 rfl (fun _ => ?_) (fun h => (by omega : False).elim)
      refine lv_aload_n K.1 K.2.1 d_R_last_241 rfl (lv_at hl 2 rfl) ?_
      refine lv_iload_n K.1 K.2.1 d_R_last_242 rfl (lv_at hl 0 rfl) ?_
      refine qki K (r_single (σ := σ) (r := 6) l D cI a hO (by omega) (by omega)) (cw_R_131 K (Nat.le_of_ble_eq_true rfl) (Nat.le_of_ble_eq_true rfl)) hw (va_recv (ci := 3) (q0 := 0) hw.2.2.2.1 hw.1 rfl rfl) rfl hl.1 rfl (Nat.le_of_ble_eq_true rfl) d_R_last_243 ⟨Nat.zero_le _, Nat.zero_le _⟩ (fun H locs hw => ?_)
      have hO44 : z_Ok (z_sg_ σ 6) := z_ok_sgl hO _
      have hb45 : z_t3 6 < 19 := z_t3_lt _
      exact qri K hr hlk hw (by rw [if_neg (by omega)]; unfold z_ed; rw [h1, show b / 8 % 2 = 0 by omega, show b / 16 % 4 = 3 by omega, h29]; exact la_same hla) (congrArg nI (by unfold z_td; rw [h1, show b / 8 % 2 = 0 by omega, show b / 16 % 4 = 3 by omega, h29]; rfl)) d_R_last_246
    · have hl : lv_has ls 5 [(3, .int (nI 7)), (2, .int (nI 3)), (0, .ref a.1), (1, .int (nI b))] := by rw [h29] at hl; exact hl
      refine lv_iload_n K.1 K.2.1 d_R_last_38 rfl (lv_at hl 1 rfl) ?_
      refine nv_iconst (v := 2) K d_R_last_39 (by decide) ?_
      refine nv_icmp_eq K (by omega) (by omega) d_R_last_40 rfl (fun h => (by omega : False).elim) (fun _ => ?_)
      refine lv_iload_n K.1 K.2.1 d_R_last_43 rfl (lv_at hl 3 rfl) ?_
      refine nv_sipush (v := 195) K d_R_last_44 (by decide) ?_
      refine nv_icmp_eq K (by omega) (by omega) d_R_last_47 rfl (fun h => (by omega : False).elim) (fun _ => ?_)
      refine lv_iload_n K.1 K.2.1 d_R_last_50 rfl (lv_at hl 3 rfl) ?_
      refine nv_sipush (v := 203) K d_R_last_51 (by decide) ?_
      refine nv_icmp_ne K (by omega) (by omega) d_R_last_54 rfl (fun _ => ?_) (fun h => (by omega : False).elim)
      refine lv_iload_n K.1 K.2.1 d_R_last_85 rfl (lv_at hl 1 rfl) ?_
      refine nv_iconst (v := 4) K d_R_last_86 (by decide) ?_
      refine nv_icmp_eq K (by omega) (by omega) d_R_last_87 rfl (fun h => (by omega : False).elim) (fun _ => ?_)
      refine lv_iload_n K.1 K.2.1 d_R_last_90 rfl (lv_at hl 1 rfl) ?_
      refine nv_iconst (v := 5) K d_R_last_91 (by decide) ?_
      refine nv_icmp_ne K (by omega) (by omega) d_R_last_92 rfl (fun _ => ?_) (fun h => (by omega : False).elim)
      refine lv_iload_n K.1 K.2.1 d_R_last_141 rfl (lv_at hl 1 rfl) ?_
      refine nv_iconst (v := 5) K d_R_last_142 (by decide) ?_
      refine nv_icmp_ne K (by omega) (by omega) d_R_last_143 rfl (fun _ => ?_) (fun h => (by omega : False).elim)
      refine lv_iload_n K.1 K.2.1 d_R_last_185 rfl (lv_at hl 1 rfl) ?_
      refine nv_bipush (v := 6) K d_R_last_186 (by decide) ?_
      refine nv_icmp_ne K (by omega) (by omega) d_R_last_188 rfl (fun _ => ?_) (fun h => (by omega : False).elim)
      refine lv_iload_n K.1 K.2.1 d_R_last_203 rfl (lv_at hl 1 rfl) ?_
      refine nv_bipush (v := 7) K d_R_last_204 (by decide) ?_
      refine nv_icmp_ne K (by omega) (by omega) d_R_last_206 rfl (fun _ => ?_) (fun h => (by omega : False).elim)
      refine lv_iload_n K.1 K.2.1 d_R_last_228 rfl (lv_at hl 1 rfl) ?_
      refine nv_iconst (v := 1) K d_R_last_229 (by decide) ?_
      refine nv_icmp_ne K (by omega) (by omega) d_R_last_230 rfl (fun _ => ?_) (fun h => (by omega : False).elim)
      refine lv_aload_n K.1 K.2.1 d_R_last_241 rfl (lv_at hl 2 rfl) ?_
      refine lv_iload_n K.1 K.2.1 d_R_last_242 rfl (lv_at hl 0 rfl) ?_
      refine qki K (r_single (σ := σ) (r := 7) l D cI a hO (by omega) (by omega)) (cw_R_131 K (Nat.le_of_ble_eq_true rfl) (Nat.le_of_ble_eq_true rfl)) hw (va_recv (ci := 3) (q0 := 0) hw.2.2.2.1 hw.1 rfl rfl) rfl hl.1 rfl (Nat.le_of_ble_eq_true rfl) d_R_last_243 ⟨Nat.zero_le _, Nat.zero_le _⟩ (fun H locs hw => ?_)
      have hO46 : z_Ok (z_sg_ σ 7) := z_ok_sgl hO _
      have hb47 : z_t3 7 < 19 := z_t3_lt _
      exact qri K hr hlk hw (by rw [if_pos (by omega)]; rfl) (congrArg nI (by unfold z_td; rw [h1, show b / 8 % 2 = 1 by omega, show b / 16 % 4 = 3 by omega, h29]; rfl)) d_R_last_246
  · have hl : lv_has ls 5 [(3, .int (nI ((b / 8) % 8))), (2, .int (nI 4)), (0, .ref a.1), (1, .int (nI b))] := by rw [h1] at hl; exact hl
    refine lv_iload_n K.1 K.2.1 d_R_last_13 rfl (lv_at hl 1 rfl) ?_
    refine nv_if_ne K (by omega) d_R_last_14 rfl (fun _ => ?_) (fun h => (by omega : False).elim)
    refine lv_iload_n K.1 K.2.1 d_R_last_38 rfl (lv_at hl 1 rfl) ?_
    refine nv_iconst (v := 2) K d_R_last_39 (by decide) ?_
    refine nv_icmp_eq K (by omega) (by omega) d_R_last_40 rfl (fun h => (by omega : False).elim) (fun _ => ?_)
    refine lv_iload_n K.1 K.2.1 d_R_last_43 rfl (lv_at hl 3 rfl) ?_
    refine nv_sipush (v := 195) K d_R_last_44 (by decide) ?_
    refine nv_icmp_eq K (by omega) (by omega) d_R_last_47 rfl (fun h => (by omega : False).elim) (fun _ => ?_)
    refine lv_iload_n K.1 K.2.1 d_R_last_50 rfl (lv_at hl 3 rfl) ?_
    refine nv_sipush (v := 203) K d_R_last_51 (by decide) ?_
    refine nv_icmp_ne K (by omega) (by omega) d_R_last_54 rfl (fun _ => ?_) (fun h => (by omega : False).elim)
    refine lv_iload_n K.1 K.2.1 d_R_last_85 rfl (lv_at hl 1 rfl) ?_
    refine nv_iconst (v := 4) K d_R_last_86 (by decide) ?_
    refine nv_icmp_eq K (by omega) (by omega) d_R_last_87 rfl (fun _ => ?_) (fun h => (by omega : False).elim)
    refine lv_aload_n K.1 K.2.1 d_R_last_102 rfl (lv_at hl 2 rfl) ?_
    refine qki K (r_nextWord (σ := σ) l D cI a hO) (cw_R_97 K (Nat.le_of_ble_eq_true rfl) (Nat.le_of_ble_eq_true rfl)) hw (va_recv (ci := 3) (q0 := 0) hw.2.2.2.1 hw.1 rfl rfl) rfl hl.1 rfl (Nat.le_of_ble_eq_true rfl) d_R_last_103 ⟨Nat.zero_le _, Nat.zero_le _⟩ (fun H locs hw => ?_)
    have hO48 : z_Ok (z_nn σ) := z_ok_nn hO
    have hb49 : z_nw σ < 65536 := z_nw_lt hO
    refine lv_istore (lv' := [(4, .int (nI (z_nw σ))), (3, .int (nI ((b / 8) % 8))), (2, .int (nI 4)), (0, .ref a.1), (1, .int (nI b))]) K.1 K.2.1 d_R_last_106 hl (by decide) rfl (fun ls hl => ?_)
    refine lv_iload_n K.1 K.2.1 d_R_last_108 rfl (lv_at hl 2 rfl) ?_
    refine nv_iconst (v := 4) K d_R_last_109 (by decide) ?_
    refine nv_icmp_ne K (by omega) (by omega) d_R_last_110 rfl (fun h => (by omega : False).elim) (fun _ => ?_)
    refine lv_aload_n K.1 K.2.1 d_R_last_113 rfl (lv_at hl 3 rfl) ?_
    refine lv_iload_n K.1 K.2.1 d_R_last_114 rfl (lv_at hl 1 rfl) ?_
    refine qki K (r_holds (σ := z_nn σ) (k := (b / 8) % 8) l D cI a hO48 (by omega)) (cw_R_115 K (Nat.le_of_ble_eq_true rfl) (Nat.le_of_ble_eq_true rfl)) hw (va_recv (ci := 3) (q0 := 0) hw.2.2.2.1 hw.1 rfl rfl) rfl hl.1 rfl (Nat.le_of_ble_eq_true rfl) d_R_last_115 ⟨Nat.zero_le _, Nat.zero_le _⟩ (fun H locs hw => ?_)
    refine nv_as K (y := nI (z_hold σ ((b / 8) % 8))) rfl ?_
    have hb50 : z_hold σ ((b / 8) % 8) < 2 := z_hold_lt _ _
    refine nv_if_ne K (by omega) d_R_last_118 rfl (fun h51 => ?_) (fun h51 => ?_)
    · refine lv_aload_n K.1 K.2.1 d_R_last_124 rfl (lv_at hl 3 rfl) ?_
      refine lv_aload_n K.1 K.2.1 d_R_last_125 rfl (lv_at hl 3 rfl) ?_
      refine qg_pc (v := z_x_pc (z_nn σ)) K hw rfl d_R_last_126 ?_
      have hb52 : z_x_pc (z_nn σ) < 65536 := z_k_pc hO48
      refine qkv K (r_push (σ := z_nn σ) (v := z_x_pc (z_nn σ)) l D cI a hO48 (by omega)) (cw_R_122 K (Nat.le_of_ble_eq_true rfl) (Nat.le_of_ble_eq_true rfl)) hw (va_recv (ci := 3) (q0 := 0) hw.2.2.2.1 hw.1 rfl rfl) rfl hl.1 rfl (Nat.le_of_ble_eq_true rfl) d_R_last_129 ⟨Nat.zero_le _, Nat.zero_le _⟩ (fun H locs hw => ?_)
      have hO53 : z_Ok (z_pu (z_nn σ) (z_x_pc (z_nn σ))) := z_ok_pu hO48 (by omega)
      refine lv_aload_n K.1 K.2.1 d_R_last_132 rfl (lv_at hl 3 rfl) ?_
      refine lv_iload K.1 K.2.1 d_R_last_133 (lv_at hl 0 rfl) ?_
      refine qp_pc (v := z_nw σ) K hw d_R_last_135 (fun H locs hw => ?_)
      have hO54 : z_Ok (z_s_pc (z_pu (z_nn σ) (z_x_pc (z_nn σ))) (z_nw σ)) := z_ok_pc hO53 (by omega)
      refine nv_bipush (v := 17) K d_R_last_138 (by decide) ?_
      exact qri K hr hlk hw (by rw [if_neg (by omega)]; unfold z_ed; exact ((if_neg (by omega)).trans ((if_neg (by omega)).trans ((if_neg (by omega)).trans ((if_neg (by omega)).trans ((if_pos h1).trans (if_pos (by omega))))))).symm) (congrArg nI (by unfold z_td; exact ((if_neg (by omega)).trans ((if_neg (by omega)).trans ((if_neg (by omega)).trans ((if_neg (by omega)).trans ((if_pos h1).trans (if_pos (by omega))))))).symm)) d_R_last_140
    · refine nv_bipush (v := 11) K d_R_last_121 (by decide) ?_
      exact qri K hr hlk hw (by rw [if_neg (by omega)]; unfold z_ed; exact ((if_neg (by omega)).trans ((if_neg (by omega)).trans ((if_neg (by omega)).trans ((if_neg (by omega)).trans ((if_pos h1).trans (if_neg (by omega))))))).symm) (congrArg nI (by unfold z_td; exact ((if_neg (by omega)).trans ((if_neg (by omega)).trans ((if_neg (by omega)).trans ((if_neg (by omega)).trans ((if_pos h1).trans (if_neg (by omega))))))).symm)) d_R_last_123
  · have hl : lv_has ls 5 [(3, .int (nI ((b / 8) % 8))), (2, .int (nI 5)), (0, .ref a.1), (1, .int (nI b))] := by rw [h1] at hl; exact hl
    refine lv_iload_n K.1 K.2.1 d_R_last_13 rfl (lv_at hl 1 rfl) ?_
    refine nv_if_ne K (by omega) d_R_last_14 rfl (fun _ => ?_) (fun h => (by omega : False).elim)
    rcases (by omega : (b / 8) % 8 = 0 ∨ (b / 8) % 8 = 1 ∨ (b / 8) % 8 = 2 ∨ (b / 8) % 8 = 3 ∨ (b / 8) % 8 = 4 ∨ (b / 8) % 8 = 5 ∨ (b / 8) % 8 = 6 ∨ (b / 8) % 8 = 7) with h55 | h55 | h55 | h55 | h55 | h55 | h55 | h55
    · have hl : lv_has ls 5 [(3, .int (nI 0)), (2, .int (nI 5)), (0, .ref a.1), (1, .int (nI b))] := by rw [h55] at hl; exact hl
      refine lv_iload_n K.1 K.2.1 d_R_last_38 rfl (lv_at hl 1 rfl) ?_
      refine nv_iconst (v := 2) K d_R_last_39 (by decide) ?_
      refine nv_icmp_eq K (by omega) (by omega) d_R_last_40 rfl (fun h => (by omega : False).elim) (fun _ => ?_)
      refine lv_iload_n K.1 K.2.1 d_R_last_43 rfl (lv_at hl 3 rfl) ?_
      refine nv_sipush (v := 195) K d_R_last_44 (by decide) ?_
      refine nv_icmp_eq K (by omega) (by omega) d_R_last_47 rfl (fun h => (by omega : False).elim) (fun _ => ?_)
      refine lv_iload_n K.1 K.2.1 d_R_last_50 rfl (lv_at hl 3 rfl) ?_
      refine nv_sipush (v := 203) K d_R_last_51 (by decide) ?_
      refine nv_icmp_ne K (by omega) (by omega) d_R_last_54 rfl (fun _ => ?_) (fun h => (by omega : False).elim)
      refine lv_iload_n K.1 K.2.1 d_R_last_85 rfl (lv_at hl 1 rfl) ?_
      refine nv_iconst (v := 4) K d_R_last_86 (by decide) ?_
      refine nv_icmp_eq K (by omega) (by omega) d_R_last_87 rfl (fun h => (by omega : False).elim) (fun _ => ?_)
      refine lv_iload_n K.1 K.2.1 d_R_last_90 rfl (lv_at hl 1 rfl) ?_
      refine nv_iconst (v := 5) K d_R_last_91 (by decide) ?_
      refine nv_icmp_ne K (by omega) (by omega) d_R_last_92 rfl (fun h => (by omega : False).elim) (fun _ => ?_)
      refine lv_iload_n K.1 K.2.1 d_R_last_95 rfl (lv_at hl 0 rfl) ?_
      refine nv_iconst (v := 2) K d_R_last_96 (by decide) ?_
      refine nv_irem K (by omega) (by omega) (by omega) d_R_last_97 (nv_as K (y := nI 0) rfl ?_)
      refine nv_iconst (v := 1) K d_R_last_98 (by decide) ?_
      refine nv_icmp_ne K (by omega) (by omega) d_R_last_99 rfl (fun _ => ?_) (fun h => (by omega : False).elim)
      refine lv_iload_n K.1 K.2.1 d_R_last_141 rfl (lv_at hl 1 rfl) ?_
      refine nv_iconst (v := 5) K d_R_last_142 (by decide) ?_
      refine nv_icmp_ne K (by omega) (by omega) d_R_last_143 rfl (fun h => (by omega : False).elim) (fun _ => ?_)
      refine lv_aload_n K.1 K.2.1 d_R_last_146 rfl (lv_at hl 2 rfl) ?_
      refine lv_iload_n K.1 K.2.1 d_R_last_147 rfl (lv_at hl 0 rfl) ?_
      refine nv_bipush (v := 6) K d_R_last_148 (by decide) ?_
      refine nv_icmp_ne K (by omega) (by omega) d_R_last_150 rfl (fun _ => ?_) (fun h => (by omega : False).elim)
      refine lv_aload_n K.1 K.2.1 d_R_last_172 rfl (lv_at hl 2 rfl) ?_
      refine lv_iload_n K.1 K.2.1 d_R_last_173 rfl (lv_at hl 0 rfl) ?_
      refine nv_iconst (v := 2) K d_R_last_174 (by decide) ?_
      refine nv_idiv K (by omega) (by omega) (by omega) d_R_last_175 (nv_as K (y := nI 0) rfl ?_)
      refine qki K (r_pair (σ := σ) (k := 0) l D cI a hO (by omega)) (cw_R_103 K (Nat.le_of_ble_eq_true rfl) (Nat.le_of_ble_eq_true rfl)) hw (va_recv (ci := 3) (q0 := 0) hw.2.2.2.1 hw.1 rfl rfl) rfl hl.1 rfl (Nat.le_of_ble_eq_true rfl) d_R_last_176 ⟨Nat.zero_le _, Nat.zero_le _⟩ (fun H locs hw => ?_)
      have hb56 : z_pg σ 0 < 65536 := z_pg_lt hO _
      refine qkv K (r_push (σ := σ) (v := z_pg σ 0) l D cI a hO (by omega)) (cw_R_122 K (Nat.le_of_ble_eq_true rfl) (Nat.le_of_ble_eq_true rfl)) hw (va_recv (ci := 3) (q0 := 0) hw.2.2.2.1 hw.1 rfl rfl) rfl hl.1 rfl (Nat.le_of_ble_eq_true rfl) d_R_last_179 ⟨Nat.zero_le _, Nat.zero_le _⟩ (fun H locs hw => ?_)
      have hO57 : z_Ok (z_pu σ (z_pg σ 0)) := z_ok_pu hO (by omega)
      refine nv_bipush (v := 11) K d_R_last_182 (by decide) ?_
      exact qri K hr hlk hw (by rw [if_neg (by omega)]; unfold z_ed; rw [h1, show b / 8 % 2 = 0 by omega, show b / 16 % 4 = 0 by omega, h55]; rfl) (congrArg nI (by unfold z_td; rw [h1, show b / 8 % 2 = 0 by omega, show b / 16 % 4 = 0 by omega, h55]; rfl)) d_R_last_184
    · have hl : lv_has ls 5 [(3, .int (nI 1)), (2, .int (nI 5)), (0, .ref a.1), (1, .int (nI b))] := by rw [h55] at hl; exact hl
      refine lv_iload_n K.1 K.2.1 d_R_last_38 rfl (lv_at hl 1 rfl) ?_
      refine nv_iconst (v := 2) K d_R_last_39 (by decide) ?_
      refine nv_icmp_eq K (by omega) (by omega) d_R_last_40 rfl (fun h => (by omega : False).elim) (fun _ => ?_)
      refine lv_iload_n K.1 K.2.1 d_R_last_43 rfl (lv_at hl 3 rfl) ?_
      refine nv_sipush (v := 195) K d_R_last_44 (by decide) ?_
      refine nv_icmp_eq K (by omega) (by omega) d_R_last_47 rfl (fun h => (by omega : False).elim) (fun _ => ?_)
      refine lv_iload_n K.1 K.2.1 d_R_last_50 rfl (lv_at hl 3 rfl) ?_
      refine nv_sipush (v := 203) K d_R_last_51 (by decide) ?_
      refine nv_icmp_ne K (by omega) (by omega) d_R_last_54 rfl (fun _ => ?_) (fun h => (by omega : False).elim)
      refine lv_iload_n K.1 K.2.1 d_R_last_85 rfl (lv_at hl 1 rfl) ?_
      refine nv_iconst (v := 4) K d_R_last_86 (by decide) ?_
      refine nv_icmp_eq K (by omega) (by omega) d_R_last_87 rfl (fun h => (by omega : False).elim) (fun _ => ?_)
      refine lv_iload_n K.1 K.2.1 d_R_last_90 rfl (lv_at hl 1 rfl) ?_
      refine nv_iconst (v := 5) K d_R_last_91 (by decide) ?_
      refine nv_icmp_ne K (by omega) (by omega) d_R_last_92 rfl (fun h => (by omega : False).elim) (fun _ => ?_)
      refine lv_iload_n K.1 K.2.1 d_R_last_95 rfl (lv_at hl 0 rfl) ?_
      refine nv_iconst (v := 2) K d_R_last_96 (by decide) ?_
      refine nv_irem K (by omega) (by omega) (by omega) d_R_last_97 (nv_as K (y := nI 1) rfl ?_)
      refine nv_iconst (v := 1) K d_R_last_98 (by decide) ?_
      refine nv_icmp_ne K (by omega) (by omega) d_R_last_99 rfl (fun h => (by omega : False).elim) (fun _ => ?_)
      refine lv_aload_n K.1 K.2.1 d_R_last_102 rfl (lv_at hl 2 rfl) ?_
      refine qki K (r_nextWord (σ := σ) l D cI a hO) (cw_R_97 K (Nat.le_of_ble_eq_true rfl) (Nat.le_of_ble_eq_true rfl)) hw (va_recv (ci := 3) (q0 := 0) hw.2.2.2.1 hw.1 rfl rfl) rfl hl.1 rfl (Nat.le_of_ble_eq_true rfl) d_R_last_103 ⟨Nat.zero_le _, Nat.zero_le _⟩ (fun H locs hw => ?_)
      have hO58 : z_Ok (z_nn σ) := z_ok_nn hO
      have hb59 : z_nw σ < 65536 := z_nw_lt hO
      refine lv_istore (lv' := [(4, .int (nI (z_nw σ))), (3, .int (nI 1)), (2, .int (nI 5)), (0, .ref a.1), (1, .int (nI b))]) K.1 K.2.1 d_R_last_106 hl (by decide) rfl (fun ls hl => ?_)
      refine lv_iload_n K.1 K.2.1 d_R_last_108 rfl (lv_at hl 2 rfl) ?_
      refine nv_iconst (v := 4) K d_R_last_109 (by decide) ?_
      refine nv_icmp_ne K (by omega) (by omega) d_R_last_110 rfl (fun _ => ?_) (fun h => (by omega : False).elim)
      refine lv_aload_n K.1 K.2.1 d_R_last_124 rfl (lv_at hl 3 rfl) ?_
      refine lv_aload_n K.1 K.2.1 d_R_last_125 rfl (lv_at hl 3 rfl) ?_
      refine qg_pc (v := z_x_pc (z_nn σ)) K hw rfl d_R_last_126 ?_
      have hb60 : z_x_pc (z_nn σ) < 65536 := z_k_pc hO58
      refine qkv K (r_push (σ := z_nn σ) (v := z_x_pc (z_nn σ)) l D cI a hO58 (by omega)) (cw_R_122 K (Nat.le_of_ble_eq_true rfl) (Nat.le_of_ble_eq_true rfl)) hw (va_recv (ci := 3) (q0 := 0) hw.2.2.2.1 hw.1 rfl rfl) rfl hl.1 rfl (Nat.le_of_ble_eq_true rfl) d_R_last_129 ⟨Nat.zero_le _, Nat.zero_le _⟩ (fun H locs hw => ?_)
      have hO61 : z_Ok (z_pu (z_nn σ) (z_x_pc (z_nn σ))) := z_ok_pu hO58 (by omega)
      refine lv_aload_n K.1 K.2.1 d_R_last_132 rfl (lv_at hl 3 rfl) ?_
      refine lv_iload K.1 K.2.1 d_R_last_133 (lv_at hl 0 rfl) ?_
      refine qp_pc (v := z_nw σ) K hw d_R_last_135 (fun H locs hw => ?_)
      have hO62 : z_Ok (z_s_pc (z_pu (z_nn σ) (z_x_pc (z_nn σ))) (z_nw σ)) := z_ok_pc hO61 (by omega)
      refine nv_bipush (v := 17) K d_R_last_138 (by decide) ?_
      exact qri K hr hlk hw (by rw [if_neg (by omega)]; unfold z_ed; rw [h1, show b / 8 % 2 = 1 by omega, show b / 16 % 4 = 0 by omega, h55]; rfl) (congrArg nI (by unfold z_td; rw [h1, show b / 8 % 2 = 1 by omega, show b / 16 % 4 = 0 by omega, h55]; rfl)) d_R_last_140
    · have hl : lv_has ls 5 [(3, .int (nI 2)), (2, .int (nI 5)), (0, .ref a.1), (1, .int (nI b))] := by rw [h55] at hl; exact hl
      refine lv_iload_n K.1 K.2.1 d_R_last_38 rfl (lv_at hl 1 rfl) ?_
      refine nv_iconst (v := 2) K d_R_last_39 (by decide) ?_
      refine nv_icmp_eq K (by omega) (by omega) d_R_last_40 rfl (fun h => (by omega : False).elim) (fun _ => ?_)
      refine lv_iload_n K.1 K.2.1 d_R_last_43 rfl (lv_at hl 3 rfl) ?_
      refine nv_sipush (v := 195) K d_R_last_44 (by decide) ?_
      refine nv_icmp_eq K (by omega) (by omega) d_R_last_47 rfl (fun h => (by omega : False).elim) (fun _ => ?_)
      refine lv_iload_n K.1 K.2.1 d_R_last_50 rfl (lv_at hl 3 rfl) ?_
      refine nv_sipush (v := 203) K d_R_last_51 (by decide) ?_
      refine nv_icmp_ne K (by omega) (by omega) d_R_last_54 rfl (fun _ => ?_) (fun h => (by omega : False).elim)
      refine lv_iload_n K.1 K.2.1 d_R_last_85 rfl (lv_at hl 1 rfl) ?_
      refine nv_iconst (v := 4) K d_R_last_86 (by decide) ?_
      refine nv_icmp_eq K (by omega) (by omega) d_R_last_87 rfl (fun h => (by omega : False).elim) (fun _ => ?_)
      refine lv_iload_n K.1 K.2.1 d_R_last_90 rfl (lv_at hl 1 rfl) ?_
      refine nv_iconst (v := 5) K d_R_last_91 (by decide) ?_
      refine nv_icmp_ne K (by omega) (by omega) d_R_last_92 rfl (fun h => (by omega : False).elim) (fun _ => ?_)
      refine lv_iload_n K.1 K.2.1 d_R_last_95 rfl (lv_at hl 0 rfl) ?_
      refine nv_iconst (v := 2) K d_R_last_96 (by decide) ?_
      refine nv_irem K (by omega) (by omega) (by omega) d_R_last_97 (nv_as K (y := nI 0) rfl ?_)
      refine nv_iconst (v := 1) K d_R_last_98 (by decide) ?_
      refine nv_icmp_ne K (by omega) (by omega) d_R_last_99 rfl (fun _ => ?_) (fun h => (by omega : False).elim)
      refine lv_iload_n K.1 K.2.1 d_R_last_141 rfl (lv_at hl 1 rfl) ?_
      refine nv_iconst (v := 5) K d_R_last_142 (by decide) ?_
      refine nv_icmp_ne K (by omega) (by omega) d_R_last_143 rfl (fun h => (by omega : False).elim) (fun _ => ?_)
      refine lv_aload_n K.1 K.2.1 d_R_last_146 rfl (lv_at hl 2 rfl) ?_
      refine lv_iload_n K.1 K.2.1 d_R_last_147 rfl (lv_at hl 0 rfl) ?_
      refine nv_bipush (v := 6) K d_R_last_148 (by decide) ?_
      refine nv_icmp_ne K (by omega) (by omega) d_R_last_150 rfl (fun _ => ?_) (fun h => (by omega : False).elim)
      refine lv_aload_n K.1 K.2.1 d_R_last_172 rfl (lv_at hl 2 rfl) ?_
      refine lv_iload_n K.1 K.2.1 d_R_last_173 rfl (lv_at hl 0 rfl) ?_
      refine nv_iconst (v := 2) K d_R_last_174 (by decide) ?_
      refine nv_idiv K (by omega) (by omega) (by omega) d_R_last_175 (nv_as K (y := nI 1) rfl ?_)
      refine qki K (r_pair (σ := σ) (k := 1) l D cI a hO (by omega)) (cw_R_103 K (Nat.le_of_ble_eq_true rfl) (Nat.le_of_ble_eq_true rfl)) hw (va_recv (ci := 3) (q0 := 0) hw.2.2.2.1 hw.1 rfl rfl) rfl hl.1 rfl (Nat.le_of_ble_eq_true rfl) d_R_last_176 ⟨Nat.zero_le _, Nat.zero_le _⟩ (fun H locs hw => ?_)
      have hb63 : z_pg σ 1 < 65536 := z_pg_lt hO _
      refine qkv K (r_push (σ := σ) (v := z_pg σ 1) l D cI a hO (by omega)) (cw_R_122 K (Nat.le_of_ble_eq_true rfl) (Nat.le_of_ble_eq_true rfl)) hw (va_recv (ci := 3) (q0 := 0) hw.2.2.2.1 hw.1 rfl rfl) rfl hl.1 rfl (Nat.le_of_ble_eq_true rfl) d_R_last_179 ⟨Nat.zero_le _, Nat.zero_le _⟩ (fun H locs hw => ?_)
      have hO64 : z_Ok (z_pu σ (z_pg σ 1)) := z_ok_pu hO (by omega)
      refine nv_bipush (v := 11) K d_R_last_182 (by decide) ?_
      exact qri K hr hlk hw (by rw [if_neg (by omega)]; unfold z_ed; rw [h1, show b / 8 % 2 = 0 by omega, show b / 16 % 4 = 1 by omega, h55]; rfl) (congrArg nI (by unfold z_td; rw [h1, show b / 8 % 2 = 0 by omega, show b / 16 % 4 = 1 by omega, h55]; rfl)) d_R_last_184
    · have hl : lv_has ls 5 [(3, .int (nI 3)), (2, .int (nI 5)), (0, .ref a.1), (1, .int (nI b))] := by rw [h55] at hl; exact hl
      refine lv_iload_n K.1 K.2.1 d_R_last_38 rfl (lv_at hl 1 rfl) ?_
      refine nv_iconst (v := 2) K d_R_last_39 (by decide) ?_
      refine nv_icmp_eq K (by omega) (by omega) d_R_last_40 rfl (fun h => (by omega : False).elim) (fun _ => ?_)
      refine lv_iload_n K.1 K.2.1 d_R_last_43 rfl (lv_at hl 3 rfl) ?_
      refine nv_sipush (v := 195) K d_R_last_44 (by decide) ?_
      refine nv_icmp_eq K (by omega) (by omega) d_R_last_47 rfl (fun h => (by omega : False).elim) (fun _ => ?_)
      refine lv_iload_n K.1 K.2.1 d_R_last_50 rfl (lv_at hl 3 rfl) ?_
      refine nv_sipush (v := 203) K d_R_last_51 (by decide) ?_
      refine nv_icmp_ne K (by omega) (by omega) d_R_last_54 rfl (fun _ => ?_) (fun h => (by omega : False).elim)
      refine lv_iload_n K.1 K.2.1 d_R_last_85 rfl (lv_at hl 1 rfl) ?_
      refine nv_iconst (v := 4) K d_R_last_86 (by decide) ?_
      refine nv_icmp_eq K (by omega) (by omega) d_R_last_87 rfl (fun h => (by omega : False).elim) (fun _ => ?_)
      refine lv_iload_n K.1 K.2.1 d_R_last_90 rfl (lv_at hl 1 rfl) ?_
      refine nv_iconst (v := 5) K d_R_last_91 (by decide) ?_
      refine nv_icmp_ne K (by omega) (by omega) d_R_last_92 rfl (fun h => (by omega : False).elim) (fun _ => ?_)
      refine lv_iload_n K.1 K.2.1 d_R_last_95 rfl (lv_at hl 0 rfl) ?_
      refine nv_iconst (v := 2) K d_R_last_96 (by decide) ?_
      refine nv_irem K (by omega) (by omega) (by omega) d_R_last_97 (nv_as K (y := nI 1) rfl ?_)
      refine nv_iconst (v := 1) K d_R_last_98 (by decide) ?_
      refine nv_icmp_ne K (by omega) (by omega) d_R_last_99 rfl (fun h => (by omega : False).elim) (fun _ => ?_)
      refine lv_aload_n K.1 K.2.1 d_R_last_102 rfl (lv_at hl 2 rfl) ?_
      refine qki K (r_nextWord (σ := σ) l D cI a hO) (cw_R_97 K (Nat.le_of_ble_eq_true rfl) (Nat.le_of_ble_eq_true rfl)) hw (va_recv (ci := 3) (q0 := 0) hw.2.2.2.1 hw.1 rfl rfl) rfl hl.1 rfl (Nat.le_of_ble_eq_true rfl) d_R_last_103 ⟨Nat.zero_le _, Nat.zero_le _⟩ (fun H locs hw => ?_)
      have hO65 : z_Ok (z_nn σ) := z_ok_nn hO
      have hb66 : z_nw σ < 65536 := z_nw_lt hO
      refine lv_istore (lv' := [(4, .int (nI (z_nw σ))), (3, .int (nI 3)), (2, .int (nI 5)), (0, .ref a.1), (1, .int (nI b))]) K.1 K.2.1 d_R_last_106 hl (by decide) rfl (fun ls hl => ?_)
      refine lv_iload_n K.1 K.2.1 d_R_last_108 rfl (lv_at hl 2 rfl) ?_
      refine nv_iconst (v := 4) K d_R_last_109 (by decide) ?_
      refine nv_icmp_ne K (by omega) (by omega) d_R_last_110 rfl (fun _ => ?_) (fun h => (by omega : False).elim)
      refine lv_aload_n K.1 K.2.1 d_R_last_124 rfl (lv_at hl 3 rfl) ?_
      refine lv_aload_n K.1 K.2.1 d_R_last_125 rfl (lv_at hl 3 rfl) ?_
      refine qg_pc (v := z_x_pc (z_nn σ)) K hw rfl d_R_last_126 ?_
      have hb67 : z_x_pc (z_nn σ) < 65536 := z_k_pc hO65
      refine qkv K (r_push (σ := z_nn σ) (v := z_x_pc (z_nn σ)) l D cI a hO65 (by omega)) (cw_R_122 K (Nat.le_of_ble_eq_true rfl) (Nat.le_of_ble_eq_true rfl)) hw (va_recv (ci := 3) (q0 := 0) hw.2.2.2.1 hw.1 rfl rfl) rfl hl.1 rfl (Nat.le_of_ble_eq_true rfl) d_R_last_129 ⟨Nat.zero_le _, Nat.zero_le _⟩ (fun H locs hw => ?_)
      have hO68 : z_Ok (z_pu (z_nn σ) (z_x_pc (z_nn σ))) := z_ok_pu hO65 (by omega)
      refine lv_aload_n K.1 K.2.1 d_R_last_132 rfl (lv_at hl 3 rfl) ?_
      refine lv_iload K.1 K.2.1 d_R_last_133 (lv_at hl 0 rfl) ?_
      refine qp_pc (v := z_nw σ) K hw d_R_last_135 (fun H locs hw => ?_)
      have hO69 : z_Ok (z_s_pc (z_pu (z_nn σ) (z_x_pc (z_nn σ))) (z_nw σ)) := z_ok_pc hO68 (by omega)
      refine nv_bipush (v := 17) K d_R_last_138 (by decide) ?_
      exact qri K hr hlk hw (by rw [if_neg (by omega)]; unfold z_ed; rw [h1, show b / 8 % 2 = 1 by omega, show b / 16 % 4 = 1 by omega, h55]; rfl) (congrArg nI (by unfold z_td; rw [h1, show b / 8 % 2 = 1 by omega, show b / 16 % 4 = 1 by omega, h55]; rfl)) d_R_last_140
    · have hl : lv_has ls 5 [(3, .int (nI 4)), (2, .int (nI 5)), (0, .ref a.1), (1, .int (nI b))] := by rw [h55] at hl; exact hl
      refine lv_iload_n K.1 K.2.1 d_R_last_38 rfl (lv_at hl 1 rfl) ?_
      refine nv_iconst (v := 2) K d_R_last_39 (by decide) ?_
      refine nv_icmp_eq K (by omega) (by omega) d_R_last_40 rfl (fun h => (by omega : False).elim) (fun _ => ?_)
      refine lv_iload_n K.1 K.2.1 d_R_last_43 rfl (lv_at hl 3 rfl) ?_
      refine nv_sipush (v := 195) K d_R_last_44 (by decide) ?_
      refine nv_icmp_eq K (by omega) (by omega) d_R_last_47 rfl (fun h => (by omega : False).elim) (fun _ => ?_)
      refine lv_iload_n K.1 K.2.1 d_R_last_50 rfl (lv_at hl 3 rfl) ?_
      refine nv_sipush (v := 203) K d_R_last_51 (by decide) ?_
      refine nv_icmp_ne K (by omega) (by omega) d_R_last_54 rfl (fun _ => ?_) (fun h => (by omega : False).elim)
      refine lv_iload_n K.1 K.2.1 d_R_last_85 rfl (lv_at hl 1 rfl) ?_
      refine nv_iconst (v := 4) K d_R_last_86 (by decide) ?_
      refine nv_icmp_eq K (by omega) (by omega) d_R_last_87 rfl (fun h => (by omega : False).elim) (fun _ => ?_)
      refine lv_iload_n K.1 K.2.1 d_R_last_90 rfl (lv_at hl 1 rfl) ?_
      refine nv_iconst (v := 5) K d_R_last_91 (by decide) ?_
      refine nv_icmp_ne K (by omega) (by omega) d_R_last_92 rfl (fun h => (by omega : False).elim) (fun _ => ?_)
      refine lv_iload_n K.1 K.2.1 d_R_last_95 rfl (lv_at hl 0 rfl) ?_
      refine nv_iconst (v := 2) K d_R_last_96 (by decide) ?_
      refine nv_irem K (by omega) (by omega) (by omega) d_R_last_97 (nv_as K (y := nI 0) rfl ?_)
      refine nv_iconst (v := 1) K d_R_last_98 (by decide) ?_
      refine nv_icmp_ne K (by omega) (by omega) d_R_last_99 rfl (fun _ => ?_) (fun h => (by omega : False).elim)
      refine lv_iload_n K.1 K.2.1 d_R_last_141 rfl (lv_at hl 1 rfl) ?_
      refine nv_iconst (v := 5) K d_R_last_142 (by decide) ?_
      refine nv_icmp_ne K (by omega) (by omega) d_R_last_143 rfl (fun h => (by omega : False).elim) (fun _ => ?_)
      refine lv_aload_n K.1 K.2.1 d_R_last_146 rfl (lv_at hl 2 rfl) ?_
      refine lv_iload_n K.1 K.2.1 d_R_last_147 rfl (lv_at hl 0 rfl) ?_
      refine nv_bipush (v := 6) K d_R_last_148 (by decide) ?_
      refine nv_icmp_ne K (by omega) (by omega) d_R_last_150 rfl (fun _ => ?_) (fun h => (by omega : False).elim)
      refine lv_aload_n K.1 K.2.1 d_R_last_172 rfl (lv_at hl 2 rfl) ?_
      refine lv_iload_n K.1 K.2.1 d_R_last_173 rfl (lv_at hl 0 rfl) ?_
      refine nv_iconst (v := 2) K d_R_last_174 (by decide) ?_
      refine nv_idiv K (by omega) (by omega) (by omega) d_R_last_175 (nv_as K (y := nI 2) rfl ?_)
      refine qki K (r_pair (σ := σ) (k := 2) l D cI a hO (by omega)) (cw_R_103 K (Nat.le_of_ble_eq_true rfl) (Nat.le_of_ble_eq_true rfl)) hw (va_recv (ci := 3) (q0 := 0) hw.2.2.2.1 hw.1 rfl rfl) rfl hl.1 rfl (Nat.le_of_ble_eq_true rfl) d_R_last_176 ⟨Nat.zero_le _, Nat.zero_le _⟩ (fun H locs hw => ?_)
      have hb70 : z_pg σ 2 < 65536 := z_pg_lt hO _
      refine qkv K (r_push (σ := σ) (v := z_pg σ 2) l D cI a hO (by omega)) (cw_R_122 K (Nat.le_of_ble_eq_true rfl) (Nat.le_of_ble_eq_true rfl)) hw (va_recv (ci := 3) (q0 := 0) hw.2.2.2.1 hw.1 rfl rfl) rfl hl.1 rfl (Nat.le_of_ble_eq_true rfl) d_R_last_179 ⟨Nat.zero_le _, Nat.zero_le _⟩ (fun H locs hw => ?_)
      have hO71 : z_Ok (z_pu σ (z_pg σ 2)) := z_ok_pu hO (by omega)
      refine nv_bipush (v := 11) K d_R_last_182 (by decide) ?_
      exact qri K hr hlk hw (by rw [if_neg (by omega)]; unfold z_ed; rw [h1, show b / 8 % 2 = 0 by omega, show b / 16 % 4 = 2 by omega, h55]; rfl) (congrArg nI (by unfold z_td; rw [h1, show b / 8 % 2 = 0 by omega, show b / 16 % 4 = 2 by omega, h55]; rfl)) d_R_last_184
    · have hl : lv_has ls 5 [(3, .int (nI 5)), (2, .int (nI 5)), (0, .ref a.1), (1, .int (nI b))] := by rw [h55] at hl; exact hl
      refine lv_iload_n K.1 K.2.1 d_R_last_38 rfl (lv_at hl 1 rfl) ?_
      refine nv_iconst (v := 2) K d_R_last_39 (by decide) ?_
      refine nv_icmp_eq K (by omega) (by omega) d_R_last_40 rfl (fun h => (by omega : False).elim) (fun _ => ?_)
      refine lv_iload_n K.1 K.2.1 d_R_last_43 rfl (lv_at hl 3 rfl) ?_
      refine nv_sipush (v := 195) K d_R_last_44 (by decide) ?_
      refine nv_icmp_eq K (by omega) (by omega) d_R_last_47 rfl (fun h => (by omega : False).elim) (fun _ => ?_)
      refine lv_iload_n K.1 K.2.1 d_R_last_50 rfl (lv_at hl 3 rfl) ?_
      refine nv_sipush (v := 203) K d_R_last_51 (by decide) ?_
      refine nv_icmp_ne K (by omega) (by omega) d_R_last_54 rfl (fun _ => ?_) (fun h => (by omega : False).elim)
      refine lv_iload_n K.1 K.2.1 d_R_last_85 rfl (lv_at hl 1 rfl) ?_
      refine nv_iconst (v := 4) K d_R_last_86 (by decide) ?_
      refine nv_icmp_eq K (by omega) (by omega) d_R_last_87 rfl (fun h => (by omega : False).elim) (fun _ => ?_)
      refine lv_iload_n K.1 K.2.1 d_R_last_90 rfl (lv_at hl 1 rfl) ?_
      refine nv_iconst (v := 5) K d_R_last_91 (by decide) ?_
      refine nv_icmp_ne K (by omega) (by omega) d_R_last_92 rfl (fun h => (by omega : False).elim) (fun _ => ?_)
      refine lv_iload_n K.1 K.2.1 d_R_last_95 rfl (lv_at hl 0 rfl) ?_
      refine nv_iconst (v := 2) K d_R_last_96 (by decide) ?_
      refine nv_irem K (by omega) (by omega) (by omega) d_R_last_97 (nv_as K (y := nI 1) rfl ?_)
      refine nv_iconst (v := 1) K d_R_last_98 (by decide) ?_
      refine nv_icmp_ne K (by omega) (by omega) d_R_last_99 rfl (fun h => (by omega : False).elim) (fun _ => ?_)
      refine lv_aload_n K.1 K.2.1 d_R_last_102 rfl (lv_at hl 2 rfl) ?_
      refine qki K (r_nextWord (σ := σ) l D cI a hO) (cw_R_97 K (Nat.le_of_ble_eq_true rfl) (Nat.le_of_ble_eq_true rfl)) hw (va_recv (ci := 3) (q0 := 0) hw.2.2.2.1 hw.1 rfl rfl) rfl hl.1 rfl (Nat.le_of_ble_eq_true rfl) d_R_last_103 ⟨Nat.zero_le _, Nat.zero_le _⟩ (fun H locs hw => ?_)
      have hO72 : z_Ok (z_nn σ) := z_ok_nn hO
      have hb73 : z_nw σ < 65536 := z_nw_lt hO
      refine lv_istore (lv' := [(4, .int (nI (z_nw σ))), (3, .int (nI 5)), (2, .int (nI 5)), (0, .ref a.1), (1, .int (nI b))]) K.1 K.2.1 d_R_last_106 hl (by decide) rfl (fun ls hl => ?_)
      refine lv_iload_n K.1 K.2.1 d_R_last_108 rfl (lv_at hl 2 rfl) ?_
      refine nv_iconst (v := 4) K d_R_last_109 (by decide) ?_
      refine nv_icmp_ne K (by omega) (by omega) d_R_last_110 rfl (fun _ => ?_) (fun h => (by omega : False).elim)
      refine lv_aload_n K.1 K.2.1 d_R_last_124 rfl (lv_at hl 3 rfl) ?_
      refine lv_aload_n K.1 K.2.1 d_R_last_125 rfl (lv_at hl 3 rfl) ?_
      refine qg_pc (v := z_x_pc (z_nn σ)) K hw rfl d_R_last_126 ?_
      have hb74 : z_x_pc (z_nn σ) < 65536 := z_k_pc hO72
      refine qkv K (r_push (σ := z_nn σ) (v := z_x_pc (z_nn σ)) l D cI a hO72 (by omega)) (cw_R_122 K (Nat.le_of_ble_eq_true rfl) (Nat.le_of_ble_eq_true rfl)) hw (va_recv (ci := 3) (q0 := 0) hw.2.2.2.1 hw.1 rfl rfl) rfl hl.1 rfl (Nat.le_of_ble_eq_true rfl) d_R_last_129 ⟨Nat.zero_le _, Nat.zero_le _⟩ (fun H locs hw => ?_)
      have hO75 : z_Ok (z_pu (z_nn σ) (z_x_pc (z_nn σ))) := z_ok_pu hO72 (by omega)
      refine lv_aload_n K.1 K.2.1 d_R_last_132 rfl (lv_at hl 3 rfl) ?_
      refine lv_iload K.1 K.2.1 d_R_last_133 (lv_at hl 0 rfl) ?_
      refine qp_pc (v := z_nw σ) K hw d_R_last_135 (fun H locs hw => ?_)
      have hO76 : z_Ok (z_s_pc (z_pu (z_nn σ) (z_x_pc (z_nn σ))) (z_nw σ)) := z_ok_pc hO75 (by omega)
      refine nv_bipush (v := 17) K d_R_last_138 (by decide) ?_
      exact qri K hr hlk hw (by rw [if_neg (by omega)]; unfold z_ed; rw [h1, show b / 8 % 2 = 1 by omega, show b / 16 % 4 = 2 by omega, h55]; rfl) (congrArg nI (by unfold z_td; rw [h1, show b / 8 % 2 = 1 by omega, show b / 16 % 4 = 2 by omega, h55]; rfl)) d_R_last_140
    · have hl : lv_has ls 5 [(3, .int (nI 6)), (2, .int (nI 5)), (0, .ref a.1), (1, .int (nI b))] := by rw [h55] at hl; exact hl
      refine lv_iload_n K.1 K.2.1 d_R_last_38 rfl (lv_at hl 1 rfl) ?_
      refine nv_iconst (v := 2) K d_R_last_39 (by decide) ?_
      refine nv_icmp_eq K (by omega) (by omega) d_R_last_40 rfl (fun h => (by omega : False).elim) (fun _ => ?_)
      refine lv_iload_n K.1 K.2.1 d_R_last_43 rfl (lv_at hl 3 rfl) ?_
      refine nv_sipush (v := 195) K d_R_last_44 (by decide) ?_
      refine nv_icmp_eq K (by omega) (by omega) d_R_last_47 rfl (fun h => (by omega : False).elim) (fun _ => ?_)
      refine lv_iload_n K.1 K.2.1 d_R_last_50 rfl (lv_at hl 3 rfl) ?_
      refine nv_sipush (v := 203) K d_R_last_51 (by decide) ?_
      refine nv_icmp_ne K (by omega) (by omega) d_R_last_54 rfl (fun _ => ?_) (fun h => (by omega : False).elim)
      refine lv_iload_n K.1 K.2.1 d_R_last_85 rfl (lv_at hl 1 rfl) ?_
      refine nv_iconst (v := 4) K d_R_last_86 (by decide) ?_
      refine nv_icmp_eq K (by omega) (by omega) d_R_last_87 rfl (fun h => (by omega : False).elim) (fun _ => ?_)
      refine lv_iload_n K.1 K.2.1 d_R_last_90 rfl (lv_at hl 1 rfl) ?_
      refine nv_iconst (v := 5) K d_R_last_91 (by decide) ?_
      refine nv_icmp_ne K (by omega) (by omega) d_R_last_92 rfl (fun h => (by omega : False).elim) (fun _ => ?_)
      refine lv_iload_n K.1 K.2.1 d_R_last_95 rfl (lv_at hl 0 rfl) ?_
      refine nv_iconst (v := 2) K d_R_last_96 (by decide) ?_
      refine nv_irem K (by omega) (by omega) (by omega) d_R_last_97 (nv_as K (y := nI 0) rfl ?_)
      refine nv_iconst (v := 1) K d_R_last_98 (by decide) ?_
      refine nv_icmp_ne K (by omega) (by omega) d_R_last_99 rfl (fun _ => ?_) (fun h => (by omega : False).elim)
      refine lv_iload_n K.1 K.2.1 d_R_last_141 rfl (lv_at hl 1 rfl) ?_
      refine nv_iconst (v := 5) K d_R_last_142 (by decide) ?_
      refine nv_icmp_ne K (by omega) (by omega) d_R_last_143 rfl (fun h => (by omega : False).elim) (fun _ => ?_)
      refine lv_aload_n K.1 K.2.1 d_R_last_146 rfl (lv_at hl 2 rfl) ?_
      refine lv_iload_n K.1 K.2.1 d_R_last_147 rfl (lv_at hl 0 rfl) ?_
      refine nv_bipush (v := 6) K d_R_last_148 (by decide) ?_
      refine nv_icmp_ne K (by omega) (by omega) d_R_last_150 rfl (fun h => (by omega : False).elim) (fun _ => ?_)
      refine nv_sipush (v := 256) K d_R_last_153 (by decide) ?_
      refine lv_aload_n K.1 K.2.1 d_R_last_156 rfl (lv_at hl 2 rfl) ?_
      refine qg_reg K hw d_R_last_157 ?_
      refine nv_bipush (v := 7) K d_R_last_160 (by decide) ?_
      refine ql_reg (i := 7) (v := z_x_reg σ 7) K hw (by omega) rfl d_R_last_162 ?_
      have hb77 : z_x_reg σ 7 < 256 := z_k_reg hO _
      refine nv_imul K d_R_last_163 ?_
      refine lv_aload_n K.1 K.2.1 d_R_last_164 rfl (lv_at hl 2 rfl) ?_
      refine qki K (r_flags (σ := σ) l D cI a hO) (cw_R_125 K (Nat.le_of_ble_eq_true rfl) (Nat.le_of_ble_eq_true rfl)) hw (va_recv (ci := 3) (q0 := 0) hw.2.2.2.1 hw.1 rfl rfl) rfl hl.1 rfl (Nat.le_of_ble_eq_true rfl) d_R_last_165 ⟨Nat.zero_le _, Nat.zero_le _⟩ (fun H locs hw => ?_)
      have hb78 : z_fb σ < 256 := z_fb_lt hO
      refine nv_iadd K d_R_last_168 ?_
      refine lv_goto K.1 K.2.1 d_R_last_169 rfl ?_
      refine qkv K (r_push (σ := σ) (v := (256 * (z_x_reg σ 7)) + (z_fb σ)) l D cI a hO (by omega)) (cw_R_122 K (Nat.le_of_ble_eq_true rfl) (Nat.le_of_ble_eq_true rfl)) hw (va_recv (ci := 3) (q0 := 0) hw.2.2.2.1 hw.1 rfl rfl) rfl hl.1 rfl (Nat.le_of_ble_eq_true rfl) d_R_last_179 ⟨Nat.zero_le _, Nat.zero_le _⟩ (fun H locs hw => ?_)
      have hO79 : z_Ok (z_pu σ ((256 * (z_x_reg σ 7)) + (z_fb σ))) := z_ok_pu hO (by omega)
      refine nv_bipush (v := 11) K d_R_last_182 (by decide) ?_
      exact qri K hr hlk hw (by rw [if_neg (by omega), Nat.mul_comm 256]; unfold z_ed; rw [h1, show b / 8 % 2 = 0 by omega, show b / 16 % 4 = 3 by omega, h55]; rfl) (congrArg nI (by unfold z_td; rw [h1, show b / 8 % 2 = 0 by omega, show b / 16 % 4 = 3 by omega, h55]; rfl)) d_R_last_184
    · have hl : lv_has ls 5 [(3, .int (nI 7)), (2, .int (nI 5)), (0, .ref a.1), (1, .int (nI b))] := by rw [h55] at hl; exact hl
      refine lv_iload_n K.1 K.2.1 d_R_last_38 rfl (lv_at hl 1 rfl) ?_
      refine nv_iconst (v := 2) K d_R_last_39 (by decide) ?_
      refine nv_icmp_eq K (by omega) (by omega) d_R_last_40 rfl (fun h => (by omega : False).elim) (fun _ => ?_)
      refine lv_iload_n K.1 K.2.1 d_R_last_43 rfl (lv_at hl 3 rfl) ?_
      refine nv_sipush (v := 195) K d_R_last_44 (by decide) ?_
      refine nv_icmp_eq K (by omega) (by omega) d_R_last_47 rfl (fun h => (by omega : False).elim) (fun _ => ?_)
      refine lv_iload_n K.1 K.2.1 d_R_last_50 rfl (lv_at hl 3 rfl) ?_
      refine nv_sipush (v := 203) K d_R_last_51 (by decide) ?_
      refine nv_icmp_ne K (by omega) (by omega) d_R_last_54 rfl (fun _ => ?_) (fun h => (by omega : False).elim)
      refine lv_iload_n K.1 K.2.1 d_R_last_85 rfl (lv_at hl 1 rfl) ?_
      refine nv_iconst (v := 4) K d_R_last_86 (by decide) ?_
      refine nv_icmp_eq K (by omega) (by omega) d_R_last_87 rfl (fun h => (by omega : False).elim) (fun _ => ?_)
      refine lv_iload_n K.1 K.2.1 d_R_last_90 rfl (lv_at hl 1 rfl) ?_
      refine nv_iconst (v := 5) K d_R_last_91 (by decide) ?_
      refine nv_icmp_ne K (by omega) (by omega) d_R_last_92 rfl (fun h => (by omega : False).elim) (fun _ => ?_)
      refine lv_iload_n K.1 K.2.1 d_R_last_95 rfl (lv_at hl 0 rfl) ?_
      refine nv_iconst (v := 2) K d_R_last_96 (by decide) ?_
      refine nv_irem K (by omega) (by omega) (by omega) d_R_last_97 (nv_as K (y := nI 1) rfl ?_)
      refine nv_iconst (v := 1) K d_R_last_98 (by decide) ?_
      refine nv_icmp_ne K (by omega) (by omega) d_R_last_99 rfl (fun h => (by omega : False).elim) (fun _ => ?_)
      refine lv_aload_n K.1 K.2.1 d_R_last_102 rfl (lv_at hl 2 rfl) ?_
      refine qki K (r_nextWord (σ := σ) l D cI a hO) (cw_R_97 K (Nat.le_of_ble_eq_true rfl) (Nat.le_of_ble_eq_true rfl)) hw (va_recv (ci := 3) (q0 := 0) hw.2.2.2.1 hw.1 rfl rfl) rfl hl.1 rfl (Nat.le_of_ble_eq_true rfl) d_R_last_103 ⟨Nat.zero_le _, Nat.zero_le _⟩ (fun H locs hw => ?_)
      have hO80 : z_Ok (z_nn σ) := z_ok_nn hO
      have hb81 : z_nw σ < 65536 := z_nw_lt hO
      refine lv_istore (lv' := [(4, .int (nI (z_nw σ))), (3, .int (nI 7)), (2, .int (nI 5)), (0, .ref a.1), (1, .int (nI b))]) K.1 K.2.1 d_R_last_106 hl (by decide) rfl (fun ls hl => ?_)
      refine lv_iload_n K.1 K.2.1 d_R_last_108 rfl (lv_at hl 2 rfl) ?_
      refine nv_iconst (v := 4) K d_R_last_109 (by decide) ?_
      refine nv_icmp_ne K (by omega) (by omega) d_R_last_110 rfl (fun _ => ?_) (fun h => (by omega : False).elim)
      refine lv_aload_n K.1 K.2.1 d_R_last_124 rfl (lv_at hl 3 rfl) ?_
      refine lv_aload_n K.1 K.2.1 d_R_last_125 rfl (lv_at hl 3 rfl) ?_
      refine qg_pc (v := z_x_pc (z_nn σ)) K hw rfl d_R_last_126 ?_
      have hb82 : z_x_pc (z_nn σ) < 65536 := z_k_pc hO80
      refine qkv K (r_push (σ := z_nn σ) (v := z_x_pc (z_nn σ)) l D cI a hO80 (by omega)) (cw_R_122 K (Nat.le_of_ble_eq_true rfl) (Nat.le_of_ble_eq_true rfl)) hw (va_recv (ci := 3) (q0 := 0) hw.2.2.2.1 hw.1 rfl rfl) rfl hl.1 rfl (Nat.le_of_ble_eq_true rfl) d_R_last_129 ⟨Nat.zero_le _, Nat.zero_le _⟩ (fun H locs hw => ?_)
      have hO83 : z_Ok (z_pu (z_nn σ) (z_x_pc (z_nn σ))) := z_ok_pu hO80 (by omega)
      refine lv_aload_n K.1 K.2.1 d_R_last_132 rfl (lv_at hl 3 rfl) ?_
      refine lv_iload K.1 K.2.1 d_R_last_133 (lv_at hl 0 rfl) ?_
      refine qp_pc (v := z_nw σ) K hw d_R_last_135 (fun H locs hw => ?_)
      have hO84 : z_Ok (z_s_pc (z_pu (z_nn σ) (z_x_pc (z_nn σ))) (z_nw σ)) := z_ok_pc hO83 (by omega)
      refine nv_bipush (v := 17) K d_R_last_138 (by decide) ?_
      exact qri K hr hlk hw (by rw [if_neg (by omega)]; unfold z_ed; rw [h1, show b / 8 % 2 = 1 by omega, show b / 16 % 4 = 3 by omega, h55]; rfl) (congrArg nI (by unfold z_td; rw [h1, show b / 8 % 2 = 1 by omega, show b / 16 % 4 = 3 by omega, h55]; rfl)) d_R_last_140
  · have hl : lv_has ls 5 [(3, .int (nI ((b / 8) % 8))), (2, .int (nI 6)), (0, .ref a.1), (1, .int (nI b))] := by rw [h1] at hl; exact hl
    refine lv_iload_n K.1 K.2.1 d_R_last_13 rfl (lv_at hl 1 rfl) ?_
    refine nv_if_ne K (by omega) d_R_last_14 rfl (fun _ => ?_) (fun h => (by omega : False).elim)
    refine lv_iload_n K.1 K.2.1 d_R_last_38 rfl (lv_at hl 1 rfl) ?_
    refine nv_iconst (v := 2) K d_R_last_39 (by decide) ?_
    refine nv_icmp_eq K (by omega) (by omega) d_R_last_40 rfl (fun h => (by omega : False).elim) (fun _ => ?_)
    refine lv_iload_n K.1 K.2.1 d_R_last_43 rfl (lv_at hl 3 rfl) ?_
    refine nv_sipush (v := 195) K d_R_last_44 (by decide) ?_
    refine nv_icmp_eq K (by omega) (by omega) d_R_last_47 rfl (fun h => (by omega : False).elim) (fun _ => ?_)
    refine lv_iload_n K.1 K.2.1 d_R_last_50 rfl (lv_at hl 3 rfl) ?_
    refine nv_sipush (v := 203) K d_R_last_51 (by decide) ?_
    refine nv_icmp_ne K (by omega) (by omega) d_R_last_54 rfl (fun _ => ?_) (fun h => (by omega : False).elim)
    refine lv_iload_n K.1 K.2.1 d_R_last_85 rfl (lv_at hl 1 rfl) ?_
    refine nv_iconst (v := 4) K d_R_last_86 (by decide) ?_
    refine nv_icmp_eq K (by omega) (by omega) d_R_last_87 rfl (fun h => (by omega : False).elim) (fun _ => ?_)
    refine lv_iload_n K.1 K.2.1 d_R_last_90 rfl (lv_at hl 1 rfl) ?_
    refine nv_iconst (v := 5) K d_R_last_91 (by decide) ?_
    refine nv_icmp_ne K (by omega) (by omega) d_R_last_92 rfl (fun _ => ?_) (fun h => (by omega : False).elim)
    refine lv_iload_n K.1 K.2.1 d_R_last_141 rfl (lv_at hl 1 rfl) ?_
    refine nv_iconst (v := 5) K d_R_last_142 (by decide) ?_
    refine nv_icmp_ne K (by omega) (by omega) d_R_last_143 rfl (fun _ => ?_) (fun h => (by omega : False).elim)
    refine lv_iload_n K.1 K.2.1 d_R_last_185 rfl (lv_at hl 1 rfl) ?_
    refine nv_bipush (v := 6) K d_R_last_186 (by decide) ?_
    refine nv_icmp_ne K (by omega) (by omega) d_R_last_188 rfl (fun h => (by omega : False).elim) (fun _ => ?_)
    refine lv_aload_n K.1 K.2.1 d_R_last_191 rfl (lv_at hl 2 rfl) ?_
    refine lv_iload_n K.1 K.2.1 d_R_last_192 rfl (lv_at hl 0 rfl) ?_
    refine lv_aload_n K.1 K.2.1 d_R_last_193 rfl (lv_at hl 2 rfl) ?_
    refine qki K (r_next (σ := σ) l D cI a hO) (cw_R_49 K (Nat.le_of_ble_eq_true rfl) (Nat.le_of_ble_eq_true rfl)) hw (va_recv (ci := 3) (q0 := 0) hw.2.2.2.1 hw.1 rfl rfl) rfl hl.1 rfl (Nat.le_of_ble_eq_true rfl) d_R_last_194 ⟨Nat.zero_le _, Nat.zero_le _⟩ (fun H locs hw => ?_)
    have hO85 : z_Ok (z_nx σ) := z_ok_nx hO
    have hb86 : z_nb σ < 256 := z_nb_lt hO
    refine qkv K (r_reckon (σ := z_nx σ) (k := (b / 8) % 8) (b := z_nb σ) l D cI a hO85 (by omega) (by omega)) (cw_R_91 K (Nat.le_of_ble_eq_true rfl) (Nat.le_of_ble_eq_true rfl)) hw (va_recv (ci := 3) (q0 := 0) hw.2.2.2.1 hw.1 rfl rfl) rfl hl.1 rfl (Nat.le_of_ble_eq_true rfl) d_R_last_197 ⟨Nat.zero_le _, Nat.zero_le _⟩ (fun H locs hw => ?_)
    have hO87 : z_Ok (z_rk (z_nx σ) ((b / 8) % 8) (z_nb σ)) := z_ok_rk hO85 _ (by omega)
    refine nv_bipush (v := 7) K d_R_last_200 (by decide) ?_
    exact qri K hr hlk hw (by rw [if_neg (by omega)]; unfold z_ed; exact ((if_neg (by omega)).trans ((if_neg (by omega)).trans ((if_neg (by omega)).trans ((if_neg (by omega)).trans ((if_neg (by omega)).trans ((if_neg (by omega)).trans ((if_pos h1)))))))).symm) (congrArg nI (by unfold z_td; exact ((if_neg (by omega)).trans ((if_neg (by omega)).trans ((if_neg (by omega)).trans ((if_neg (by omega)).trans ((if_neg (by omega)).trans ((if_neg (by omega)).trans ((if_pos h1)))))))).symm)) d_R_last_202
  · have hl : lv_has ls 5 [(3, .int (nI ((b / 8) % 8))), (2, .int (nI 7)), (0, .ref a.1), (1, .int (nI b))] := by rw [h1] at hl; exact hl
    refine lv_iload_n K.1 K.2.1 d_R_last_13 rfl (lv_at hl 1 rfl) ?_
    refine nv_if_ne K (by omega) d_R_last_14 rfl (fun _ => ?_) (fun h => (by omega : False).elim)
    refine lv_iload_n K.1 K.2.1 d_R_last_38 rfl (lv_at hl 1 rfl) ?_
    refine nv_iconst (v := 2) K d_R_last_39 (by decide) ?_
    refine nv_icmp_eq K (by omega) (by omega) d_R_last_40 rfl (fun h => (by omega : False).elim) (fun _ => ?_)
    refine lv_iload_n K.1 K.2.1 d_R_last_43 rfl (lv_at hl 3 rfl) ?_
    refine nv_sipush (v := 195) K d_R_last_44 (by decide) ?_
    refine nv_icmp_eq K (by omega) (by omega) d_R_last_47 rfl (fun h => (by omega : False).elim) (fun _ => ?_)
    refine lv_iload_n K.1 K.2.1 d_R_last_50 rfl (lv_at hl 3 rfl) ?_
    refine nv_sipush (v := 203) K d_R_last_51 (by decide) ?_
    refine nv_icmp_ne K (by omega) (by omega) d_R_last_54 rfl (fun _ => ?_) (fun h => (by omega : False).elim)
    refine lv_iload_n K.1 K.2.1 d_R_last_85 rfl (lv_at hl 1 rfl) ?_
    refine nv_iconst (v := 4) K d_R_last_86 (by decide) ?_
    refine nv_icmp_eq K (by omega) (by omega) d_R_last_87 rfl (fun h => (by omega : False).elim) (fun _ => ?_)
    refine lv_iload_n K.1 K.2.1 d_R_last_90 rfl (lv_at hl 1 rfl) ?_
    refine nv_iconst (v := 5) K d_R_last_91 (by decide) ?_
    refine nv_icmp_ne K (by omega) (by omega) d_R_last_92 rfl (fun _ => ?_) (fun h => (by omega : False).elim)
    refine lv_iload_n K.1 K.2.1 d_R_last_141 rfl (lv_at hl 1 rfl) ?_
    refine nv_iconst (v := 5) K d_R_last_142 (by decide) ?_
    refine nv_icmp_ne K (by omega) (by omega) d_R_last_143 rfl (fun _ => ?_) (fun h => (by omega : False).elim)
    refine lv_iload_n K.1 K.2.1 d_R_last_185 rfl (lv_at hl 1 rfl) ?_
    refine nv_bipush (v := 6) K d_R_last_186 (by decide) ?_
    refine nv_icmp_ne K (by omega) (by omega) d_R_last_188 rfl (fun _ => ?_) (fun h => (by omega : False).elim)
    refine lv_iload_n K.1 K.2.1 d_R_last_203 rfl (lv_at hl 1 rfl) ?_
    refine nv_bipush (v := 7) K d_R_last_204 (by decide) ?_
    refine nv_icmp_ne K (by omega) (by omega) d_R_last_206 rfl (fun h => (by omega : False).elim) (fun _ => ?_)
    refine lv_aload_n K.1 K.2.1 d_R_last_209 rfl (lv_at hl 2 rfl) ?_
    refine lv_aload_n K.1 K.2.1 d_R_last_210 rfl (lv_at hl 2 rfl) ?_
    refine qg_pc (v := z_x_pc σ) K hw rfl d_R_last_211 ?_
    have hb88 : z_x_pc σ < 65536 := z_k_pc hO
    refine qkv K (r_push (σ := σ) (v := z_x_pc σ) l D cI a hO (by omega)) (cw_R_122 K (Nat.le_of_ble_eq_true rfl) (Nat.le_of_ble_eq_true rfl)) hw (va_recv (ci := 3) (q0 := 0) hw.2.2.2.1 hw.1 rfl rfl) rfl hl.1 rfl (Nat.le_of_ble_eq_true rfl) d_R_last_214 ⟨Nat.zero_le _, Nat.zero_le _⟩ (fun H locs hw => ?_)
    have hO89 : z_Ok (z_pu σ (z_x_pc σ)) := z_ok_pu hO (by omega)
    refine lv_aload_n K.1 K.2.1 d_R_last_217 rfl (lv_at hl 2 rfl) ?_
    refine nv_bipush (v := 8) K d_R_last_218 (by decide) ?_
    refine lv_iload_n K.1 K.2.1 d_R_last_220 rfl (lv_at hl 0 rfl) ?_
    refine nv_imul K d_R_last_221 ?_
    refine qp_pc (v := 8 * ((b / 8) % 8)) K hw d_R_last_222 (fun H locs hw => ?_)
    have hO90 : z_Ok (z_s_pc (z_pu σ (z_x_pc σ)) (8 * ((b / 8) % 8))) := z_ok_pc hO89 (by omega)
    refine nv_bipush (v := 11) K d_R_last_225 (by decide) ?_
    exact qri K hr hlk hw (by rw [if_neg (by omega)]; unfold z_ed; exact ((if_neg (by omega)).trans ((if_neg (by omega)).trans ((if_neg (by omega)).trans ((if_neg (by omega)).trans ((if_neg (by omega)).trans ((if_neg (by omega)).trans (if_neg (by omega)))))))).symm) (congrArg nI (by unfold z_td; exact ((if_neg (by omega)).trans ((if_neg (by omega)).trans ((if_neg (by omega)).trans ((if_neg (by omega)).trans ((if_neg (by omega)).trans ((if_neg (by omega)).trans (if_neg (by omega)))))))).symm)) d_R_last_227

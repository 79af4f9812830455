set_option maxHeartbeats 4000000 in
set_option maxRecDepth 100000 in
theorem r_sum {σ : z_St} {x y z : Nat} (l : Launch) (D : va_G) (cI : ClassId) (a : qAd) (hO : z_Ok σ) (hx : x < 256) (hy : y < 256) (hz : z < 2) : qCi l y_R_sum w_R_sum 1 22 D cI a [.ref a.1, .int (nI x), .int (nI y), .int (nI z)] σ (z_jd (z_s_ca (z_s_au σ (z_g1 x y z)) (z_g2 x y z)) ((x + y + z) % 256)) (nI ((x + y + z) % 256)) := by
  refine qci_of (cc := b_R_sum) (maxL := 8) (ret := (some .int)) (by decide) rfl (Nat.le_of_ble_eq_true rfl) ?_
  intro p e s m below meth c ls K hr hlk hl hw
  have K : CallFix p m c b_R_sum 8 s _ (_ :: T0) "PortProcessorModel" := K
  have hl : lv_has ls 8 [(0, .ref a.1), (1, .int (nI x)), (2, .int (nI y)), (3, .int (nI z))] := hl
  refine nv_iconst (v := 0) K d_R_sum_0 (by decide) ?_
  refine lv_istore (lv' := [(4, .int (nI 0)), (0, .ref a.1), (1, .int (nI x)), (2, .int (nI y)), (3, .int (nI z))]) K.1 K.2.1 d_R_sum_1 hl (by decide) rfl (fun ls hl => ?_)
  refine lv_iload_n K.1 K.2.1 d_R_sum_3 rfl (lv_at hl 4 rfl) ?_
  refine lv_istore (lv' := [(5, .int (nI z)), (4, .int (nI 0)), (0, .ref a.1), (1, .int (nI x)), (2, .int (nI y)), (3, .int (nI z))]) K.1 K.2.1 d_R_sum_4 hl (by decide) rfl (fun ls hl => ?_)
  refine nv_iconst (v := 0) K d_R_sum_6 (by decide) ?_
  refine lv_istore (lv' := [(6, .int (nI 0)), (5, .int (nI z)), (4, .int (nI 0)), (0, .ref a.1), (1, .int (nI x)), (2, .int (nI y)), (3, .int (nI z))]) K.1 K.2.1 d_R_sum_7 hl (by decide) rfl (fun ls hl => ?_)
  refine lv_iload K.1 K.2.1 d_R_sum_9 (lv_at hl 0 rfl) ?_
  refine nv_bipush (v := 8) K d_R_sum_11 (by decide) ?_
  refine nv_icmp_ge K (by omega) (by omega) d_R_sum_13 rfl (fun h => (by omega : False).elim) (fun _ => ?_)
  refine lv_iload_n K.1 K.2.1 d_R_sum_16 rfl (lv_at hl 4 rfl) ?_
  refine lv_iload K.1 K.2.1 d_R_sum_17 (lv_at hl 0 rfl) ?_
  refine nv_ishr (M := 1) K (by omega) rfl (by omega) d_R_sum_19 ?_
  refine nv_iconst (v := 1) K d_R_sum_20 (by decide) ?_
  refine nv_mask (M := 2) K 1 rfl rfl d_R_sum_21 ?_
  refine lv_iload_n K.1 K.2.1 d_R_sum_22 rfl (lv_at hl 5 rfl) ?_
  refine lv_iload K.1 K.2.1 d_R_sum_23 (lv_at hl 0 rfl) ?_
  refine nv_ishr (M := 1) K (by omega) rfl (by omega) d_R_sum_25 ?_
  refine nv_iconst (v := 1) K d_R_sum_26 (by decide) ?_
  refine nv_mask (M := 2) K 1 rfl rfl d_R_sum_27 ?_
  refine nv_iadd K d_R_sum_28 ?_
  refine lv_iload K.1 K.2.1 d_R_sum_29 (lv_at hl 1 rfl) ?_
  refine nv_iadd K d_R_sum_31 ?_
  refine lv_istore (lv' := [(7, .int (nI ((((x / 1) % 2) + ((y / 1) % 2)) + z))), (6, .int (nI 0)), (5, .int (nI z)), (4, .int (nI 0)), (0, .ref a.1), (1, .int (nI x)), (2, .int (nI y)), (3, .int (nI z))]) K.1 K.2.1 d_R_sum_32 hl (by decide) rfl (fun ls hl => ?_)
  refine lv_iload K.1 K.2.1 d_R_sum_34 (lv_at hl 3 rfl) ?_
  refine lv_iload K.1 K.2.1 d_R_sum_36 (lv_at hl 0 rfl) ?_
  refine nv_iconst (v := 2) K d_R_sum_38 (by decide) ?_
  refine nv_irem K (by omega) (by omega) (by omega) d_R_sum_39 ?_
  refine lv_iload K.1 K.2.1 d_R_sum_40 (lv_at hl 1 rfl) ?_
  refine nv_ishl (M := 1) K (by omega) rfl (by omega) d_R_sum_42 ?_
  refine nv_iadd K d_R_sum_43 ?_
  refine lv_istore (lv' := [(4, .int (nI (0 + ((((((x / 1) % 2) + ((y / 1) % 2)) + z) % 2) * 1)))), (7, .int (nI ((((x / 1) % 2) + ((y / 1) % 2)) + z))), (6, .int (nI 0)), (5, .int (nI z)), (0, .ref a.1), (1, .int (nI x)), (2, .int (nI y)), (3, .int (nI z))]) K.1 K.2.1 d_R_sum_44 hl (by decide) rfl (fun ls hl => ?_)
  refine lv_iload K.1 K.2.1 d_R_sum_46 (lv_at hl 1 rfl) ?_
  refine nv_iconst (v := 2) K d_R_sum_48 (by decide) ?_
  refine nv_idiv K (by omega) (by omega) (by omega) d_R_sum_49 ?_
  refine lv_istore (lv' := [(5, .int (nI (((((x / 1) % 2) + ((y / 1) % 2)) + z) / 2))), (4, .int (nI (0 + ((((((x / 1) % 2) + ((y / 1) % 2)) + z) % 2) * 1)))), (7, .int (nI ((((x / 1) % 2) + ((y / 1) % 2)) + z))), (6, .int (nI 0)), (0, .ref a.1), (1, .int (nI x)), (2, .int (nI y)), (3, .int (nI z))]) K.1 K.2.1 d_R_sum_50 hl (by decide) rfl (fun ls hl => ?_)
  refine lv_iload K.1 K.2.1 d_R_sum_52 (lv_at hl 3 rfl) ?_
  refine nv_iconst (v := 3) K d_R_sum_54 (by decide) ?_
  refine nv_icmp_ne K (by omega) (by omega) d_R_sum_55 rfl (fun _ => ?_) (fun h => (by omega : False).elim)
  refine lv_iinc (k := 3) (v := nI 1) (lv' := [(6, .int (nI 1)), (5, .int (nI (((((x / 1) % 2) + ((y / 1) % 2)) + z) / 2))), (4, .int (nI (0 + ((((((x / 1) % 2) + ((y / 1) % 2)) + z) % 2) * 1)))), (7, .int (nI ((((x / 1) % 2) + ((y / 1) % 2)) + z))), (0, .ref a.1), (1, .int (nI x)), (2, .int (nI y)), (3, .int (nI z))]) K.1 K.2.1 d_R_sum_64 hl rfl (nI_add _ _) (by decide) rfl (fun ls hl => ?_)
  refine lv_goto K.1 K.2.1 d_R_sum_67 rfl ?_
  have hs1 := sm_1 (x := x) (y := y) (z := z) (o := z) (u := 0) hz (by omega) (by omega)
  obtain ⟨o1, ho1⟩ : ∃ q, q = ((((x / 1) % 2) + ((y / 1) % 2)) + z) / 2 := ⟨_, rfl⟩
  obtain ⟨u1, hu1⟩ : ∃ q, q = 0 + ((((((x / 1) % 2) + ((y / 1) % 2)) + z) % 2) * 1) := ⟨_, rfl⟩
  rw [← hu1, ← ho1] at hl hs1
  obtain ⟨hbo1, hbu1, hi1⟩ := hs1
  clear ho1 hu1
  refine lv_iload K.1 K.2.1 d_R_sum_9 (lv_at hl 0 rfl) ?_
  refine nv_bipush (v := 8) K d_R_sum_11 (by decide) ?_
  refine nv_icmp_ge K (by omega) (by omega) d_R_sum_13 rfl (fun h => (by omega : False).elim) (fun _ => ?_)
  refine lv_iload_n K.1 K.2.1 d_R_sum_16 rfl (lv_at hl 5 rfl) ?_
  refine lv_iload K.1 K.2.1 d_R_sum_17 (lv_at hl 0 rfl) ?_
  refine nv_ishr (M := 2) K (by omega) rfl (by omega) d_R_sum_19 ?_
  refine nv_iconst (v := 1) K d_R_sum_20 (by decide) ?_
  refine nv_mask (M := 2) K 1 rfl rfl d_R_sum_21 ?_
  refine lv_iload_n K.1 K.2.1 d_R_sum_22 rfl (lv_at hl 6 rfl) ?_
  refine lv_iload K.1 K.2.1 d_R_sum_23 (lv_at hl 0 rfl) ?_
  refine nv_ishr (M := 2) K (by omega) rfl (by omega) d_R_sum_25 ?_
  refine nv_iconst (v := 1) K d_R_sum_26 (by decide) ?_
  refine nv_mask (M := 2) K 1 rfl rfl d_R_sum_27 ?_
  refine nv_iadd K d_R_sum_28 ?_
  refine lv_iload K.1 K.2.1 d_R_sum_29 (lv_at hl 1 rfl) ?_
  refine nv_iadd K d_R_sum_31 ?_
  refine lv_istore (lv' := [(7, .int (nI ((((x / 2) % 2) + ((y / 2) % 2)) + o1))), (6, .int (nI 1)), (5, .int (nI o1)), (4, .int (nI u1)), (0, .ref a.1), (1, .int (nI x)), (2, .int (nI y)), (3, .int (nI z))]) K.1 K.2.1 d_R_sum_32 hl (by decide) rfl (fun ls hl => ?_)
  refine lv_iload K.1 K.2.1 d_R_sum_34 (lv_at hl 3 rfl) ?_
  refine lv_iload K.1 K.2.1 d_R_sum_36 (lv_at hl 0 rfl) ?_
  refine nv_iconst (v := 2) K d_R_sum_38 (by decide) ?_
  refine nv_irem K (by omega) (by omega) (by omega) d_R_sum_39 ?_
  refine lv_iload K.1 K.2.1 d_R_sum_40 (lv_at hl 1 rfl) ?_
  refine nv_ishl (M := 2) K (by omega) rfl (by omega) d_R_sum_42 ?_
  refine nv_iadd K d_R_sum_43 ?_
  refine lv_istore (lv' := [(4, .int (nI (u1 + ((((((x / 2) % 2) + ((y / 2) % 2)) + o1) % 2) * 2)))), (7, .int (nI ((((x / 2) % 2) + ((y / 2) % 2)) + o1))), (6, .int (nI 1)), (5, .int (nI o1)), (0, .ref a.1), (1, .int (nI x)), (2, .int (nI y)), (3, .int (nI z))]) K.1 K.2.1 d_R_sum_44 hl (by decide) rfl (fun ls hl => ?_)
  refine lv_iload K.1 K.2.1 d_R_sum_46 (lv_at hl 1 rfl) ?_
  refine nv_iconst (v := 2) K d_R_sum_48 (by decide) ?_
  refine nv_idiv K (by omega) (by omega) (by omega) d_R_sum_49 ?_
  refine lv_istore (lv' := [(5, .int (nI (((((x / 2) % 2) + ((y / 2) % 2)) + o1) / 2))), (4, .int (nI (u1 + ((((((x / 2) % 2) + ((y / 2) % 2)) + o1) % 2) * 2)))), (7, .int (nI ((((x / 2) % 2) + ((y / 2) % 2)) + o1))), (6, .int (nI 1)), (0, .ref a.1), (1, .int (nI x)), (2, .int (nI y)), (3, .int (nI z))]) K.1 K.2.1 d_R_sum_50 hl (by decide) rfl (fun ls hl => ?_)
  refine lv_iload K.1 K.2.1 d_R_sum_52 (lv_at hl 3 rfl) ?_
  refine nv_iconst (v := 3) K d_R_sum_54 (by decide) ?_
  refine nv_icmp_ne K (by omega) (by omega) d_R_sum_55 rfl (fun _ => ?_) (fun h => (by omega : False).elim)
  refine lv_iinc (k := 3) (v := nI 2) (lv' := [(6, .int (nI 2)), (5, .int (nI (((((x / 2) % 2) + ((y / 2) % 2)) + o1) / 2))), (4, .int (nI (u1 + ((((((x / 2) % 2) + ((y / 2) % 2)) + o1) % 2) * 2)))), (7, .int (nI ((((x / 2) % 2) + ((y / 2) % 2)) + o1))), (0, .ref a.1), (1, .int (nI x)), (2, .int (nI y)), (3, .int (nI z))]) K.1 K.2.1 d_R_sum_64 hl rfl (nI_add _ _) (by decide) rfl (fun ls hl => ?_)
  refine lv_goto K.1 K.2.1 d_R_sum_67 rfl ?_
  have hs2 := sm_2 (x := x) (y := y) (z := z) (o := o1) (u := u1) hbo1 hbu1 hi1
  obtain ⟨o2, ho2⟩ : ∃ q, q = ((((x / 2) % 2) + ((y / 2) % 2)) + o1) / 2 := ⟨_, rfl⟩
  obtain ⟨u2, hu2⟩ : ∃ q, q = u1 + ((((((x / 2) % 2) + ((y / 2) % 2)) + o1) % 2) * 2) := ⟨_, rfl⟩
  rw [← hu2, ← ho2] at hl hs2
  obtain ⟨hbo2, hbu2, hi2⟩ := hs2
  clear ho2 hu2 hi1
  refine lv_iload K.1 K.2.1 d_R_sum_9 (lv_at hl 0 rfl) ?_
  refine nv_bipush (v := 8) K d_R_sum_11 (by decide) ?_
  refine nv_icmp_ge K (by omega) (by omega) d_R_sum_13 rfl (fun h => (by omega : False).elim) (fun _ => ?_)
  refine lv_iload_n K.1 K.2.1 d_R_sum_16 rfl (lv_at hl 5 rfl) ?_
  refine lv_iload K.1 K.2.1 d_R_sum_17 (lv_at hl 0 rfl) ?_
  refine nv_ishr (M := 4) K (by omega) rfl (by omega) d_R_sum_19 ?_
  refine nv_iconst (v := 1) K d_R_sum_20 (by decide) ?_
  refine nv_mask (M := 2) K 1 rfl rfl d_R_sum_21 ?_
  refine lv_iload_n K.1 K.2.1 d_R_sum_22 rfl (lv_at hl 6 rfl) ?_
  refine lv_iload K.1 K.2.1 d_R_sum_23 (lv_at hl 0 rfl) ?_
  refine nv_ishr (M := 4) K (by omega) rfl (by omega) d_R_sum_25 ?_
  refine nv_iconst (v := 1) K d_R_sum_26 (by decide) ?_
  refine nv_mask (M := 2) K 1 rfl rfl d_R_sum_27 ?_
  refine nv_iadd K d_R_sum_28 ?_
  refine lv_iload K.1 K.2.1 d_R_sum_29 (lv_at hl 1 rfl) ?_
  refine nv_iadd K d_R_sum_31 ?_
  refine lv_istore (lv' := [(7, .int (nI ((((x / 4) % 2) + ((y / 4) % 2)) + o2))), (6, .int (nI 2)), (5, .int (nI o2)), (4, .int (nI u2)), (0, .ref a.1), (1, .int (nI x)), (2, .int (nI y)), (3, .int (nI z))]) K.1 K.2.1 d_R_sum_32 hl (by decide) rfl (fun ls hl => ?_)
  refine lv_iload K.1 K.2.1 d_R_sum_34 (lv_at hl 3 rfl) ?_
  refine lv_iload K.1 K.2.1 d_R_sum_36 (lv_at hl 0 rfl) ?_
  refine nv_iconst (v := 2) K d_R_sum_38 (by decide) ?_
  refine nv_irem K (by omega) (by omega) (by omega) d_R_sum_39 ?_
  refine lv_iload K.1 K.2.1 d_R_sum_40 (lv_at hl 1 rfl) ?_
  refine nv_ishl (M := 4) K (by omega) rfl (by omega) d_R_sum_42 ?_
  refine nv_iadd K d_R_sum_43 ?_
  refine lv_istore (lv' := [(4, .int (nI (u2 + ((((((x / 4) % 2) + ((y / 4) % 2)) + o2) % 2) * 4)))), (7, .int (nI ((((x / 4) % 2) + ((y / 4) % 2)) + o2))), (6, .int (nI 2)), (5, .int (nI o2)), (0, .ref a.1), (1, .int (nI x)), (2, .int (nI y)), (3, .int (nI z))]) K.1 K.2.1 d_R_sum_44 hl (by decide) rfl (fun ls hl => ?_)
  refine lv_iload K.1 K.2.1 d_R_sum_46 (lv_at hl 1 rfl) ?_
  refine nv_iconst (v := 2) K d_R_sum_48 (by decide) ?_
  refine nv_idiv K (by omega) (by omega) (by omega) d_R_sum_49 ?_
  refine lv_istore (lv' := [(5, .int (nI (((((x / 4) % 2) + ((y / 4) % 2)) + o2) / 2))), (4, .int (nI (u2 + ((((((x / 4) % 2) + ((y / 4) % 2)) + o2) % 2) * 4)))), (7, .int (nI ((((x / 4) % 2) + ((y / 4) % 2)) + o2))), (6, .int (nI 2)), (0, .ref a.1), (1, .int (nI x)), (2, .int (nI y)), (3, .int (nI z))]) K.1 K.2.1 d_R_sum_50 hl (by decide) rfl (fun ls hl => ?_)
  refine lv_iload K.1 K.2.1 d_R_sum_52 (lv_at hl 3 rfl) ?_
  refine nv_iconst (v := 3) K d_R_sum_54 (by decide) ?_
  refine nv_icmp_ne K (by omega) (by omega) d_R_sum_55 rfl (fun _ => ?_) (fun h => (by omega : False).elim)
  refine lv_iinc (k := 3) (v := nI 3) (lv' := [(6, .int (nI 3)), (5, .int (nI (((((x / 4) % 2) + ((y / 4) % 2)) + o2) / 2))), (4, .int (nI (u2 + ((((((x / 4) % 2) + ((y / 4) % 2)) + o2) % 2) * 4)))), (7, .int (nI ((((x / 4) % 2) + ((y / 4) % 2)) + o2))), (0, .ref a.1), (1, .int (nI x)), (2, .int (nI y)), (3, .int (nI z))]) K.1 K.2.1 d_R_sum_64 hl rfl (nI_add _ _) (by decide) rfl (fun ls hl => ?_)
  refine lv_goto K.1 K.2.1 d_R_sum_67 rfl ?_
  have hs3 := sm_3 (x := x) (y := y) (z := z) (o := o2) (u := u2) hbo2 hbu2 hi2
  obtain ⟨o3, ho3⟩ : ∃ q, q = ((((x / 4) % 2) + ((y / 4) % 2)) + o2) / 2 := ⟨_, rfl⟩
  obtain ⟨u3, hu3⟩ : ∃ q, q = u2 + ((((((x / 4) % 2) + ((y / 4) % 2)) + o2) % 2) * 4) := ⟨_, rfl⟩
  rw [← hu3, ← ho3] at hl hs3
  obtain ⟨hbo3, hbu3, hi3⟩ := hs3
  clear ho3 hu3 hi2
  refine lv_iload K.1 K.2.1 d_R_sum_9 (lv_at hl 0 rfl) ?_
  refine nv_bipush (v := 8) K d_R_sum_11 (by decide) ?_
  refine nv_icmp_ge K (by omega) (by omega) d_R_sum_13 rfl (fun h => (by omega : False).elim) (fun _ => ?_)
  refine lv_iload_n K.1 K.2.1 d_R_sum_16 rfl (lv_at hl 5 rfl) ?_
  refine lv_iload K.1 K.2.1 d_R_sum_17 (lv_at hl 0 rfl) ?_
  refine nv_ishr (M := 8) K (by omega) rfl (by omega) d_R_sum_19 ?_
  refine nv_iconst (v := 1) K d_R_sum_20 (by decide) ?_
  refine nv_mask (M := 2) K 1 rfl rfl d_R_sum_21 ?_
  refine lv_iload_n K.1 K.2.1 d_R_sum_22 rfl (lv_at hl 6 rfl) ?_
  refine lv_iload K.1 K.2.1 d_R_sum_23 (lv_at hl 0 rfl) ?_
  refine nv_ishr (M := 8) K (by omega) rfl (by omega) d_R_sum_25 ?_
  refine nv_iconst (v := 1) K d_R_sum_26 (by decide) ?_
  refine nv_mask (M := 2) K 1 rfl rfl d_R_sum_27 ?_
  refine nv_iadd K d_R_sum_28 ?_
  refine lv_iload K.1 K.2.1 d_R_sum_29 (lv_at hl 1 rfl) ?_
  refine nv_iadd K d_R_sum_31 ?_
  refine lv_istore (lv' := [(7, .int (nI ((((x / 8) % 2) + ((y / 8) % 2)) + o3))), (6, .int (nI 3)), (5, .int (nI o3)), (4, .int (nI u3)), (0, .ref a.1), (1, .int (nI x)), (2, .int (nI y)), (3, .int (nI z))]) K.1 K.2.1 d_R_sum_32 hl (by decide) rfl (fun ls hl => ?_)
  refine lv_iload K.1 K.2.1 d_R_sum_34 (lv_at hl 3 rfl) ?_
  refine lv_iload K.1 K.2.1 d_R_sum_36 (lv_at hl 0 rfl) ?_
  refine nv_iconst (v := 2) K d_R_sum_38 (by decide) ?_
  refine nv_irem K (by omega) (by omega) (by omega) d_R_sum_39 ?_
  refine lv_iload K.1 K.2.1 d_R_sum_40 (lv_at hl 1 rfl) ?_
  refine nv_ishl (M := 8) K (by omega) rfl (by omega) d_R_sum_42 ?_
  refine nv_iadd K d_R_sum_43 ?_
  refine lv_istore (lv' := [(4, .int (nI (u3 + ((((((x / 8) % 2) + ((y / 8) % 2)) + o3) % 2) * 8)))), (7, .int (nI ((((x / 8) % 2) + ((y / 8) % 2)) + o3))), (6, .int (nI 3)), (5, .int (nI o3)), (0, .ref a.1), (1, .int (nI x)), (2, .int (nI y)), (3, .int (nI z))]) K.1 K.2.1 d_R_sum_44 hl (by decide) rfl (fun ls hl => ?_)
  refine lv_iload K.1 K.2.1 d_R_sum_46 (lv_at hl 1 rfl) ?_
  refine nv_iconst (v := 2) K d_R_sum_48 (by decide) ?_
  refine nv_idiv K (by omega) (by omega) (by omega) d_R_sum_49 ?_
  refine lv_istore (lv' := [(5, .int (nI (((((x / 8) % 2) + ((y / 8) % 2)) + o3) / 2))), (4, .int (nI (u3 + ((((((x / 8) % 2) + ((y / 8) % 2)) + o3) % 2) * 8)))), (7, .int (nI ((((x / 8) % 2) + ((y / 8) % 2)) + o3))), (6, .int (nI 3)), (0, .ref a.1), (1, .int (nI x)), (2, .int (nI y)), (3, .int (nI z))]) K.1 K.2.1 d_R_sum_50 hl (by decide) rfl (fun ls hl => ?_)
  refine lv_iload K.1 K.2.1 d_R_sum_52 (lv_at hl 3 rfl) ?_
  refine nv_iconst (v := 3) K d_R_sum_54 (by decide) ?_
  refine nv_icmp_ne K (by omega) (by omega) d_R_sum_55 rfl (fun h => (by omega : False).elim) (fun _ => ?_)
  refine lv_aload_n K.1 K.2.1 d_R_sum_58 rfl (lv_at hl 4 rfl) ?_
  refine lv_iload K.1 K.2.1 d_R_sum_59 (lv_at hl 0 rfl) ?_
  refine qp_half (v := ((((x / 8) % 2) + ((y / 8) % 2)) + o3) / 2) K hw d_R_sum_61 (fun H locs hw => ?_)
  have hO1 : z_Ok (z_s_au σ (((((x / 8) % 2) + ((y / 8) % 2)) + o3) / 2)) := z_ok_au hO (by omega)
  refine lv_iinc (k := 3) (v := nI 4) (lv' := [(6, .int (nI 4)), (5, .int (nI (((((x / 8) % 2) + ((y / 8) % 2)) + o3) / 2))), (4, .int (nI (u3 + ((((((x / 8) % 2) + ((y / 8) % 2)) + o3) % 2) * 8)))), (7, .int (nI ((((x / 8) % 2) + ((y / 8) % 2)) + o3))), (0, .ref a.1), (1, .int (nI x)), (2, .int (nI y)), (3, .int (nI z))]) K.1 K.2.1 d_R_sum_64 hl rfl (nI_add _ _) (by decide) rfl (fun ls hl => ?_)
  refine lv_goto K.1 K.2.1 d_R_sum_67 rfl ?_
  have hs4 := sm_4 (x := x) (y := y) (z := z) (o := o3) (u := u3) hbo3 hbu3 hi3
  obtain ⟨o4, ho4⟩ : ∃ q, q = ((((x / 8) % 2) + ((y / 8) % 2)) + o3) / 2 := ⟨_, rfl⟩
  obtain ⟨u4, hu4⟩ : ∃ q, q = u3 + ((((((x / 8) % 2) + ((y / 8) % 2)) + o3) % 2) * 8) := ⟨_, rfl⟩
  rw [← hu4, ← ho4] at hl hs4
  rw [← ho4] at hw
  obtain ⟨hbo4, hbu4, hi4⟩ := hs4
  clear ho4 hu4 hi3
  have hO2 : z_Ok (z_s_au σ o4) := z_ok_au hO hbo4
  have z_e3 : o4 = z_g1 x y z := by unfold z_g1; split <;> omega
  refine lv_iload K.1 K.2.1 d_R_sum_9 (lv_at hl 0 rfl) ?_
  refine nv_bipush (v := 8) K d_R_sum_11 (by decide) ?_
  refine nv_icmp_ge K (by omega) (by omega) d_R_sum_13 rfl (fun h => (by omega : False).elim) (fun _ => ?_)
  refine lv_iload_n K.1 K.2.1 d_R_sum_16 rfl (lv_at hl 5 rfl) ?_
  refine lv_iload K.1 K.2.1 d_R_sum_17 (lv_at hl 0 rfl) ?_
  refine nv_ishr (M := 16) K (by omega) rfl (by omega) d_R_sum_19 ?_
  refine nv_iconst (v := 1) K d_R_sum_20 (by decide) ?_
  refine nv_mask (M := 2) K 1 rfl rfl d_R_sum_21 ?_
  refine lv_iload_n K.1 K.2.1 d_R_sum_22 rfl (lv_at hl 6 rfl) ?_
  refine lv_iload K.1 K.2.1 d_R_sum_23 (lv_at hl 0 rfl) ?_
  refine nv_ishr (M := 16) K (by omega) rfl (by omega) d_R_sum_25 ?_
  refine nv_iconst (v := 1) K d_R_sum_26 (by decide) ?_
  refine nv_mask (M := 2) K 1 rfl rfl d_R_sum_27 ?_
  refine nv_iadd K d_R_sum_28 ?_
  refine lv_iload K.1 K.2.1 d_R_sum_29 (lv_at hl 1 rfl) ?_
  refine nv_iadd K d_R_sum_31 ?_
  refine lv_istore (lv' := [(7, .int (nI ((((x / 16) % 2) + ((y / 16) % 2)) + o4))), (6, .int (nI 4)), (5, .int (nI o4)), (4, .int (nI u4)), (0, .ref a.1), (1, .int (nI x)), (2, .int (nI y)), (3, .int (nI z))]) K.1 K.2.1 d_R_sum_32 hl (by decide) rfl (fun ls hl => ?_)
  refine lv_iload K.1 K.2.1 d_R_sum_34 (lv_at hl 3 rfl) ?_
  refine lv_iload K.1 K.2.1 d_R_sum_36 (lv_at hl 0 rfl) ?_
  refine nv_iconst (v := 2) K d_R_sum_38 (by decide) ?_
  refine nv_irem K (by omega) (by omega) (by omega) d_R_sum_39 ?_
  refine lv_iload K.1 K.2.1 d_R_sum_40 (lv_at hl 1 rfl) ?_
  refine nv_ishl (M := 16) K (by omega) rfl (by omega) d_R_sum_42 ?_
  refine nv_iadd K d_R_sum_43 ?_
  refine lv_istore (lv' := [(4, .int (nI (u4 + ((((((x / 16) % 2) + ((y / 16) % 2)) + o4) % 2) * 16)))), (7, .int (nI ((((x / 16) % 2) + ((y / 16) % 2)) + o4))), (6, .int (nI 4)), (5, .int (nI o4)), (0, .ref a.1), (1, .int (nI x)), (2, .int (nI y)), (3, .int (nI z))]) K.1 K.2.1 d_R_sum_44 hl (by decide) rfl (fun ls hl => ?_)
  refine lv_iload K.1 K.2.1 d_R_sum_46 (lv_at hl 1 rfl) ?_
  refine nv_iconst (v := 2) K d_R_sum_48 (by decide) ?_
  refine nv_idiv K (by omega) (by omega) (by omega) d_R_sum_49 ?_
  refine lv_istore (lv' := [(5, .int (nI (((((x / 16) % 2) + ((y / 16) % 2)) + o4) / 2))), (4, .int (nI (u4 + ((((((x / 16) % 2) + ((y / 16) % 2)) + o4) % 2) * 16)))), (7, .int (nI ((((x / 16) % 2) + ((y / 16) % 2)) + o4))), (6, .int (nI 4)), (0, .ref a.1), (1, .int (nI x)), (2, .int (nI y)), (3, .int (nI z))]) K.1 K.2.1 d_R_sum_50 hl (by decide) rfl (fun ls hl => ?_)
  refine lv_iload K.1 K.2.1 d_R_sum_52 (lv_at hl 3 rfl) ?_
  refine nv_iconst (v := 3) K d_R_sum_54 (by decide) ?_
  refine nv_icmp_ne K (by omega) (by omega) d_R_sum_55 rfl (fun _ => ?_) (fun h => (by omega : False).elim)
  refine lv_iinc (k := 3) (v := nI 5) (lv' := [(6, .int (nI 5)), (5, .int (nI (((((x / 16) % 2) + ((y / 16) % 2)) + o4) / 2))), (4, .int (nI (u4 + ((((((x / 16) % 2) + ((y / 16) % 2)) + o4) % 2) * 16)))), (7, .int (nI ((((x / 16) % 2) + ((y / 16) % 2)) + o4))), (0, .ref a.1), (1, .int (nI x)), (2, .int (nI y)), (3, .int (nI z))]) K.1 K.2.1 d_R_sum_64 hl rfl (nI_add _ _) (by decide) rfl (fun ls hl => ?_)
  refine lv_goto K.1 K.2.1 d_R_sum_67 rfl ?_
  have hs5 := sm_5 (x := x) (y := y) (z := z) (o := o4) (u := u4) hbo4 hbu4 hi4
  obtain ⟨o5, ho5⟩ : ∃ q, q = ((((x / 16) % 2) + ((y / 16) % 2)) + o4) / 2 := ⟨_, rfl⟩
  obtain ⟨u5, hu5⟩ : ∃ q, q = u4 + ((((((x / 16) % 2) + ((y / 16) % 2)) + o4) % 2) * 16) := ⟨_, rfl⟩
  rw [← hu5, ← ho5] at hl hs5
  obtain ⟨hbo5, hbu5, hi5⟩ := hs5
  clear ho5 hu5 hi4
  refine lv_iload K.1 K.2.1 d_R_sum_9 (lv_at hl 0 rfl) ?_
  refine nv_bipush (v := 8) K d_R_sum_11 (by decide) ?_
  refine nv_icmp_ge K (by omega) (by omega) d_R_sum_13 rfl (fun h => (by omega : False).elim) (fun _ => ?_)
  refine lv_iload_n K.1 K.2.1 d_R_sum_16 rfl (lv_at hl 5 rfl) ?_
  refine lv_iload K.1 K.2.1 d_R_sum_17 (lv_at hl 0 rfl) ?_
  refine nv_ishr (M := 32) K (by omega) rfl (by omega) d_R_sum_19 ?_
  refine nv_iconst (v := 1) K d_R_sum_20 (by decide) ?_
  refine nv_mask (M := 2) K 1 rfl rfl d_R_sum_21 ?_
  refine lv_iload_n K.1 K.2.1 d_R_sum_22 rfl (lv_at hl 6 rfl) ?_
  refine lv_iload K.1 K.2.1 d_R_sum_23 (lv_at hl 0 rfl) ?_
  refine nv_ishr (M := 32) K (by omega) rfl (by omega) d_R_sum_25 ?_
  refine nv_iconst (v := 1) K d_R_sum_26 (by decide) ?_
  refine nv_mask (M := 2) K 1 rfl rfl d_R_sum_27 ?_
  refine nv_iadd K d_R_sum_28 ?_
  refine lv_iload K.1 K.2.1 d_R_sum_29 (lv_at hl 1 rfl) ?_
  refine nv_iadd K d_R_sum_31 ?_
  refine lv_istore (lv' := [(7, .int (nI ((((x / 32) % 2) + ((y / 32) % 2)) + o5))), (6, .int (nI 5)), (5, .int (nI o5)), (4, .int (nI u5)), (0, .ref a.1), (1, .int (nI x)), (2, .int (nI y)), (3, .int (nI z))]) K.1 K.2.1 d_R_sum_32 hl (by decide) rfl (fun ls hl => ?_)
  refine lv_iload K.1 K.2.1 d_R_sum_34 (lv_at hl 3 rfl) ?_
  refine lv_iload K.1 K.2.1 d_R_sum_36 (lv_at hl 0 rfl) ?_
  refine nv_iconst (v := 2) K d_R_sum_38 (by decide) ?_
  refine nv_irem K (by omega) (by omega) (by omega) d_R_sum_39 ?_
  refine lv_iload K.1 K.2.1 d_R_sum_40 (lv_at hl 1 rfl) ?_
  refine nv_ishl (M := 32) K (by omega) rfl (by omega) d_R_sum_42 ?_
  refine nv_iadd K d_R_sum_43 ?_
  refine lv_istore (lv' := [(4, .int (nI (u5 + ((((((x / 32) % 2) + ((y / 32) % 2)) + o5) % 2) * 32)))), (7, .int (nI ((((x / 32) % 2) + ((y / 32) % 2)) + o5))), (6, .int (nI 5)), (5, .int (nI o5)), (0, .ref a.1), (1, .int (nI x)), (2, .int (nI y)), (3, .int (nI z))]) K.1 K.2.1 d_R_sum_44 hl (by decide) rfl (fun ls hl => ?_)
  refine lv_iload K.1 K.2.1 d_R_sum_46 (lv_at hl 1 rfl) ?_
  refine nv_iconst (v := 2) K d_R_sum_48 (by decide) ?_
  refine nv_idiv K (by omega) (by omega) (by omega) d_R_sum_49 ?_
  refine lv_istore (lv' := [(5, .int (nI (((((x / 32) % 2) + ((y / 32) % 2)) + o5) / 2))), (4, .int (nI (u5 + ((((((x / 32) % 2) + ((y / 32) % 2)) + o5) % 2) * 32)))), (7, .int (nI ((((x / 32) % 2) + ((y / 32) % 2)) + o5))), (6, .int (nI 5)), (0, .ref a.1), (1, .int (nI x)), (2, .int (nI y)), (3, .int (nI z))]) K.1 K.2.1 d_R_sum_50 hl (by decide) rfl (fun ls hl => ?_)
  refine lv_iload K.1 K.2.1 d_R_sum_52 (lv_at hl 3 rfl) ?_
  refine nv_iconst (v := 3) K d_R_sum_54 (by decide) ?_
  refine nv_icmp_ne K (by omega) (by omega) d_R_sum_55 rfl (fun _ => ?_) (fun h => (by omega : False).elim)
  refine lv_iinc (k := 3) (v := nI 6) (lv' := [(6, .int (nI 6)), (5, .int (nI (((((x / 32) % 2) + ((y / 32) % 2)) + o5) / 2))), (4, .int (nI (u5 + ((((((x / 32) % 2) + ((y / 32) % 2)) + o5) % 2) * 32)))), (7, .int (nI ((((x / 32) % 2) + ((y / 32) % 2)) + o5))), (0, .ref a.1), (1, .int (nI x)), (2, .int (nI y)), (3, .int (nI z))]) K.1 K.2.1 d_R_sum_64 hl rfl (nI_add _ _) (by decide) rfl (fun ls hl => ?_)
  refine lv_goto K.1 K.2.1 d_R_sum_67 rfl ?_
  have hs6 := sm_6 (x := x) (y := y) (z := z) (o := o5) (u := u5) hbo5 hbu5 hi5
  obtain ⟨o6, ho6⟩ : ∃ q, q = ((((x / 32) % 2) + ((y / 32) % 2)) + o5) / 2 := ⟨_, rfl⟩
  obtain ⟨u6, hu6⟩ : ∃ q, q = u5 + ((((((x / 32) % 2) + ((y / 32) % 2)) + o5) % 2) * 32) := ⟨_, rfl⟩
  rw [← hu6, ← ho6] at hl hs6
  obtain ⟨hbo6, hbu6, hi6⟩ := hs6
  clear ho6 hu6 hi5
  refine lv_iload K.1 K.2.1 d_R_sum_9 (lv_at hl 0 rfl) ?_
  refine nv_bipush (v := 8) K d_R_sum_11 (by decide) ?_
  refine nv_icmp_ge K (by omega) (by omega) d_R_sum_13 rfl (fun h => (by omega : False).elim) (fun _ => ?_)
  refine lv_iload_n K.1 K.2.1 d_R_sum_16 rfl (lv_at hl 5 rfl) ?_
  refine lv_iload K.1 K.2.1 d_R_sum_17 (lv_at hl 0 rfl) ?_
  refine nv_ishr (M := 64) K (by omega) rfl (by omega) d_R_sum_19 ?_
  refine nv_iconst (v := 1) K d_R_sum_20 (by decide) ?_
  refine nv_mask (M := 2) K 1 rfl rfl d_R_sum_21 ?_
  refine lv_iload_n K.1 K.2.1 d_R_sum_22 rfl (lv_at hl 6 rfl) ?_
  refine lv_iload K.1 K.2.1 d_R_sum_23 (lv_at hl 0 rfl) ?_
  refine nv_ishr (M := 64) K (by omega) rfl (by omega) d_R_sum_25 ?_
  refine nv_iconst (v := 1) K d_R_sum_26 (by decide) ?_
  refine nv_mask (M := 2) K 1 rfl rfl d_R_sum_27 ?_
  refine nv_iadd K d_R_sum_28 ?_
  refine lv_iload K.1 K.2.1 d_R_sum_29 (lv_at hl 1 rfl) ?_
  refine nv_iadd K d_R_sum_31 ?_
  refine lv_istore (lv' := [(7, .int (nI ((((x / 64) % 2) + ((y / 64) % 2)) + o6))), (6, .int (nI 6)), (5, .int (nI o6)), (4, .int (nI u6)), (0, .ref a.1), (1, .int (nI x)), (2, .int (nI y)), (3, .int (nI z))]) K.1 K.2.1 d_R_sum_32 hl (by decide) rfl (fun ls hl => ?_)
  refine lv_iload K.1 K.2.1 d_R_sum_34 (lv_at hl 3 rfl) ?_
  refine lv_iload K.1 K.2.1 d_R_sum_36 (lv_at hl 0 rfl) ?_
  refine nv_iconst (v := 2) K d_R_sum_38 (by decide) ?_
  refine nv_irem K (by omega) (by omega) (by omega) d_R_sum_39 ?_
  refine lv_iload K.1 K.2.1 d_R_sum_40 (lv_at hl 1 rfl) ?_
  refine nv_ishl (M := 64) K (by omega) rfl (by omega) d_R_sum_42 ?_
  refine nv_iadd K d_R_sum_43 ?_
  refine lv_istore (lv' := [(4, .int (nI (u6 + ((((((x / 64) % 2) + ((y / 64) % 2)) + o6) % 2) * 64)))), (7, .int (nI ((((x / 64) % 2) + ((y / 64) % 2)) + o6))), (6, .int (nI 6)), (5, .int (nI o6)), (0, .ref a.1), (1, .int (nI x)), (2, .int (nI y)), (3, .int (nI z))]) K.1 K.2.1 d_R_sum_44 hl (by decide) rfl (fun ls hl => ?_)
  refine lv_iload K.1 K.2.1 d_R_sum_46 (lv_at hl 1 rfl) ?_
  refine nv_iconst (v := 2) K d_R_sum_48 (by decide) ?_
  refine nv_idiv K (by omega) (by omega) (by omega) d_R_sum_49 ?_
  refine lv_istore (lv' := [(5, .int (nI (((((x / 64) % 2) + ((y / 64) % 2)) + o6) / 2))), (4, .int (nI (u6 + ((((((x / 64) % 2) + ((y / 64) % 2)) + o6) % 2) * 64)))), (7, .int (nI ((((x / 64) % 2) + ((y / 64) % 2)) + o6))), (6, .int (nI 6)), (0, .ref a.1), (1, .int (nI x)), (2, .int (nI y)), (3, .int (nI z))]) K.1 K.2.1 d_R_sum_50 hl (by decide) rfl (fun ls hl => ?_)
  refine lv_iload K.1 K.2.1 d_R_sum_52 (lv_at hl 3 rfl) ?_
  refine nv_iconst (v := 3) K d_R_sum_54 (by decide) ?_
  refine nv_icmp_ne K (by omega) (by omega) d_R_sum_55 rfl (fun _ => ?_) (fun h => (by omega : False).elim)
  refine lv_iinc (k := 3) (v := nI 7) (lv' := [(6, .int (nI 7)), (5, .int (nI (((((x / 64) % 2) + ((y / 64) % 2)) + o6) / 2))), (4, .int (nI (u6 + ((((((x / 64) % 2) + ((y / 64) % 2)) + o6) % 2) * 64)))), (7, .int (nI ((((x / 64) % 2) + ((y / 64) % 2)) + o6))), (0, .ref a.1), (1, .int (nI x)), (2, .int (nI y)), (3, .int (nI z))]) K.1 K.2.1 d_R_sum_64 hl rfl (nI_add _ _) (by decide) rfl (fun ls hl => ?_)
  refine lv_goto K.1 K.2.1 d_R_sum_67 rfl ?_
  have hs7 := sm_7 (x := x) (y := y) (z := z) (o := o6) (u := u6) hbo6 hbu6 hi6
  obtain ⟨o7, ho7⟩ : ∃ q, q = ((((x / 64) % 2) + ((y / 64) % 2)) + o6) / 2 := ⟨_, rfl⟩
  obtain ⟨u7, hu7⟩ : ∃ q, q = u6 + ((((((x / 64) % 2) + ((y / 64) % 2)) + o6) % 2) * 64) := ⟨_, rfl⟩
  rw [← hu7, ← ho7] at hl hs7
  obtain ⟨hbo7, hbu7, hi7⟩ := hs7
  clear ho7 hu7 hi6
  refine lv_iload K.1 K.2.1 d_R_sum_9 (lv_at hl 0 rfl) ?_
  refine nv_bipush (v := 8) K d_R_sum_11 (by decide) ?_
  refine nv_icmp_ge K (by omega) (by omega) d_R_sum_13 rfl (fun h => (by omega : False).elim) (fun _ => ?_)
  refine lv_iload_n K.1 K.2.1 d_R_sum_16 rfl (lv_at hl 5 rfl) ?_
  refine lv_iload K.1 K.2.1 d_R_sum_17 (lv_at hl 0 rfl) ?_
  refine nv_ishr (M := 128) K (by omega) rfl (by omega) d_R_sum_19 ?_
  refine nv_iconst (v := 1) K d_R_sum_20 (by decide) ?_
  refine nv_mask (M := 2) K 1 rfl rfl d_R_sum_21 ?_
  refine lv_iload_n K.1 K.2.1 d_R_sum_22 rfl (lv_at hl 6 rfl) ?_
  refine lv_iload K.1 K.2.1 d_R_sum_23 (lv_at hl 0 rfl) ?_
  refine nv_ishr (M := 128) K (by omega) rfl (by omega) d_R_sum_25 ?_
  refine nv_iconst (v := 1) K d_R_sum_26 (by decide) ?_
  refine nv_mask (M := 2) K 1 rfl rfl d_R_sum_27 ?_
  refine nv_iadd K d_R_sum_28 ?_
  refine lv_iload K.1 K.2.1 d_R_sum_29 (lv_at hl 1 rfl) ?_
  refine nv_iadd K d_R_sum_31 ?_
  refine lv_istore (lv' := [(7, .int (nI ((((x / 128) % 2) + ((y / 128) % 2)) + o7))), (6, .int (nI 7)), (5, .int (nI o7)), (4, .int (nI u7)), (0, .ref a.1), (1, .int (nI x)), (2, .int (nI y)), (3, .int (nI z))]) K.1 K.2.1 d_R_sum_32 hl (by decide) rfl (fun ls hl => ?_)
  refine lv_iload K.1 K.2.1 d_R_sum_34 (lv_at hl 3 rfl) ?_
  refine lv_iload K.1 K.2.1 d_R_sum_36 (lv_at hl 0 rfl) ?_
  refine nv_iconst (v := 2) K d_R_sum_38 (by decide) ?_
  refine nv_irem K (by omega) (by omega) (by omega) d_R_sum_39 ?_
  refine lv_iload K.1 K.2.1 d_R_sum_40 (lv_at hl 1 rfl) ?_
  refine nv_ishl (M := 128) K (by omega) rfl (by omega) d_R_sum_42 ?_
  refine nv_iadd K d_R_sum_43 ?_
  refine lv_istore (lv' := [(4, .int (nI (u7 + ((((((x / 128) % 2) + ((y / 128) % 2)) + o7) % 2) * 128)))), (7, .int (nI ((((x / 128) % 2) + ((y / 128) % 2)) + o7))), (6, .int (nI 7)), (5, .int (nI o7)), (0, .ref a.1), (1, .int (nI x)), (2, .int (nI y)), (3, .int (nI z))]) K.1 K.2.1 d_R_sum_44 hl (by decide) rfl (fun ls hl => ?_)
  refine lv_iload K.1 K.2.1 d_R_sum_46 (lv_at hl 1 rfl) ?_
  refine nv_iconst (v := 2) K d_R_sum_48 (by decide) ?_
  refine nv_idiv K (by omega) (by omega) (by omega) d_R_sum_49 ?_
  refine lv_istore (lv' := [(5, .int (nI (((((x / 128) % 2) + ((y / 128) % 2)) + o7) / 2))), (4, .int (nI (u7 + ((((((x / 128) % 2) + ((y / 128) % 2)) + o7) % 2) * 128)))), (7, .int (nI ((((x / 128) % 2) + ((y / 128) % 2)) + o7))), (6, .int (nI 7)), (0, .ref a.1), (1, .int (nI x)), (2, .int (nI y)), (3, .int (nI z))]) K.1 K.2.1 d_R_sum_50 hl (by decide) rfl (fun ls hl => ?_)
  refine lv_iload K.1 K.2.1 d_R_sum_52 (lv_at hl 3 rfl) ?_
  refine nv_iconst (v := 3) K d_R_sum_54 (by decide) ?_
  refine nv_icmp_ne K (by omega) (by omega) d_R_sum_55 rfl (fun _ => ?_) (fun h => (by omega : False).elim)
  refine lv_iinc (k := 3) (v := nI 8) (lv' := [(6, .int (nI 8)), (5, .int (nI (((((x / 128) % 2) + ((y / 128) % 2)) + o7) / 2))), (4, .int (nI (u7 + ((((((x / 128) % 2) + ((y / 128) % 2)) + o7) % 2) * 128)))), (7, .int (nI ((((x / 128) % 2) + ((y / 128) % 2)) + o7))), (0, .ref a.1), (1, .int (nI x)), (2, .int (nI y)), (3, .int (nI z))]) K.1 K.2.1 d_R_sum_64 hl rfl (nI_add _ _) (by decide) rfl (fun ls hl => ?_)
  refine lv_goto K.1 K.2.1 d_R_sum_67 rfl ?_
  have hs8 := sm_8 (x := x) (y := y) (z := z) (o := o7) (u := u7) hbo7 hbu7 hi7
  obtain ⟨o8, ho8⟩ : ∃ q, q = ((((x / 128) % 2) + ((y / 128) % 2)) + o7) / 2 := ⟨_, rfl⟩
  obtain ⟨u8, hu8⟩ : ∃ q, q = u7 + ((((((x / 128) % 2) + ((y / 128) % 2)) + o7) % 2) * 128) := ⟨_, rfl⟩
  rw [← hu8, ← ho8] at hl hs8
  obtain ⟨hbo8, hbu8, hi8⟩ := hs8
  clear ho8 hu8 hi7
  have e1 : u8 = (x + y + z) % 256 := by omega
  have z_e2 : o8 = z_g2 x y z := by unfold z_g2; split <;> omega
  refine lv_iload K.1 K.2.1 d_R_sum_9 (lv_at hl 0 rfl) ?_
  refine nv_bipush (v := 8) K d_R_sum_11 (by decide) ?_
  refine nv_icmp_ge K (by omega) (by omega) d_R_sum_13 rfl (fun _ => ?_) (fun h => (by omega : False).elim)
  refine lv_aload_n K.1 K.2.1 d_R_sum_70 rfl (lv_at hl 4 rfl) ?_
  refine lv_iload K.1 K.2.1 d_R_sum_71 (lv_at hl 1 rfl) ?_
  refine qp_c (v := o8) K hw d_R_sum_73 (fun H locs hw => ?_)
  have hO3 : z_Ok (z_s_ca (z_s_au σ o4) o8) := z_ok_ca hO2 (by omega)
  refine lv_aload_n K.1 K.2.1 d_R_sum_76 rfl (lv_at hl 4 rfl) ?_
  refine lv_iload K.1 K.2.1 d_R_sum_77 (lv_at hl 2 rfl) ?_
  refine qkv K (r_show (σ := z_s_ca (z_s_au σ o4) o8) (v := u8) l D cI a hO3 (by omega)) (cw_R_67 K (Nat.le_of_ble_eq_true rfl) (Nat.le_of_ble_eq_true rfl)) hw (va_recv (ci := 3) (q0 := 0) hw.2.2.2.1 hw.1 rfl rfl) rfl hl.1 rfl (Nat.le_of_ble_eq_true rfl) d_R_sum_79 ⟨Nat.zero_le _, Nat.zero_le _⟩ (fun H locs hw => ?_)
  have hO4 : z_Ok (z_jd (z_s_ca (z_s_au σ o4) o8) u8) := z_ok_jd hO3 (by omega)
  refine lv_iload K.1 K.2.1 d_R_sum_82 (lv_at hl 2 rfl) ?_
  exact qri K hr hlk hw (by rw [z_e3, z_e2, e1]) (by rw [e1]) d_R_sum_84

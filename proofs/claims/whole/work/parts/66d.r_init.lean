-- PortProcessorModel(): four arrays
set_option maxHeartbeats 8000000 in
set_option maxRecDepth 100000 in
theorem r_init (l : Launch) (D : va_G) (h0 : Nat) : ∀ sz : Nat, Met l y_R_init w_R_init { frames := 1, cells := 4, slots := 1544, locals := 12 } (va_Pc [.ref h0] (fun U => (U.heap.size = sz ∧ va_P D vwCl [(h0, .inr (3, [.int 0, .null, .null, .int 0, .int 0, .int 0, .int 0, .int 0, .int 0, .int 0, .int 0, .int 0, .int 0, .int 0, .long 0, .null, .null]))] U.heap ∧ va_K D vwCl [] U ∧ va_D (fun _ => True) [(h0, .inr (3, [.int 0, .null, .null, .int 0, .int 0, .int 0, .int 0, .int 0, .int 0, .int 0, .int 0, .int 0, .int 0, .int 0, .long 0, .null, .null]))]))) (va_Qv (fun u : ClassId × qAd => u.2.1 = h0) (fun u t => va_P D vwCl (qw u.1 u.2 z_0) t.heap ∧ va_K D vwCl [(u.1, .int)] t ∧ va_D (va_A [(h0, .inr (3, [.int 0, .null, .null, .int 0, .int 0, .int 0, .int 0, .int 0, .int 0, .int 0, .int 0, .int 0, .int 0, .int 0, .long 0, .null, .null]))] sz) (qw u.1 u.2 z_0)) (va_A [(h0, .inr (3, [.int 0, .null, .null, .int 0, .int 0, .int 0, .int 0, .int 0, .int 0, .int 0, .int 0, .int 0, .int 0, .int 0, .long 0, .null, .null]))] sz)) 4 1544 (va_A [(h0, .inr (3, [.int 0, .null, .null, .int 0, .int 0, .int 0, .int 0, .int 0, .int 0, .int 0, .int 0, .int 0, .int 0, .int 0, .long 0, .null, .null]))] sz) := by
  intro sz
  refine Met.ofW (cc := b_R_init) (maxL := 1) (ret := none) (by decide) rfl ?_
  intro p e s m args below meth c s₁ B hml hv
  obtain ⟨rfl, ⟨hsz, hP, hK, hD0⟩⟩ := hv
  have hts := atoms_spec (ws := w_R_init) B.pre
  have hown : s.vm.findClass "PortProcessorModel" = some m.cls := findClass_of_methodNamed B.named
  have hin : meth.name = "<init>" := (name_of_methodNamed B.named B.method).1
  have hr := B.returns
  have hlk := B.notSynchronized
  subst hsz
  have K : CallFix p m c b_R_init 1 s _ (_ :: T0) "PortProcessorModel" := ⟨B.exec, B.bytes, hml, hown, hts⟩
  have hD := hD0.self (sz := s.heap.size)
  generalize hAe : va_A [(h0, .inr (3, [.int 0, .null, .null, .int 0, .int 0, .int 0, .int 0, .int 0, .int 0, .int 0, .int 0, .int 0, .int 0, .int 0, .long 0, .null, .null]))] s.heap.size = A at hD ⊢
  have hA : ∀ q : Nat, s.heap.size ≤ q → A q := fun q h => by rw [← hAe]; exact Or.inr h
  have hS : va_S A s.heap s.heap [] := va_S.rf
  have hP : va_P D vwCl [(h0, .inr (3, [.int 0, .null, .null, .int 0, .int 0, .int 0, .int 0, .int 0, .int 0, .int 0, .int 0, .int 0, .int 0, .int 0, .long 0, .null, .null]))] s.heap := hP
  have hl := lv_entry ([.ref h0]) (n := 1) (Nat.le_of_ble_eq_true rfl)
  rw [lg_entry_eq]
  generalize (lg_sl ([.ref h0]) ++ List.replicate (1 - (lg_sl ([.ref h0])).length) Slot.unset).toArray = ls at hl ⊢
  have hl : lv_has ls 1 [(0, .ref h0)] := hl
  refine lv_aload_n K.1 K.2.1 d_R_init_0 rfl (lv_at hl 0 rfl) ?_
  refine W.objInit K.1 K.2.1 hown (hts _ (List.mem_cons_of_mem _ m_obj_R)) (hts _ (List.mem_cons_of_mem _ m_objI)) (hts _ (List.mem_cons_of_mem _ m_objC)) rfl (by rw [hml]; exact hl.1) rfl d_R_init_1 (Nat.le_of_ble_eq_true rfl) (Nat.le_of_ble_eq_true rfl) ?_
  refine W.eq (g2 := F0 m 4 ls []) rfl ?_
  refine lv_aload_n K.1 K.2.1 d_R_init_4 rfl (lv_at hl 0 rfl) ?_
  refine nv_sipush (v := 1024) K d_R_init_5 (by decide) ?_
  refine va_newa K.1 K.2.1 (hts _ (List.mem_cons_of_mem _ m_arrI)) (ty := .int) rfl hK hP hD hS hA (N' := 1024) (a0 := (1024, .inl (fun _ => 0))) (fun _ => rfl) (nI_pos (by decide)) (nI_clamp (by decide)) (by decide) (Nat.le_of_ble_eq_true rfl) (Nat.le_of_ble_eq_true rfl) d_R_init_8 (fun q1 cA H hK hP hD hS => ?_)
  have hP : va_P D vwCl [(h0, .inr (3, [.int 0, .null, .null, .int 0, .int 0, .int 0, .int 0, .int 0, .int 0, .int 0, .int 0, .int 0, .int 0, .int 0, .long 0, .null, .null])), (q1, .inl (cA, 1024, .inl (fun _ => 0)))] H := hP
  have hD : va_D A [(h0, .inr (3, [.int 0, .null, .null, .int 0, .int 0, .int 0, .int 0, .int 0, .int 0, .int 0, .int 0, .int 0, .int 0, .int 0, .long 0, .null, .null])), (q1, .inl (cA, 1024, .inl (fun _ => 0)))] := hD
  refine va_putF (D := D) (ci := 3) (v := .ref q1) (ty := .array .int) (C := "PortProcessorModel") (T := T_R) (N := 17) K.1 K.2.1 hts (fun w h => List.mem_cons_of_mem _ (in_R w h)) ty_R ok9_R nm_R hown hK hP hD hS 0 rfl rfl 1 (by decide) (hts _ (List.mem_cons_of_mem _ m_fieldLink_PortProcessorModel_7)) (fun _ h => h) rfl hin rfl (by decide +kernel) rfl rfl (Nat.le_of_ble_eq_true rfl) d_R_init_10 (fun H locs hP hD hS => ?_)
  have hP : va_P D vwCl [(h0, .inr (3, [.int 0, .ref q1, .null, .int 0, .int 0, .int 0, .int 0, .int 0, .int 0, .int 0, .int 0, .int 0, .int 0, .int 0, .long 0, .null, .null])), (q1, .inl (cA, 1024, .inl (fun _ => 0)))] H := hP
  have hD : va_D A [(h0, .inr (3, [.int 0, .ref q1, .null, .int 0, .int 0, .int 0, .int 0, .int 0, .int 0, .int 0, .int 0, .int 0, .int 0, .int 0, .long 0, .null, .null])), (q1, .inl (cA, 1024, .inl (fun _ => 0)))] := hD
  refine lv_aload_n K.1 K.2.1 d_R_init_13 rfl (lv_at hl 0 rfl) ?_
  refine nv_bipush (v := 8) K d_R_init_14 (by decide) ?_
  refine va_newa K.1 K.2.1 (hts _ (List.mem_cons_of_mem _ m_arrI)) (ty := .int) rfl hK hP hD hS hA (N' := 8) (a0 := (8, .inl (fun _ => 0))) (fun _ => rfl) (nI_pos (by decide)) (nI_clamp (by decide)) (by decide) (Nat.le_of_ble_eq_true rfl) (Nat.le_of_ble_eq_true rfl) d_R_init_16 (fun q2 c2 H hK hP hD hS => ?_)
  obtain rfl : cA = c2 := zk_same hK 0 1 rfl rfl
  have hK := hK.sub (tys' := [(cA, .int)]) [0] rfl
  have hP : va_P D vwCl [(h0, .inr (3, [.int 0, .ref q1, .null, .int 0, .int 0, .int 0, .int 0, .int 0, .int 0, .int 0, .int 0, .int 0, .int 0, .int 0, .long 0, .null, .null])), (q1, .inl (cA, 1024, .inl (fun _ => 0))), (q2, .inl (cA, 8, .inl (fun _ => 0)))] H := hP
  have hD : va_D A [(h0, .inr (3, [.int 0, .ref q1, .null, .int 0, .int 0, .int 0, .int 0, .int 0, .int 0, .int 0, .int 0, .int 0, .int 0, .int 0, .long 0, .null, .null])), (q1, .inl (cA, 1024, .inl (fun _ => 0))), (q2, .inl (cA, 8, .inl (fun _ => 0)))] := hD
  refine va_putF (D := D) (ci := 3) (v := .ref q2) (ty := .array .int) (C := "PortProcessorModel") (T := T_R) (N := 17) K.1 K.2.1 hts (fun w h => List.mem_cons_of_mem _ (in_R w h)) ty_R ok9_R nm_R hown hK hP hD hS 0 rfl rfl 2 (by decide) (hts _ (List.mem_cons_of_mem _ m_fieldLink_PortProcessorModel_13)) (fun _ h => h) rfl hin rfl (by decide +kernel) rfl rfl (Nat.le_of_ble_eq_true rfl) d_R_init_18 (fun H locs hP hD hS => ?_)
  have hP : va_P D vwCl [(h0, .inr (3, [.int 0, .ref q1, .ref q2, .int 0, .int 0, .int 0, .int 0, .int 0, .int 0, .int 0, .int 0, .int 0, .int 0, .int 0, .long 0, .null, .null])), (q1, .inl (cA, 1024, .inl (fun _ => 0))), (q2, .inl (cA, 8, .inl (fun _ => 0)))] H := hP
  have hD : va_D A [(h0, .inr (3, [.int 0, .ref q1, .ref q2, .int 0, .int 0, .int 0, .int 0, .int 0, .int 0, .int 0, .int 0, .int 0, .int 0, .int 0, .long 0, .null, .null])), (q1, .inl (cA, 1024, .inl (fun _ => 0))), (q2, .inl (cA, 8, .inl (fun _ => 0)))] := hD
  refine lv_aload_n K.1 K.2.1 d_R_init_21 rfl (lv_at hl 0 rfl) ?_
  refine lv_iconst (v := -1) K.1 K.2.1 d_R_init_22 (by decide) ?_
  refine va_put (D := D) (ci := 3) (v := .int (-1)) (ty := .int) (C := "PortProcessorModel") (T := T_R) (N := 17) K.1 K.2.1 hts (fun w h => List.mem_cons_of_mem _ (in_R w h)) ty_R ok9_R nm_R hown hK hP hD hS 0 rfl rfl 13 (by decide) (hts _ (List.mem_cons_of_mem _ m_fieldLink_PortProcessorModel_16)) (fun _ h => h) rfl (by decide +kernel) rfl rfl (Nat.le_of_ble_eq_true rfl) d_R_init_23 (fun H locs hP hD hS => ?_)
  have hP : va_P D vwCl [(h0, .inr (3, [.int 0, .ref q1, .ref q2, .int 0, .int 0, .int 0, .int 0, .int 0, .int 0, .int 0, .int 0, .int 0, .int 0, .int (-1), .long 0, .null, .null])), (q1, .inl (cA, 1024, .inl (fun _ => 0))), (q2, .inl (cA, 8, .inl (fun _ => 0)))] H := hP
  have hD : va_D A [(h0, .inr (3, [.int 0, .ref q1, .ref q2, .int 0, .int 0, .int 0, .int 0, .int 0, .int 0, .int 0, .int 0, .int 0, .int 0, .int (-1), .long 0, .null, .null])), (q1, .inl (cA, 1024, .inl (fun _ => 0))), (q2, .inl (cA, 8, .inl (fun _ => 0)))] := hD
  refine lv_aload_n K.1 K.2.1 d_R_init_26 rfl (lv_at hl 0 rfl) ?_
  refine nv_sipush (v := 256) K d_R_init_27 (by decide) ?_
  refine va_newa K.1 K.2.1 (hts _ (List.mem_cons_of_mem _ m_arrI)) (ty := .int) rfl hK hP hD hS hA (N' := 256) (a0 := (256, .inl (fun _ => 0))) (fun _ => rfl) (nI_pos (by decide)) (nI_clamp (by decide)) (by decide) (Nat.le_of_ble_eq_true rfl) (Nat.le_of_ble_eq_true rfl) d_R_init_30 (fun q3 c3 H hK hP hD hS => ?_)
  obtain rfl : cA = c3 := zk_same hK 0 1 rfl rfl
  have hK := hK.sub (tys' := [(cA, .int)]) [0] rfl
  have hP : va_P D vwCl [(h0, .inr (3, [.int 0, .ref q1, .ref q2, .int 0, .int 0, .int 0, .int 0, .int 0, .int 0, .int 0, .int 0, .int 0, .int 0, .int (-1), .long 0, .null, .null])), (q1, .inl (cA, 1024, .inl (fun _ => 0))), (q2, .inl (cA, 8, .inl (fun _ => 0))), (q3, .inl (cA, 256, .inl (fun _ => 0)))] H := hP
  have hD : va_D A [(h0, .inr (3, [.int 0, .ref q1, .ref q2, .int 0, .int 0, .int 0, .int 0, .int 0, .int 0, .int 0, .int 0, .int 0, .int 0, .int (-1), .long 0, .null, .null])), (q1, .inl (cA, 1024, .inl (fun _ => 0))), (q2, .inl (cA, 8, .inl (fun _ => 0))), (q3, .inl (cA, 256, .inl (fun _ => 0)))] := hD
  refine va_putF (D := D) (ci := 3) (v := .ref q3) (ty := .array .int) (C := "PortProcessorModel") (T := T_R) (N := 17) K.1 K.2.1 hts (fun w h => List.mem_cons_of_mem _ (in_R w h)) ty_R ok9_R nm_R hown hK hP hD hS 0 rfl rfl 15 (by decide) (hts _ (List.mem_cons_of_mem _ m_fieldLink_PortProcessorModel_20)) (fun _ h => h) rfl hin rfl (by decide +kernel) rfl rfl (Nat.le_of_ble_eq_true rfl) d_R_init_32 (fun H locs hP hD hS => ?_)
  have hP : va_P D vwCl [(h0, .inr (3, [.int 0, .ref q1, .ref q2, .int 0, .int 0, .int 0, .int 0, .int 0, .int 0, .int 0, .int 0, .int 0, .int 0, .int (-1), .long 0, .ref q3, .null])), (q1, .inl (cA, 1024, .inl (fun _ => 0))), (q2, .inl (cA, 8, .inl (fun _ => 0))), (q3, .inl (cA, 256, .inl (fun _ => 0)))] H := hP
  have hD : va_D A [(h0, .inr (3, [.int 0, .ref q1, .ref q2, .int 0, .int 0, .int 0, .int 0, .int 0, .int 0, .int 0, .int 0, .int 0, .int 0, .int (-1), .long 0, .ref q3, .null])), (q1, .inl (cA, 1024, .inl (fun _ => 0))), (q2, .inl (cA, 8, .inl (fun _ => 0))), (q3, .inl (cA, 256, .inl (fun _ => 0)))] := hD
  refine lv_aload_n K.1 K.2.1 d_R_init_35 rfl (lv_at hl 0 rfl) ?_
  refine nv_sipush (v := 256) K d_R_init_36 (by decide) ?_
  refine va_newa K.1 K.2.1 (hts _ (List.mem_cons_of_mem _ m_arrI)) (ty := .int) rfl hK hP hD hS hA (N' := 256) (a0 := (256, .inl (fun _ => 0))) (fun _ => rfl) (nI_pos (by decide)) (nI_clamp (by decide)) (by decide) (Nat.le_of_ble_eq_true rfl) (Nat.le_of_ble_eq_true rfl) d_R_init_39 (fun q4 c4 H hK hP hD hS => ?_)
  obtain rfl : cA = c4 := zk_same hK 0 1 rfl rfl
  have hK := hK.sub (tys' := [(cA, .int)]) [0] rfl
  have hP : va_P D vwCl [(h0, .inr (3, [.int 0, .ref q1, .ref q2, .int 0, .int 0, .int 0, .int 0, .int 0, .int 0, .int 0, .int 0, .int 0, .int 0, .int (-1), .long 0, .ref q3, .null])), (q1, .inl (cA, 1024, .inl (fun _ => 0))), (q2, .inl (cA, 8, .inl (fun _ => 0))), (q3, .inl (cA, 256, .inl (fun _ => 0))), (q4, .inl (cA, 256, .inl (fun _ => 0)))] H := hP
  have hD : va_D A [(h0, .inr (3, [.int 0, .ref q1, .ref q2, .int 0, .int 0, .int 0, .int 0, .int 0, .int 0, .int 0, .int 0, .int 0, .int 0, .int (-1), .long 0, .ref q3, .null])), (q1, .inl (cA, 1024, .inl (fun _ => 0))), (q2, .inl (cA, 8, .inl (fun _ => 0))), (q3, .inl (cA, 256, .inl (fun _ => 0))), (q4, .inl (cA, 256, .inl (fun _ => 0)))] := hD
  refine va_putF (D := D) (ci := 3) (v := .ref q4) (ty := .array .int) (C := "PortProcessorModel") (T := T_R) (N := 17) K.1 K.2.1 hts (fun w h => List.mem_cons_of_mem _ (in_R w h)) ty_R ok9_R nm_R hown hK hP hD hS 0 rfl rfl 16 (by decide) (hts _ (List.mem_cons_of_mem _ m_fieldLink_PortProcessorModel_23)) (fun _ h => h) rfl hin rfl (by decide +kernel) rfl rfl (Nat.le_of_ble_eq_true rfl) d_R_init_41 (fun H locs hP hD hS => ?_)
  have hP : va_P D vwCl [(h0, .inr (3, [.int 0, .ref q1, .ref q2, .int 0, .int 0, .int 0, .int 0, .int 0, .int 0, .int 0, .int 0, .int 0, .int 0, .int (-1), .long 0, .ref q3, .ref q4])), (q1, .inl (cA, 1024, .inl (fun _ => 0))), (q2, .inl (cA, 8, .inl (fun _ => 0))), (q3, .inl (cA, 256, .inl (fun _ => 0))), (q4, .inl (cA, 256, .inl (fun _ => 0)))] H := hP
  have hD : va_D A [(h0, .inr (3, [.int 0, .ref q1, .ref q2, .int 0, .int 0, .int 0, .int 0, .int 0, .int 0, .int 0, .int 0, .int 0, .int 0, .int (-1), .long 0, .ref q3, .ref q4])), (q1, .inl (cA, 1024, .inl (fun _ => 0))), (q2, .inl (cA, 8, .inl (fun _ => 0))), (q3, .inl (cA, 256, .inl (fun _ => 0))), (q4, .inl (cA, 256, .inl (fun _ => 0)))] := hD
  have em : (-1 : Int32) = nI 0 - 1 := by decide +kernel
  rw [em] at hP hD
  have hP9 : va_P D vwCl (qw cA (h0, q1, q2, q3, q4) z_0) H := hP
  have hD9 : va_D A (qw cA (h0, q1, q2, q3, q4) z_0) := hD
  exact W.vret K.1 K.2.1 hr (fun t ht hW => ⟨⟨(cA, (h0, q1, q2, q3, q4)), rfl, rfl, by rw [ht]; exact hP9, va_K.moved hW.alike hK, hD9⟩, hS.F ht⟩) hS.2.2 d_R_init_44 hlk

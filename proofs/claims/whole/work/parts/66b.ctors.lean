/-- Flags(): nothing but Object's own -/
theorem f_init (l : Launch) (h0 : Nat) : Met l y_F_init w_F_init { frames := 1, cells := 0, slots := 0, locals := 12 } (va_Pc [.ref h0] (fun _ => True)) (va_Qv (fun _ : Unit => True) (fun _ _ => True) (fun _ => False)) 0 0 (fun _ => False) := by
  refine Met.ofW (cc := b_F_init) (maxL := 1) (ret := none) (by decide) rfl ?_
  intro p e s m args below meth c s₁ B hml hv
  obtain ⟨rfl, -⟩ := hv
  have hts := atoms_spec (ws := w_F_init) B.pre
  have hown : s.vm.findClass "PortProcessor$Flags" = some m.cls := findClass_of_methodNamed B.named
  have hr := B.returns
  have hlk := B.notSynchronized
  have K : CallFix p m c b_F_init 1 s _ (_ :: T0) "PortProcessor$Flags" := ⟨B.exec, B.bytes, hml, hown, hts⟩
  have hS : va_S (fun _ => False) s.heap s.heap [] := va_S.rf
  have hl := lv_entry ([.ref h0]) (n := 1) (Nat.le_of_ble_eq_true rfl)
  rw [lg_entry_eq]
  generalize (lg_sl ([.ref h0]) ++ List.replicate (1 - (lg_sl ([.ref h0])).length) Slot.unset).toArray = ls at hl ⊢
  have hl : lv_has ls 1 [(0, .ref h0)] := hl
  refine lv_aload_n K.1 K.2.1 d_F_init_0 rfl (lv_at hl 0 rfl) ?_
  refine W.objInit K.1 K.2.1 hown (hts _ (List.mem_cons_of_mem _ m_obj_F)) (hts _ (List.mem_cons_of_mem _ m_objI)) (hts _ (List.mem_cons_of_mem _ m_objC)) rfl (by rw [hml]; exact hl.1) rfl d_F_init_1 (Nat.le_of_ble_eq_true rfl) (Nat.le_of_ble_eq_true rfl) ?_
  refine W.eq (g2 := F0 m 4 ls []) rfl ?_
  exact W.vret K.1 K.2.1 hr (fun t ht hW => ⟨⟨(), rfl, trivial, trivial⟩, hS.F ht⟩) hS.2.2 d_F_init_4 hlk
-- Memory(): its array
set_option maxHeartbeats 4000000 in
set_option maxRecDepth 100000 in
theorem m_init (l : Launch) (D : va_G) (h0 : Nat) : ∀ sz : Nat, Met l y_M_init w_M_init { frames := 1, cells := 1, slots := 1024, locals := 12 } (va_Pc [.ref h0] (fun U => (U.heap.size = sz ∧ va_P D vwCl [(h0, .inr (1, [.null]))] U.heap ∧ va_K D vwCl [] U ∧ va_D (fun _ => True) [(h0, .inr (1, [.null]))]))) (va_Qv (fun _ : ClassId × Nat => True) (fun u t => va_P D vwCl [(h0, .inr (1, [.ref u.2])), (u.2, .inl (u.1, 1024, .inl (fun _ => 0)))] t.heap ∧ va_K D vwCl [(u.1, .int)] t ∧ va_D (va_A [(h0, .inr (1, [.null]))] sz) [(h0, .inr (1, [.ref u.2])), (u.2, .inl (u.1, 1024, .inl (fun _ => 0)))]) (va_A [(h0, .inr (1, [.null]))] sz)) 1 1024 (va_A [(h0, .inr (1, [.null]))] sz) := by
  intro sz
  refine Met.ofW (cc := b_M_init) (maxL := 1) (ret := none) (by decide) rfl ?_
  intro p e s m args below meth c s₁ B hml hv
  obtain ⟨rfl, ⟨hsz, hP, hK, hD0⟩⟩ := hv
  have hts := atoms_spec (ws := w_M_init) B.pre
  have hown : s.vm.findClass "PortProcessor$Memory" = some m.cls := findClass_of_methodNamed B.named
  have hin : meth.name = "<init>" := (name_of_methodNamed B.named B.method).1
  have hr := B.returns
  have hlk := B.notSynchronized
  subst hsz
  have K : CallFix p m c b_M_init 1 s _ (_ :: T0) "PortProcessor$Memory" := ⟨B.exec, B.bytes, hml, hown, hts⟩
  have hD := hD0.self (sz := s.heap.size)
  generalize hAe : va_A [(h0, .inr (1, [.null]))] s.heap.size = A at hD ⊢
  have hA : ∀ q : Nat, s.heap.size ≤ q → A q := fun q h => by rw [← hAe]; exact Or.inr h
  have hS : va_S A s.heap s.heap [] := va_S.rf
  have hP : va_P D vwCl [(h0, .inr (1, [.null]))] s.heap := hP
  have hl := lv_entry ([.ref h0]) (n := 1) (Nat.le_of_ble_eq_true rfl)
  rw [lg_entry_eq]
  generalize (lg_sl ([.ref h0]) ++ List.replicate (1 - (lg_sl ([.ref h0])).length) Slot.unset).toArray = ls at hl ⊢
  have hl : lv_has ls 1 [(0, .ref h0)] := hl
  refine lv_aload_n K.1 K.2.1 d_M_init_0 rfl (lv_at hl 0 rfl) ?_
  refine W.objInit K.1 K.2.1 hown (hts _ (List.mem_cons_of_mem _ m_obj_M)) (hts _ (List.mem_cons_of_mem _ m_objI)) (hts _ (List.mem_cons_of_mem _ m_objC)) rfl (by rw [hml]; exact hl.1) rfl d_M_init_1 (Nat.le_of_ble_eq_true rfl) (Nat.le_of_ble_eq_true rfl) ?_
  refine W.eq (g2 := F0 m 4 ls []) rfl ?_
  refine lv_aload_n K.1 K.2.1 d_M_init_4 rfl (lv_at hl 0 rfl) ?_
  refine nv_sipush (v := 1024) K d_M_init_5 (by decide) ?_
  refine va_newa K.1 K.2.1 (hts _ (List.mem_cons_of_mem _ m_arrI)) (ty := .int) rfl hK hP hD hS hA (N' := 1024) (a0 := (1024, .inl (fun _ => 0))) (fun _ => rfl) (nI_pos (by decide)) (nI_clamp (by decide)) (by decide) (Nat.le_of_ble_eq_true rfl) (Nat.le_of_ble_eq_true rfl) d_M_init_8 (fun q1 cA H hK hP hD hS => ?_)
  have hP : va_P D vwCl [(h0, .inr (1, [.null])), (q1, .inl (cA, 1024, .inl (fun _ => 0)))] H := hP
  have hD : va_D A [(h0, .inr (1, [.null])), (q1, .inl (cA, 1024, .inl (fun _ => 0)))] := hD
  refine va_putF (D := D) (ci := 1) (v := .ref q1) (ty := .array .int) (C := "PortProcessor$Memory") (T := T_M) (N := 1) K.1 K.2.1 hts (fun w h => List.mem_cons_of_mem _ (in_M w h)) ty_M ok9_M nm_M hown hK hP hD hS 0 rfl rfl 0 (by decide) (hts _ (List.mem_cons_of_mem _ m_fieldLink_PortProcessor_Memory_11)) (fun _ h => h) rfl hin rfl (by decide +kernel) rfl rfl (Nat.le_of_ble_eq_true rfl) d_M_init_10 (fun H locs hP hD hS => ?_)
  have hP : va_P D vwCl [(h0, .inr (1, [.ref q1])), (q1, .inl (cA, 1024, .inl (fun _ => 0)))] H := hP
  have hD : va_D A [(h0, .inr (1, [.ref q1])), (q1, .inl (cA, 1024, .inl (fun _ => 0)))] := hD
  exact W.vret K.1 K.2.1 hr (fun t ht hW => ⟨⟨(cA, q1), rfl, trivial, by rw [ht]; exact hP, va_K.moved hW.alike hK, hD⟩, hS.F ht⟩) hS.2.2 d_M_init_13 hlk

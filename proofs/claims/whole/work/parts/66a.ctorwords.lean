theorem m_obj_M : Cond.methodLink "PortProcessor$Memory" 3 Lib.objectInit ∈ T0 := zz_in (List.mem_append_right _ (List.mem_of_getElem? (i := 23) rfl)) rfl
theorem m_obj_F : Cond.methodLink "PortProcessor$Flags" 3 Lib.objectInit ∈ T0 := zz_in (List.mem_append_right _ (List.mem_of_getElem? (i := 34) rfl)) rfl
theorem m_obj_P : Cond.methodLink "PortProcessor" 1 Lib.objectInit ∈ T0 := zz_in (List.mem_append_right _ (List.mem_of_getElem? (i := 15) rfl)) rfl
theorem m_obj_R : Cond.methodLink "PortProcessorModel" 1 Lib.objectInit ∈ T0 := zz_in (List.mem_append_right _ (List.mem_append_right _ (List.mem_append_right _ (List.mem_of_getElem? (i := 0) rfl)))) rfl
theorem m_objI : Cond.instanceMethod Lib.objectInit ∈ T0 := zz_in (List.mem_append_right _ (List.mem_of_getElem? (i := 16) rfl)) rfl
theorem m_objC : Cond.code Lib.objectInit ⟨#[0xb1]⟩ 1 none ∈ T0 := zz_in (List.mem_append_right _ (List.mem_of_getElem? (i := 17) rfl)) rfl
theorem m_arrI : Cond.arrayClass (newarray.typeOf .int) ∈ T0 := zz_in (List.mem_append_right _ (List.mem_of_getElem? (i := 28) rfl)) rfl
theorem m_arrJ : Cond.arrayClass (newarray.typeOf .long) ∈ T0 := zz_in (List.mem_append_right _ (List.mem_append_right _ (List.mem_append_right _ (List.mem_of_getElem? (i := 217) rfl)))) rfl
theorem m_new_M : Cond.classLink "PortProcessor" 7 "PortProcessor$Memory" ∈ T0 := zz_in (List.mem_append_right _ (List.mem_of_getElem? (i := 18) rfl)) rfl
theorem m_ins_M : Cond.instantiable "PortProcessor$Memory" 1 ∈ T0 := zz_in (List.mem_append_right _ (List.mem_of_getElem? (i := 19) rfl)) rfl
theorem m_ini_M : Cond.initialized "PortProcessor$Memory" ∈ T0 := zz_in (List.mem_append_right _ (List.mem_of_getElem? (i := 2) rfl)) rfl
theorem m_im_M : Cond.instanceMethod y_M_init ∈ T0 := zz_in (List.mem_append_right _ (List.mem_of_getElem? (i := 21) rfl)) rfl
theorem m_new_F : Cond.classLink "PortProcessor" 16 "PortProcessor$Flags" ∈ T0 := zz_in (List.mem_append_right _ (List.mem_of_getElem? (i := 29) rfl)) rfl
theorem m_ins_F : Cond.instantiable "PortProcessor$Flags" 5 ∈ T0 := zz_in (List.mem_append_right _ (List.mem_of_getElem? (i := 30) rfl)) rfl
theorem m_ini_F : Cond.initialized "PortProcessor$Flags" ∈ T0 := zz_in (List.mem_append_right _ (List.mem_of_getElem? (i := 3) rfl)) rfl
theorem m_im_F : Cond.instanceMethod y_F_init ∈ T0 := zz_in (List.mem_append_right _ (List.mem_of_getElem? (i := 32) rfl)) rfl
theorem m_new_P : Cond.classLink "PortProcessorLaw" 8 "PortProcessor" ∈ T0 := zz_in (List.mem_append_right _ (List.mem_of_getElem? (i := 10) rfl)) rfl
theorem m_ins_P : Cond.instantiable "PortProcessor" 12 ∈ T0 := zz_in (List.mem_append_right _ (List.mem_of_getElem? (i := 11) rfl)) rfl
theorem m_ini_P : Cond.initialized "PortProcessor" ∈ T0 := zz_in (List.mem_append_right _ (List.mem_of_getElem? (i := 1) rfl)) rfl
theorem m_im_P : Cond.instanceMethod y_P_init ∈ T0 := zz_in (List.mem_append_right _ (List.mem_of_getElem? (i := 13) rfl)) rfl
theorem m_new_R : Cond.classLink "PortProcessorLaw" 47 "PortProcessorModel" ∈ T0 := zz_in (List.mem_append_right _ (List.mem_of_getElem? (i := 475) rfl)) rfl
theorem m_ins_R : Cond.instantiable "PortProcessorModel" 17 ∈ T0 := zz_in (List.mem_append_right _ (List.mem_of_getElem? (i := 476) rfl)) rfl
theorem m_ini_R : Cond.initialized "PortProcessorModel" ∈ T0 := zz_in (List.mem_append_right _ (List.mem_of_getElem? (i := 4) rfl)) rfl
theorem m_im_R : Cond.instanceMethod y_R_init ∈ T0 := zz_in (List.mem_append_right _ (List.mem_of_getElem? (i := 478) rfl)) rfl
theorem m_ml_P : Cond.methodLink "PortProcessorLaw" 46 y_P_init ∈ T0 := zz_in (List.mem_append_right _ (List.mem_of_getElem? (i := 12) rfl)) rfl
theorem m_ml_R : Cond.methodLink "PortProcessorLaw" 49 y_R_init ∈ T0 := zz_in (List.mem_append_right _ (List.mem_of_getElem? (i := 477) rfl)) rfl
theorem zz_gm {c0 w0 : Cond} (h5 : w0 ∈ T0) : GoodIn (c0 :: T0) (w0 :: T0) := by
  intro w hw
  have h : w ∈ T0 := by
    rcases List.mem_cons.mp hw with rfl | hw
    · exact h5
    · exact hw
  exact ⟨List.mem_cons_of_mem _ h, good_of_word (List.mem_filter.mp h).2⟩
theorem zk_same {D : va_G} {tys : List (ClassId × FieldType)} {U : State} {c1 c2 : ClassId} (hK : va_K D vwCl tys U) (i j : Nat) (h1 : tys[i]? = some (c1, .int)) (h2 : tys[j]? = some (c2, .int)) : c1 = c2 := by
  have e1 : U.vm.findClass ("[" ++ FieldType.int.toString) = some c1 := (hK.2 i _ h1).2
  have z_e2 : U.vm.findClass ("[" ++ FieldType.int.toString) = some c2 := (hK.2 j _ h2).2
  exact Option.some.inj (e1.symm.trans z_e2)
theorem vp_cong (cA : ClassId) (n : Nat) {f g : Nat → Int32} (h : ∀ j, j < n → f j = g j) : vp_cell cA (n, .inl f) = vp_cell cA (n, .inl g) := by
  rw [vp_cell_i, vp_cell_i]
  have e : (Array.ofFn (n := n) fun j => Value.int (f j.val)) = Array.ofFn (n := n) fun j => Value.int (g j.val) := congrArg Array.ofFn (funext fun j => by rw [h j.val j.isLt])
  unfold arrV
  rw [e]
theorem zv_Dc {A : Nat → Prop} {w1 w2 : va_W} (h : va_D A w1) (e : w1.map Prod.fst = w2.map Prod.fst) : va_D A w2 := by
  have key : ∀ (i : Nat) (p : Nat × va_E), w2[i]? = some p → ∃ p' : Nat × va_E, w1[i]? = some p' ∧ p'.1 = p.1 := by
    intro i p hp
    have h1 : (w1.map Prod.fst)[i]? = some p.1 := by rw [e, List.getElem?_map, hp]; rfl
    rw [List.getElem?_map] at h1
    cases hq : w1[i]? with
    | none => rw [hq] at h1; cases h1
    | some p' => rw [hq] at h1; exact ⟨p', rfl, Option.some.inj h1⟩
  refine ⟨fun i j p q hi hj hpq => ?_, fun k q hk => ?_⟩
  · obtain ⟨p', h1, e1⟩ := key i p hi
    obtain ⟨q', h2, z_e2⟩ := key j q hj
    exact h.1 i j p' q' h1 h2 (by rw [e1, z_e2, hpq])
  · obtain ⟨q', h1, e1⟩ := key k q hk
    rw [← e1]
    exact h.2 k q' h1

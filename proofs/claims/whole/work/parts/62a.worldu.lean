/-! a world of any cells: cut a callee's cells out of it, put back what came -/
def uW (D : va_G) (tys : List (ClassId × FieldType)) (A : Nat → Prop) (ws : va_W) (s : State) (H : Heap) (locs : List Loc) : Prop := va_P D vwCl ws H ∧ va_D A ws ∧ va_S A s.heap H locs ∧ va_K D vwCl tys s ∧ ∀ q, s.heap.size ≤ q → A q
theorem u_fm : ∀ (is : List Nat) {ws wc : va_W}, is.map (fun i => ws[i]?) = wc.map some → is.filterMap (fun i => ws[i]?) = wc
  | [], _, [], _ => rfl
  | [], _, _ :: _, h => by cases h
  | _ :: _, _, [], h => by cases h
  | i :: is, ws, q :: wc, h => by
    have h1 : ws[i]? = some q := (List.cons.inj h).1
    have h2 := u_fm is (ws := ws) (wc := wc) (List.cons.inj h).2
    rw [List.filterMap_cons, h1]
    show q :: _ = _
    rw [h2]
theorem upA {cI : ClassId} {a : pAd} {σ : z_St} {sz q : Nat} : pA a sz q ↔ va_A (pw cI a σ) sz q := by
  constructor
  · intro h
    rcases h with rfl | rfl | rfl | rfl | rfl | rfl | rfl | h
    · exact Or.inl ⟨0, _, rfl⟩
    · exact Or.inl ⟨1, _, rfl⟩
    · exact Or.inl ⟨2, _, rfl⟩
    · exact Or.inl ⟨3, _, rfl⟩
    · exact Or.inl ⟨4, _, rfl⟩
    · exact Or.inl ⟨5, _, rfl⟩
    · exact Or.inl ⟨6, _, rfl⟩
    · exact Or.inr h
  · intro h
    rcases h with ⟨k, e, hk⟩ | h
    · rcases k with _ | _ | _ | _ | _ | _ | _ | k
      · exact Or.inl (congrArg Prod.fst (Option.some.inj hk)).symm
      · exact Or.inr (Or.inl (congrArg Prod.fst (Option.some.inj hk)).symm)
      · exact Or.inr (Or.inr (Or.inl (congrArg Prod.fst (Option.some.inj hk)).symm))
      · exact Or.inr (Or.inr (Or.inr (Or.inl (congrArg Prod.fst (Option.some.inj hk)).symm)))
      · exact Or.inr (Or.inr (Or.inr (Or.inr (Or.inl (congrArg Prod.fst (Option.some.inj hk)).symm))))
      · exact Or.inr (Or.inr (Or.inr (Or.inr (Or.inr (Or.inl (congrArg Prod.fst (Option.some.inj hk)).symm)))))
      · exact Or.inr (Or.inr (Or.inr (Or.inr (Or.inr (Or.inr (Or.inl (congrArg Prod.fst (Option.some.inj hk)).symm))))))
      · exact absurd hk (by simp [pw])
    · unfold pA; simp [h]
theorem uqA {cI : ClassId} {a : qAd} {σ : z_St} {sz q : Nat} : qA a sz q ↔ va_A (qw cI a σ) sz q := by
  constructor
  · intro h
    rcases h with rfl | rfl | rfl | rfl | rfl | h
    · exact Or.inl ⟨0, _, rfl⟩
    · exact Or.inl ⟨1, _, rfl⟩
    · exact Or.inl ⟨2, _, rfl⟩
    · exact Or.inl ⟨3, _, rfl⟩
    · exact Or.inl ⟨4, _, rfl⟩
    · exact Or.inr h
  · intro h
    rcases h with ⟨k, e, hk⟩ | h
    · rcases k with _ | _ | _ | _ | _ | k
      · exact Or.inl (congrArg Prod.fst (Option.some.inj hk)).symm
      · exact Or.inr (Or.inl (congrArg Prod.fst (Option.some.inj hk)).symm)
      · exact Or.inr (Or.inr (Or.inl (congrArg Prod.fst (Option.some.inj hk)).symm))
      · exact Or.inr (Or.inr (Or.inr (Or.inl (congrArg Prod.fst (Option.some.inj hk)).symm)))
      · exact Or.inr (Or.inr (Or.inr (Or.inr (Or.inl (congrArg Prod.fst (Option.some.inj hk)).symm))))
      · exact absurd hk (by simp [qw])
    · unfold qA; simp [h]
section
variable {D : va_G} {tys : List (ClassId × FieldType)} {A A1 : Nat → Prop} {ws wc wq w1 wx : va_W} {s : State} {H H1 : Heap} {locs locs1 : List Loc}
theorem uW.cut (hw : uW D tys A ws s H locs) (isC : List Nat) (hC : isC.map (fun i => ws[i]?) = wc.map some) (hCn : va_nd isC = true) : va_P D vwCl wc H ∧ va_D A wc ∧ ∀ q, va_A wc H.size q → A q := ⟨hw.1.sub isC (u_fm isC hC), hw.2.1.sub isC hCn hC, va_free hw.2.1 hw.2.2.1 hw.2.2.2.2 isC hC⟩
theorem uW.join (hw : uW D tys A ws s H locs) (isC isR js : List Nat) (hC : isC.map (fun i => ws[i]?) = wc.map some) (hR : isR.map (fun i => ws[i]?) = wq.map some) (hn : va_nd isR = true) (hdis : ∀ i ∈ isR, i ∉ isC) (hJ : js.map (fun i => (wq ++ w1)[i]?) = wx.map some) (hJn : va_nd js = true)
    (hA1 : ∀ q, A1 q ↔ va_A wc H.size q) (hk : ∀ q : Nat, q < H.size → ¬ A1 q → H1[q]? = H[q]?) (hP1 : va_P D vwCl w1 H1) (hD1 : va_D A1 w1) (hS : va_S A s.heap H1 locs1) : uW D tys A wx s H1 locs1 := by
  obtain ⟨hP, hD⟩ := va_join hw.1 hw.2.1 isC isR hC hR hn hdis (fun q h1 h2 => hk q h1 (fun z => h2 ((hA1 q).mp z))) (va_free hw.2.1 hw.2.2.1 hw.2.2.2.2 isC hC) hP1 (hD1.weaken (fun _ q _ h => (hA1 _).mp h))
  exact ⟨hP.sub js (u_fm js hJ), hD.sub js hJn hJ, hS, hw.2.2.2.1, hw.2.2.2.2⟩
end
-- the class's object with the law's array; the class's, the reference's and the array
abbrev oE (o : Nat) (cJ : ClassId) (f : Nat → Int64) : Nat × va_E := (o, .inl (cJ, 1, .inr (.inl f)))
def kw (cI cJ : ClassId) (a : pAd) (o : Nat) (σ : z_St) (f : Nat → Int64) : va_W := pw cI a σ ++ [oE o cJ f]
def jw (cI cJ : ClassId) (a : pAd) (b : qAd) (o : Nat) (σ τ : z_St) (f : Nat → Int64) : va_W := pw cI a σ ++ qw cI b τ ++ [oE o cJ f]
abbrev kW (D : va_G) (cI cJ : ClassId) (A : Nat → Prop) (a : pAd) (o : Nat) (σ : z_St) (f : Nat → Int64) (s : State) (H : Heap) (locs : List Loc) : Prop := uW D [(cI, .int), (cJ, .long)] A (kw cI cJ a o σ f) s H locs
abbrev jW (D : va_G) (cI cJ : ClassId) (A : Nat → Prop) (a : pAd) (b : qAd) (o : Nat) (σ τ : z_St) (f : Nat → Int64) (s : State) (H : Heap) (locs : List Loc) : Prop := uW D [(cI, .int), (cJ, .long)] A (jw cI cJ a b o σ τ f) s H locs

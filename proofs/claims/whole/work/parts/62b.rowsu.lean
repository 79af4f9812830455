section
variable {p : Program} {l : Launch} {e : Env} {R : Room} {s : State} {m : MethodId} {args : Array Value} {below : List Frame} {meth : Method} {c : Code} {H : Heap} {locs : List Loc} {cells slots : Nat} {Q : State → Prop} {cc : ByteArray} {nL : Nat} {Ts : List Cond} {own : String} {pc : Nat} {ls : Array Slot} {rest : List Value} {D : va_G} {cI cJ : ClassId} {A : Nat → Prop} {a : pAd} {b : qAd} {o : Nat} {σ σ' σ0 τ0 : z_St} {f : Nat → Int64}
theorem kpi {y : MethodName} {ws0 : List Cond} {fr lo idx maxL n : Nat} {bytes : ByteArray} {ret : Option FieldType} {as st0 : List Value} {r : Int32} (K : CallFix p m c cc nL s args Ts own) (hM : pCi l y ws0 fr lo D cI a (.ref a.1 :: as) σ σ' r) (cw : CallW R s args own "PortProcessor" idx y bytes maxL ret ws0 (rmz fr lo) 0 0 n) (hw : kW D cI cJ A a o σ f s H locs) (hn : as.length = n) (hl : ls.size = nL) (hst : st0 = as.reverse ++ .ref a.1 :: rest) (hroom : (rest.map fun v => v.category).sum ≤ 8) (hd : decode cc pc = .ok (.invokevirtual idx, 3)) (hf : cells ≤ R.cells ∧ slots ≤ R.slots) (k : ∀ (H : Heap) (locs : List Loc), kW D cI cJ A a o σ' f s H locs → W p l e R s m args below meth c H locs cells slots Q (F0 m (pc + 3) ls (.int r :: rest))) : W p l e R s m args below meth c H locs cells slots Q (F0 m pc ls st0) := by
  obtain ⟨hPc, hDc, hF⟩ := hw.cut (wc := pw cI a σ) [0, 1, 2, 3, 4, 5, 6] rfl rfl
  have hA : ∀ q, pA a H.size q → A q := fun q h => hF q (upA.mp h)
  refine va_calli (va_runV K (hM H.size) cw ⟨pblind, va_recv (ci := 0) (q0 := 0) hw.2.2.2.1 hw.1 rfl rfl, fun U hU hW => ⟨rfl, by rw [hU], by rw [hU]; exact hPc, va_K.moved hW.alike (hw.2.2.2.1.sub [0] rfl), hDc.weaken (fun _ _ _ _ => trivial)⟩⟩ rfl hn hl hst (lv_room hroom) hd hf) hw.2.2.1 (fun q _ h => hA q h) hA (fun r1 u t H1 locs1 ht hvm hq hB hz hk hS => ?_)
  obtain ⟨hP1, -, hD1⟩ := hB
  rw [ht] at hP1
  have hw2 : kW D cI cJ A a o σ' f s H1 locs1 := hw.join [0, 1, 2, 3, 4, 5, 6] [7] [1, 2, 3, 4, 5, 6, 7, 0] (wc := pw cI a σ) (wq := [oE o cJ f]) rfl rfl rfl (by decide) rfl rfl (fun q => upA) hk hP1 hD1 hS
  subst hq; exact k H1 locs1 hw2

theorem kpv {y : MethodName} {ws0 : List Cond} {fr lo idx maxL n : Nat} {bytes : ByteArray} {ret : Option FieldType} {as st0 : List Value} (K : CallFix p m c cc nL s args Ts own) (hM : pCv l y ws0 fr lo D cI a (.ref a.1 :: as) σ σ') (cw : CallW R s args own "PortProcessor" idx y bytes maxL ret ws0 (rmz fr lo) 0 0 n) (hw : kW D cI cJ A a o σ f s H locs) (hn : as.length = n) (hl : ls.size = nL) (hst : st0 = as.reverse ++ .ref a.1 :: rest) (hroom : (rest.map fun v => v.category).sum ≤ 8) (hd : decode cc pc = .ok (.invokevirtual idx, 3)) (hf : cells ≤ R.cells ∧ slots ≤ R.slots) (k : ∀ (H : Heap) (locs : List Loc), kW D cI cJ A a o σ' f s H locs → W p l e R s m args below meth c H locs cells slots Q (F0 m (pc + 3) ls (rest))) : W p l e R s m args below meth c H locs cells slots Q (F0 m pc ls st0) := by
  obtain ⟨hPc, hDc, hF⟩ := hw.cut (wc := pw cI a σ) [0, 1, 2, 3, 4, 5, 6] rfl rfl
  have hA : ∀ q, pA a H.size q → A q := fun q h => hF q (upA.mp h)
  refine va_callv (va_runV K (hM H.size) cw ⟨pblind, va_recv (ci := 0) (q0 := 0) hw.2.2.2.1 hw.1 rfl rfl, fun U hU hW => ⟨rfl, by rw [hU], by rw [hU]; exact hPc, va_K.moved hW.alike (hw.2.2.2.1.sub [0] rfl), hDc.weaken (fun _ _ _ _ => trivial)⟩⟩ rfl hn hl hst (lv_room hroom) hd hf) hw.2.2.1 (fun q _ h => hA q h) hA (fun u t H1 locs1 ht hvm hq hB hz hk hS => ?_)
  obtain ⟨hP1, -, hD1⟩ := hB
  rw [ht] at hP1
  have hw2 : kW D cI cJ A a o σ' f s H1 locs1 := hw.join [0, 1, 2, 3, 4, 5, 6] [7] [1, 2, 3, 4, 5, 6, 7, 0] (wc := pw cI a σ) (wq := [oE o cJ f]) rfl rfl rfl (by decide) rfl rfl (fun q => upA) hk hP1 hD1 hS
  exact k H1 locs1 hw2

theorem jqi {y : MethodName} {ws0 : List Cond} {fr lo idx maxL n : Nat} {bytes : ByteArray} {ret : Option FieldType} {as st0 : List Value} {r : Int32} (K : CallFix p m c cc nL s args Ts own) (hM : qCi l y ws0 fr lo D cI b (.ref b.1 :: as) σ σ' r) (cw : CallW R s args own "PortProcessorModel" idx y bytes maxL ret ws0 (rmz fr lo) 0 0 n) (hw : jW D cI cJ A a b o σ0 σ f s H locs) (hn : as.length = n) (hl : ls.size = nL) (hst : st0 = as.reverse ++ .ref b.1 :: rest) (hroom : (rest.map fun v => v.category).sum ≤ 8) (hd : decode cc pc = .ok (.invokevirtual idx, 3)) (hf : cells ≤ R.cells ∧ slots ≤ R.slots) (k : ∀ (H : Heap) (locs : List Loc), jW D cI cJ A a b o σ0 σ' f s H locs → W p l e R s m args below meth c H locs cells slots Q (F0 m (pc + 3) ls (.int r :: rest))) : W p l e R s m args below meth c H locs cells slots Q (F0 m pc ls st0) := by
  obtain ⟨hPc, hDc, hF⟩ := hw.cut (wc := qw cI b σ) [7, 8, 9, 10, 11] rfl rfl
  have hA : ∀ q, qA b H.size q → A q := fun q h => hF q (uqA.mp h)
  refine va_calli (va_runV K (hM H.size) cw ⟨qblind, va_recv (ci := 3) (q0 := 7) hw.2.2.2.1 hw.1 rfl rfl, fun U hU hW => ⟨rfl, by rw [hU], by rw [hU]; exact hPc, va_K.moved hW.alike (hw.2.2.2.1.sub [0] rfl), hDc.weaken (fun _ _ _ _ => trivial)⟩⟩ rfl hn hl hst (lv_room hroom) hd hf) hw.2.2.1 (fun q _ h => hA q h) hA (fun r1 u t H1 locs1 ht hvm hq hB hz hk hS => ?_)
  obtain ⟨hP1, -, hD1⟩ := hB
  rw [ht] at hP1
  have hw2 : jW D cI cJ A a b o σ0 σ' f s H1 locs1 := hw.join [7, 8, 9, 10, 11] [0, 1, 2, 3, 4, 5, 6, 12] [0, 1, 2, 3, 4, 5, 6, 8, 9, 10, 11, 12, 7] (wc := qw cI b σ) (wq := pw cI a σ0 ++ [oE o cJ f]) rfl rfl rfl (by decide) rfl rfl (fun q => uqA) hk hP1 hD1 hS
  subst hq; exact k H1 locs1 hw2

theorem jqv {y : MethodName} {ws0 : List Cond} {fr lo idx maxL n : Nat} {bytes : ByteArray} {ret : Option FieldType} {as st0 : List Value} (K : CallFix p m c cc nL s args Ts own) (hM : qCv l y ws0 fr lo D cI b (.ref b.1 :: as) σ σ') (cw : CallW R s args own "PortProcessorModel" idx y bytes maxL ret ws0 (rmz fr lo) 0 0 n) (hw : jW D cI cJ A a b o σ0 σ f s H locs) (hn : as.length = n) (hl : ls.size = nL) (hst : st0 = as.reverse ++ .ref b.1 :: rest) (hroom : (rest.map fun v => v.category).sum ≤ 8) (hd : decode cc pc = .ok (.invokevirtual idx, 3)) (hf : cells ≤ R.cells ∧ slots ≤ R.slots) (k : ∀ (H : Heap) (locs : List Loc), jW D cI cJ A a b o σ0 σ' f s H locs → W p l e R s m args below meth c H locs cells slots Q (F0 m (pc + 3) ls (rest))) : W p l e R s m args below meth c H locs cells slots Q (F0 m pc ls st0) := by
  obtain ⟨hPc, hDc, hF⟩ := hw.cut (wc := qw cI b σ) [7, 8, 9, 10, 11] rfl rfl
  have hA : ∀ q, qA b H.size q → A q := fun q h => hF q (uqA.mp h)
  refine va_callv (va_runV K (hM H.size) cw ⟨qblind, va_recv (ci := 3) (q0 := 7) hw.2.2.2.1 hw.1 rfl rfl, fun U hU hW => ⟨rfl, by rw [hU], by rw [hU]; exact hPc, va_K.moved hW.alike (hw.2.2.2.1.sub [0] rfl), hDc.weaken (fun _ _ _ _ => trivial)⟩⟩ rfl hn hl hst (lv_room hroom) hd hf) hw.2.2.1 (fun q _ h => hA q h) hA (fun u t H1 locs1 ht hvm hq hB hz hk hS => ?_)
  obtain ⟨hP1, -, hD1⟩ := hB
  rw [ht] at hP1
  have hw2 : jW D cI cJ A a b o σ0 σ' f s H1 locs1 := hw.join [7, 8, 9, 10, 11] [0, 1, 2, 3, 4, 5, 6, 12] [0, 1, 2, 3, 4, 5, 6, 8, 9, 10, 11, 12, 7] (wc := qw cI b σ) (wq := pw cI a σ0 ++ [oE o cJ f]) rfl rfl rfl (by decide) rfl rfl (fun q => uqA) hk hP1 hD1 hS
  exact k H1 locs1 hw2

theorem jql {y : MethodName} {ws0 : List Cond} {fr lo idx maxL n : Nat} {bytes : ByteArray} {ret : Option FieldType} {as st0 : List Value} {r : Int64} (K : CallFix p m c cc nL s args Ts own) (hM : qCl l y ws0 fr lo D cI b (.ref b.1 :: as) σ σ' r) (cw : CallW R s args own "PortProcessorModel" idx y bytes maxL ret ws0 (rmz fr lo) 0 0 n) (hw : jW D cI cJ A a b o σ0 σ f s H locs) (hn : as.length = n) (hl : ls.size = nL) (hst : st0 = as.reverse ++ .ref b.1 :: rest) (hroom : (rest.map fun v => v.category).sum ≤ 8) (hd : decode cc pc = .ok (.invokevirtual idx, 3)) (hf : cells ≤ R.cells ∧ slots ≤ R.slots) (k : ∀ (H : Heap) (locs : List Loc), jW D cI cJ A a b o σ0 σ' f s H locs → W p l e R s m args below meth c H locs cells slots Q (F0 m (pc + 3) ls (.long r :: rest))) : W p l e R s m args below meth c H locs cells slots Q (F0 m pc ls st0) := by
  obtain ⟨hPc, hDc, hF⟩ := hw.cut (wc := qw cI b σ) [7, 8, 9, 10, 11] rfl rfl
  have hA : ∀ q, qA b H.size q → A q := fun q h => hF q (uqA.mp h)
  refine va_calll (va_runV K (hM H.size) cw ⟨qblind, va_recv (ci := 3) (q0 := 7) hw.2.2.2.1 hw.1 rfl rfl, fun U hU hW => ⟨rfl, by rw [hU], by rw [hU]; exact hPc, va_K.moved hW.alike (hw.2.2.2.1.sub [0] rfl), hDc.weaken (fun _ _ _ _ => trivial)⟩⟩ rfl hn hl hst (lv_room hroom) hd hf) hw.2.2.1 (fun q _ h => hA q h) hA (fun r1 u t H1 locs1 ht hvm hq hB hz hk hS => ?_)
  obtain ⟨hP1, -, hD1⟩ := hB
  rw [ht] at hP1
  have hw2 : jW D cI cJ A a b o σ0 σ' f s H1 locs1 := hw.join [7, 8, 9, 10, 11] [0, 1, 2, 3, 4, 5, 6, 12] [0, 1, 2, 3, 4, 5, 6, 8, 9, 10, 11, 12, 7] (wc := qw cI b σ) (wq := pw cI a σ0 ++ [oE o cJ f]) rfl rfl rfl (by decide) rfl rfl (fun q => uqA) hk hP1 hD1 hS
  subst hq; exact k H1 locs1 hw2

theorem jpl {y : MethodName} {ws0 : List Cond} {fr lo idx maxL n : Nat} {bytes : ByteArray} {ret : Option FieldType} {as st0 : List Value} {r : Int64} (K : CallFix p m c cc nL s args Ts own) (hM : pCl l y ws0 fr lo D cI a (.ref a.1 :: as) σ σ' r) (cw : CallW R s args own "PortProcessor" idx y bytes maxL ret ws0 (rmz fr lo) 0 0 n) (hw : jW D cI cJ A a b o σ τ0 f s H locs) (hn : as.length = n) (hl : ls.size = nL) (hst : st0 = as.reverse ++ .ref a.1 :: rest) (hroom : (rest.map fun v => v.category).sum ≤ 8) (hd : decode cc pc = .ok (.invokevirtual idx, 3)) (hf : cells ≤ R.cells ∧ slots ≤ R.slots) (k : ∀ (H : Heap) (locs : List Loc), jW D cI cJ A a b o σ' τ0 f s H locs → W p l e R s m args below meth c H locs cells slots Q (F0 m (pc + 3) ls (.long r :: rest))) : W p l e R s m args below meth c H locs cells slots Q (F0 m pc ls st0) := by
  obtain ⟨hPc, hDc, hF⟩ := hw.cut (wc := pw cI a σ) [0, 1, 2, 3, 4, 5, 6] rfl rfl
  have hA : ∀ q, pA a H.size q → A q := fun q h => hF q (upA.mp h)
  refine va_calll (va_runV K (hM H.size) cw ⟨pblind, va_recv (ci := 0) (q0 := 0) hw.2.2.2.1 hw.1 rfl rfl, fun U hU hW => ⟨rfl, by rw [hU], by rw [hU]; exact hPc, va_K.moved hW.alike (hw.2.2.2.1.sub [0] rfl), hDc.weaken (fun _ _ _ _ => trivial)⟩⟩ rfl hn hl hst (lv_room hroom) hd hf) hw.2.2.1 (fun q _ h => hA q h) hA (fun r1 u t H1 locs1 ht hvm hq hB hz hk hS => ?_)
  obtain ⟨hP1, -, hD1⟩ := hB
  rw [ht] at hP1
  have hw2 : jW D cI cJ A a b o σ' τ0 f s H1 locs1 := hw.join [0, 1, 2, 3, 4, 5, 6] [7, 8, 9, 10, 11, 12] [6, 7, 8, 9, 10, 11, 12, 0, 1, 2, 3, 4, 5] (wc := pw cI a σ) (wq := qw cI b τ0 ++ [oE o cJ f]) rfl rfl rfl (by decide) rfl rfl (fun q => upA) hk hP1 hD1 hS
  subst hq; exact k H1 locs1 hw2

theorem kpx {y : MethodName} {ws0 : List Cond} {fr lo idx maxL n : Nat} {bytes : ByteArray} {ret : Option FieldType} {as st0 : List Value} (K : CallFix p m c cc nL s args Ts own) (hM : pX l y ws0 fr lo D cI a (.ref a.1 :: as) σ) (cw : CallW R s args own "PortProcessor" idx y bytes maxL ret ws0 (rmx fr lo) 1 6 n) (hw : kW D cI cJ A a o σ f s H locs) (hZ : pZ A s s.heap) (hn : as.length = n) (hl : ls.size = nL) (hst : st0 = as.reverse ++ .ref a.1 :: rest) (hroom : (rest.map fun v => v.category).sum ≤ 8) (hd : decode cc pc = .ok (.invokevirtual idx, 3)) (hf : cells + 1 ≤ R.cells ∧ slots + 6 ≤ R.slots)
    (kx : ∀ (ce : Cell) (q9 : Addr) (H1 : Heap) (locs1 : List Loc), kW D cI cJ A a o σ f s H1 locs1 → H1[q9]? = some ce → ce.vm = .none → s.vm.findClass xN = some ce.cls → vx_W p l e R s m args below meth c H1 locs1 (cells + 1) (slots + 6) Q (F0 m pc ls rest) q9) : W p l e R s m args below meth c H locs cells slots Q (F0 m pc ls st0) := by
  obtain ⟨hPc, hDc, hF⟩ := hw.cut (wc := pw cI a σ) [0, 1, 2, 3, 4, 5, 6] rfl rfl
  have hA : ∀ q, pA a H.size q → A q := fun q h => hF q (upA.mp h)
  intro T hT X
  rcases vx_runV (rest := rest) (g := F0 m pc ls st0) K (hM H.size) cw ⟨pxblind, va_recv (ci := 0) (q0 := 0) hw.2.2.2.1 hw.1 rfl rfl, fun U hU hW => ⟨rfl, ⟨by rw [hU], by rw [hU]; exact hPc, va_K.moved hW.alike (hw.2.2.2.1.sub [0] rfl), hDc.weaken (fun _ _ _ _ => trivial)⟩, by rw [hU]; exact (pZ.warm hW (hZ.kept hw.2.2.1.2.1)).narrow hA⟩⟩ rfl hn hl hst (lv_room hroom) hd hf T hT X with ⟨v, st₀, t, T', L, h0, X', hL, e1, z_e2, hq, st⟩ | ⟨q, st₀, t, T', L, E, ce, h0, X', hL, e1, z_e2, ⟨u, hp, hb, hFF⟩, hce, hcv, hcl, st⟩
  · exact hq.elim
  · obtain ⟨k1, k2, k3⟩ := vx_keep h0 e1 hw.2.2.1 (fun q _ h => hA q h) hA hL hFF
    obtain ⟨rfl, hB⟩ := hb
    obtain ⟨hP1, -, hD1⟩ := hB
    rw [← e1] at hP1
    have hw2 : kW D cI cJ A a o σ f s T'.heap (locs ++ L) := hw.join [0, 1, 2, 3, 4, 5, 6] [7] [1, 2, 3, 4, 5, 6, 7, 0] (wc := pw cI a σ) (wq := [oE o cJ f]) rfl rfl rfl (by decide) rfl rfl (fun q => upA) k2 hP1 hD1 k3
    obtain ⟨z_t2, a1, b1⟩ := kx ce q T'.heap (locs ++ L) hw2 (by rw [e1]; exact hce) hcv hcl T' rfl X'
    exact ⟨z_t2, st.trans a1, b1⟩

end
/-- a wrapper of the law: it answers t, 1 where the class threw; where it answers 0, V holds of what lies in the array -/
def kPr (D : va_G) (cI cJ : ClassId) (a : pAd) (o : Nat) (σ : z_St) (f : Nat → Int64) (sz : Nat) : State → Prop := fun U => (U.heap.size = sz ∧ va_P D vwCl (kw cI cJ a o σ f) U.heap ∧ va_K D vwCl [(cI, .int), (cJ, .long)] U ∧ va_D (fun _ => True) (kw cI cJ a o σ f)) ∧ pZ (va_A (kw cI cJ a o σ f) sz) U U.heap
abbrev kQ (D : va_G) (cI cJ : ClassId) (a : pAd) (o : Nat) (σ : z_St) (f : Nat → Int64) (σ' : z_St) (t : Nat) (V : Int64 → Prop) (sz : Nat) : Array Value → State → Outcome → State → Prop := va_Qi (fun r (g : Nat → Int64) => r = nI t ∧ (t = 0 → V (g 0))) (fun g U => va_P D vwCl (kw cI cJ a o σ' g) U.heap ∧ va_D (va_A (kw cI cJ a o σ f) sz) (kw cI cJ a o σ' g)) (va_A (kw cI cJ a o σ f) sz)
def kC (l : Launch) (y : MethodName) (ws : List Cond) (fr lo : Nat) (D : va_G) (cI cJ : ClassId) (a : pAd) (o : Nat) (as : List Value) (σ : z_St) (f : Nat → Int64) (σ' : z_St) (t : Nat) (V : Int64 → Prop) : Prop := ∀ sz : Nat, Met l y ws (rmx fr lo) (va_Pc as (kPr D cI cJ a o σ f sz)) (kQ D cI cJ a o σ f σ' t V sz) 1 6 (va_A (kw cI cJ a o σ f) sz)
theorem kblind {D : va_G} {cI cJ : ClassId} {a : pAd} {o : Nat} {σ : z_St} {f : Nat → Int64} {sz : Nat} {as : List Value} : FrameBlind (va_Pc as (kPr D cI cJ a o σ f sz)) := fun a U g mk q => by
  obtain ⟨q0, ⟨q1, qP, qK, qD⟩, qZ⟩ := q
  exact ⟨q0, ⟨q1, qP, va_K.moved (u := U) (U := U.calling g mk a) (Vm.Alike.refl U.vm) qK, qD⟩, qZ.calling⟩
theorem kc_of {l : Launch} {y : MethodName} {ws ws' : List Cond} {fr lo maxL : Nat} {cc : ByteArray} {ret : Option FieldType} {hh : List (Nat × Nat × Nat × Nat)} {D : va_G} {cI cJ : ClassId} {a : pAd} {o : Nat} {as : List Value} {σ σ' : z_St} {f : Nat → Int64} {t : Nat} {V : Int64 → Prop} (hy : plainName y.cls = true) (hw : ws = Cond.codeWith y cc maxL ret hh :: ws') (hm : (lg_sl as).length ≤ maxL)
    (body : ∀ (p : Program) (e : Env) (s : State) (m : MethodId) (below : List Frame) (meth : Method) (c : Code) (ls : Array Slot), CallFix p m c cc maxL s as.toArray ws y.cls → meth.sig.returnType = ret → meth.locks = false → c.exceptionTable.toList = tableOf hh → lv_has ls maxL (lv_args 0 as) → kW D cI cJ (va_A (kw cI cJ a o σ f) s.heap.size) a o σ f s s.heap [] → pZ (va_A (kw cI cJ a o σ f) s.heap.size) s s.heap → W p l e (rmx fr lo) s m as.toArray below meth c s.heap [] 0 0 (MQ below (kQ D cI cJ a o σ f σ' t V s.heap.size) as.toArray s 1 6 (va_A (kw cI cJ a o σ f) s.heap.size)) (F0 m 0 ls [])) : kC l y ws fr lo D cI cJ a o as σ f σ' t V := by
  intro sz
  refine va_MetW (cc := cc) (maxL := maxL) (ret := ret) (hh := hh) hy hw ?_
  intro p e s m args below meth c s₁ B hml hv
  obtain ⟨rfl, ⟨hsz, hP, hK, hD0⟩, hZ⟩ := hv
  subst hsz
  have hown : s.vm.findClass y.cls = some m.cls := findClass_of_methodNamed B.named
  have hts := atoms_spec (ws := ws) B.pre
  have ht : c.exceptionTable.toList = tableOf hh := vx_table (x := y) B (hts _ (by rw [hw]; exact List.mem_cons_self))
  have hl := lv_entry as (n := maxL) hm
  rw [lg_entry_eq]
  exact body p e s m below meth c _ ⟨B.exec, B.bytes, hml, hown, hts⟩ B.returns B.notSynchronized ht hl ⟨hP, hD0.self, va_S.rf, hK, fun q h => Or.inr h⟩ hZ
section
variable {p : Program} {l : Launch} {e : Env} {R : Room} {s : State} {m : MethodId} {args : Array Value} {below : List Frame} {meth : Method} {c : Code} {H : Heap} {locs : List Loc} {cells slots : Nat} {Q : State → Prop} {cc : ByteArray} {nL : Nat} {Ts : List Cond} {own : String} {pc : Nat} {ls : Array Slot} {rest : List Value} {D : va_G} {cI cJ : ClassId} {A : Nat → Prop} {a : pAd} {o : Nat} {σ σ' : z_St} {f g : Nat → Int64} {t : Nat} {V : Int64 → Prop}
theorem kri {x : Int32} (K : CallFix p m c cc nL s args Ts own) (hr : meth.sig.returnType = some .int) (hlk : meth.locks = false) (hw : kW D cI cJ (va_A (kw cI cJ a o σ f) s.heap.size) a o σ' g s H locs) (he : x = nI t) (hV : t = 0 → V (g 0)) (hc : cells ≤ 1) (hs : slots ≤ 6) (hd : decode cc pc = .ok (.ireturn, 1)) : W p l e R s m args below meth c H locs cells slots (MQ below (kQ D cI cJ a o σ f σ' t V s.heap.size) args s 1 6 (va_A (kw cI cJ a o σ f) s.heap.size)) (F0 m pc ls [.int x]) := by
  subst he
  refine W.widen hc hs ?_
  exact W.iret K.1 K.2.1 hr (fun t1 ht hW => ⟨⟨_, g, rfl, ⟨rfl, hV⟩, by rw [ht]; exact hw.1, hw.2.1⟩, hw.2.2.1.F ht⟩) hw.2.2.1.2.2 hd hlk
theorem kcatch {x1 x2 x3 x4 : Nat} {ce : Cell} {q : Addr} (K : CallFix p m c cc nL s args Ts own) (ht : c.exceptionTable.toList = tableOf [(x1, x2, x3, x4)]) (hx : covers ⟨x1, x2, x3, x4⟩ pc = true) (h0 : x4 ≠ 0) (hlink : (Cond.classLink own x4 xN).before args s = true) (hcast : (Cond.castable xN xN).before args s = true) (hcell : H[q]? = some ce) (hv : ce.vm = .none) (hcl : s.vm.findClass xN = some ce.cls) (kk : W p l e R s m args below meth c H locs cells slots Q (F0 m x3 ls [.ref q])) : vx_W p l e R s m args below meth c H locs cells slots Q (F0 m pc ls rest) q :=
  vx_catch (name := xN) K.2.2.2.1 [] ⟨x1, x2, x3, x4⟩ [] ht (fun z hz => nomatch hz) hx h0 hlink hcast hcell hv hcl kk
theorem nl_if_eq (K : CallFix p m c cc nL s args Ts own) {off : Int} {tgt Y u v x : Nat} (ha : x < 2 ^ 31) (hd : decode cc pc = .ok (.ifCond .eq off, 3)) (ht : (pc : Int) + off = (tgt : Int)) (kt : x = 0 → W p l e R s m args below meth c H locs cells slots Q (F0 m Y ls (.long (lN u) :: rest)) → W p l e R s m args below meth c H locs cells slots Q (F0 m tgt ls rest)) (kf : ¬ x = 0 → W p l e R s m args below meth c H locs cells slots Q (F0 m Y ls (.long (lN v) :: rest)) → W p l e R s m args below meth c H locs cells slots Q (F0 m (pc + 3) ls rest)) (k : W p l e R s m args below meth c H locs cells slots Q (F0 m Y ls (.long (lN (if x = 0 then u else v)) :: rest))) : W p l e R s m args below meth c H locs cells slots Q (F0 m pc ls (.int (nI x) :: rest)) :=
  nv_if_eq K ha hd ht (fun h => kt h (by rw [if_pos h] at k; exact k)) (fun h => kf h (by rw [if_neg h] at k; exact k))
theorem klast {x : Int64} (K : CallFix p m c cc nL s args Ts own) (hw : kW D cI cJ A a o σ f s H locs) (hd : decode cc pc = .ok (.lastore, 1)) (k : ∀ (H : Heap) (locs : List Loc), kW D cI cJ A a o σ (vp_updL f 0 x) s H locs → W p l e R s m args below meth c H locs cells slots Q (F0 m (pc + 1) ls rest)) : W p l e R s m args below meth c H locs cells slots Q (F0 m pc ls (.long x :: .int (nI 0) :: .ref o :: rest)) :=
  by
  refine va_last K.1 K.2.1 hw.2.2.2.1 hw.1 hw.2.1 hw.2.2.1 7 1 rfl rfl (vp_in_nI (n := 0) (N := 1) (by decide) (by decide)) hd (fun H1 locs1 hP hD hS => ?_)
  rw [nI_clamp (by decide)] at hP hD
  exact k H1 locs1 ⟨hP, hD, hS, hw.2.2.2.1, hw.2.2.2.2⟩
end

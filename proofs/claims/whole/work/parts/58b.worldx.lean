/-! the class's faces that throw: what they need, what they leave -/
abbrev rmx (fr lo : Nat) : Room := { frames := fr, cells := 1, slots := 6, locals := lo }
abbrev xN : String := "java/lang/IllegalArgumentException"
def pStr : List (Nat × String) := [(39, "1 to 8 bytes can be loaded"), (44, "not all of the bytes are in the memory"), (50, "the address is not in the memory"), (57, "no such address"), (66, "1 to 500 steps can be run"), (72, "no such interrupt"), (78, "no such port"), (80, "the value is no byte"), (82, "no such register"), (94, "no register that can be set"), (96, "the register cannot hold the value"), (105, "no such question")]
def pZ (A : Nat → Prop) (U : State) (H : Heap) : Prop := vx_Zq Bundle.tN "UNASSIGNED_STACK" Bundle.steD A U H ∧ vx_Zq Bundle.tN "SUPPRESSED_SENTINEL" Bundle.listD A U H ∧ (va_Nw (.castable xN xN) U ∧ va_Nw (.declares (Bundle.initS "java/lang/RuntimeException")) U ∧ va_Nw (.declares (Bundle.initS "java/lang/Exception")) U ∧ va_Nw (.declares (Bundle.initS "java/lang/Throwable")) U) ∧ ∀ q ∈ pStr, ∃ sa, vk_R "PortProcessor" q.1 q.2 sa U
theorem pZ.kept {A : Nat → Prop} {U : State} {H H1 : Heap} (h : pZ A U H) (hq : ∀ a : Nat, a < H.size → ¬ A a → H1[a]? = H[a]?) : pZ A U H1 := ⟨h.1.kept hq, h.2.1.kept hq, h.2.2⟩
theorem pZ.narrow {A B : Nat → Prop} {U : State} {H : Heap} (h : pZ A U H) (hAB : ∀ q, B q → A q) : pZ B U H := ⟨h.1.narrow hAB, h.2.1.narrow hAB, h.2.2⟩
theorem pZ.warm {A : Nat → Prop} {s U : State} {H : Heap} (hW : s.WarmedH U.vm) (h : pZ A s H) : pZ A U H := ⟨h.1.moved hW.alike, h.2.1.moved hW.alike, ⟨va_Nw.warmC hW h.2.2.1.1, va_Nw.warmD hW h.2.2.1.2.1, va_Nw.warmD hW h.2.2.1.2.2.1, va_Nw.warmD hW h.2.2.1.2.2.2⟩, fun q hq => by
  obtain ⟨sa, hs⟩ := h.2.2.2 q hq
  exact ⟨sa, vk_R.warm hW hs⟩⟩
theorem pZ.calling {A : Nat → Prop} {U : State} {H : Heap} {g : JFrame} {mk : MethodId} {a : Array Value} (h : pZ A U H) : pZ A (U.calling g mk a) H := ⟨h.1.moved (U := U.calling g mk a) (Vm.Alike.refl U.vm), h.2.1.moved (U := U.calling g mk a) (Vm.Alike.refl U.vm), ⟨va_Nw.same (u := U) (U := U.calling g mk a) rfl rfl h.2.2.1.1, va_Nw.same (u := U) (U := U.calling g mk a) rfl rfl h.2.2.1.2.1, va_Nw.same (u := U) (U := U.calling g mk a) rfl rfl h.2.2.1.2.2.1, va_Nw.same (u := U) (U := U.calling g mk a) rfl rfl h.2.2.1.2.2.2⟩, fun q hq => by
  obtain ⟨sa, hs⟩ := h.2.2.2 q hq
  exact ⟨sa, vk_R.same (u := U) (U := U.calling g mk a) rfl hs⟩⟩
def pPx (D : va_G) (cI : ClassId) (a : pAd) (σ : z_St) (sz : Nat) : State → Prop := fun U => pPr D cI a σ sz U ∧ pZ (pA a sz) U U.heap
abbrev pXC (D : va_G) (cI : ClassId) (a : pAd) (σ : z_St) (sz : Nat) : String → State → State → Prop := vx_X (fun _ : Unit => True) (fun E _ t => E = xN ∧ pPo D cI a σ sz t) (pA a sz)
def pX (l : Launch) (y : MethodName) (ws : List Cond) (fr lo : Nat) (D : va_G) (cI : ClassId) (a : pAd) (as : List Value) (σ : z_St) : Prop := ∀ sz : Nat, vx_Met l y ws (rmx fr lo) (va_Pc as (pPx D cI a σ sz)) (fun _ _ _ _ => False) (pXC D cI a σ sz) 1 6 (pA a sz)
theorem pxblind {D : va_G} {cI : ClassId} {a : pAd} {σ : z_St} {sz : Nat} {as : List Value} : FrameBlind (va_Pc as (pPx D cI a σ sz)) := fun a U g mk q => by
  obtain ⟨q0, ⟨q1, qP, qK, qD⟩, qZ⟩ := q
  exact ⟨q0, ⟨q1, qP, va_K.moved (u := U) (U := U.calling g mk a) (Vm.Alike.refl U.vm) qK, qD⟩, qZ.calling⟩
theorem px_of {l : Launch} {y : MethodName} {ws ws' : List Cond} {fr lo maxL : Nat} {cc : ByteArray} {ret : Option FieldType} {D : va_G} {cI : ClassId} {a : pAd} {as : List Value} {σ : z_St} (hy : plainName y.cls = true) (hw : ws = Cond.code y cc maxL ret :: ws') (hm : (lg_sl as).length ≤ maxL)
    (body : ∀ (p : Program) (e : Env) (s : State) (m : MethodId) (below : List Frame) (meth : Method) (c : Code) (ls : Array Slot), CallFix p m c cc maxL s as.toArray ws y.cls → meth.locks = false → (∀ x ∈ c.exceptionTable.toList, False) → lv_has ls maxL (lv_args 0 as) → pW D cI (pA a s.heap.size) a σ s s.heap [] → pZ (pA a s.heap.size) s s.heap → W p l e (rmx fr lo) s m as.toArray below meth c s.heap [] 0 0 (vx_MQ below (fun _ _ _ _ => False) (pXC D cI a σ s.heap.size) as.toArray s 1 6 (pA a s.heap.size)) (F0 m 0 ls [])) : pX l y ws fr lo D cI a as σ := by
  intro sz
  refine vx_ofW (cc := cc) (maxL := maxL) (ret := ret) hy hw ?_
  intro p e s m args below meth c s₁ B hml hnt hv
  obtain ⟨rfl, ⟨hsz, hP, hK, hD0⟩, hZ⟩ := hv
  subst hsz
  have hown : s.vm.findClass y.cls = some m.cls := findClass_of_methodNamed B.named
  have hl := lv_entry as (n := maxL) hm
  rw [lg_entry_eq]
  exact body p e s m below meth c _ ⟨B.exec, B.bytes, hml, hown, atoms_spec (ws := ws) B.pre⟩ B.notSynchronized hnt hl ⟨hP, pA_in hD0, va_S.rf, hK, fun q h => by unfold pA; simp [h]⟩ hZ
section
variable {p : Program} {l : Launch} {e : Env} {R : Room} {s : State} {m : MethodId} {args : Array Value} {below : List Frame} {meth : Method} {c : Code} {H : Heap} {locs : List Loc} {cells slots : Nat} {Q : State → Prop} {cc : ByteArray} {nL : Nat} {pc : Nat} {ls : Array Slot} {rest : List Value} {D : va_G} {cI : ClassId} {A : Nat → Prop} {a : pAd} {σ : z_St} {c0 : Cond}
theorem pth {is : Nat} {text : String} (K : CallFix p m c cc nL s args (c0 :: T0) "PortProcessor") (hlk : meth.locks = false) (hnt : ∀ x ∈ c.exceptionTable.toList, False) (hst : l.stackTraces = false) (hw : pW D cI (pA a s.heap.size) a σ s H locs) (hZ : pZ (pA a s.heap.size) s s.heap) (hq : (is, text) ∈ pStr) (hls : ls.size = nL)
    (d0 : decode cc pc = .ok (.new 37, 3)) (d3 : decode cc (pc + 3) = .ok (.dup, 1)) (d4 : decode cc (pc + 4) = .ok (.ldc is, 2)) (z_d6 : decode cc (pc + 6) = .ok (.invokespecial 41, 3)) (d9 : decode cc (pc + 9) = .ok (.athrow, 1)) :
    W p l e (rmx 6 82) s m args below meth c H locs 0 0 (vx_MQ below (fun _ _ _ _ => False) (pXC D cI a σ s.heap.size) args s 1 6 (pA a s.heap.size)) (F0 m pc ls []) := by
  obtain ⟨sa, hsa⟩ := hZ.2.2.2 _ hq
  refine vx_throwS (names := ["java/lang/RuntimeException", "java/lang/Exception"]) (A := pA a s.heap.size) K.1 K.2.1 hst K.2.2.2.1 xn_fit xn_names (K.2.2.2.2 _ (List.mem_cons_of_mem _ m_xlink)) (K.2.2.2.2 _ (List.mem_cons_of_mem _ m_xini)) hsa (vx_hat (fun w h => K.2.2.2.2 _ (List.mem_cons_of_mem _ (m_xat w h))) m_xoth (vx_c (va_Nw.use rfl hZ.2.2.1.1) (vx_c (va_Nw.use rfl hZ.2.2.1.2.1) (vx_c (va_Nw.use rfl hZ.2.2.1.2.2.1) (vx_c (va_Nw.use rfl hZ.2.2.1.2.2.2) vx_n))))) m_xgood hZ.1 hZ.2.1 hw.2.2.1 (hls.trans K.2.2.1.symm) d0 d3 d4 z_d6 d9 (fun x hx => (hnt x hx).elim) (by decide) (by decide) (by decide) (by decide) hlk ?_ hw.2.2.1.2.2 (by decide) (by decide)
  intro t hvm hsz hk
  refine ⟨(), trivial, ⟨rfl, ?_, va_K.moved hvm hw.2.2.2.1, hw.2.1⟩, Nat.le_trans hw.2.2.1.1 hsz, fun q h1 h2 => by rw [hk q (Nat.lt_of_lt_of_le h1 hw.2.2.1.1)]; exact hw.2.2.1.2.1 q h1 h2⟩
  exact va_P.kept hw.1 (fun k q hq => hk q.1 ((hw.1 k q hq).lt))
end

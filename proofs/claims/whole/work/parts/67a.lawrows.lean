section
variable {p : Program} {l : Launch} {e : Env} {R : Room} {s : State} {m : MethodId} {args : Array Value} {below : List Frame} {meth : Method} {c : Code} {H : Heap} {locs : List Loc} {cells slots : Nat} {Q : State → Prop} {cc : ByteArray} {nL : Nat} {Ts : List Cond} {own : String} {pc : Nat} {ls : Array Slot} {rest : List Value} {D : va_G} {cI cJ : ClassId} {A : Nat → Prop} {a : pAd} {b : qAd} {o : Nat} {σ σ' τ0 : z_St} {f : Nat → Int64} {t : Nat} {V : Int64 → Prop}
theorem jks {y : MethodName} {ws0 : List Cond} {fr lo idx maxL n : Nat} {bytes : ByteArray} {ret : Option FieldType} {hh : List (Nat × Nat × Nat × Nat)} {as st0 : List Value} (K : CallFix p m c cc nL s args Ts own) (hM : kC l y ws0 fr lo D cI cJ a o as σ f σ' t V) (cw : vx_CSW R s args own idx y bytes maxL ret hh ws0 (rmx fr lo) 1 6 n) (hw : jW D cI cJ A a b o σ τ0 f s H locs) (hZ : pZ A s s.heap) (hn : as.length = n) (hl : ls.size = nL) (hsk : st0 = as.reverse ++ rest) (hroom : (rest.map fun v => v.category).sum ≤ 8) (hd : decode cc pc = .ok (.invokestatic idx, 3)) (hf : cells + 1 ≤ R.cells ∧ slots + 6 ≤ R.slots)
    (k : ∀ (g : Nat → Int64) (H : Heap) (locs : List Loc), jW D cI cJ A a b o σ' τ0 g s H locs → (t = 0 → V (g 0)) → W p l e R s m args below meth c H locs (cells + 1) (slots + 6) Q (F0 m (pc + 3) ls (.int (nI t) :: rest))) : W p l e R s m args below meth c H locs cells slots Q (F0 m pc ls st0) := by
  obtain ⟨hPc, hDc, hF⟩ := hw.cut (wc := kw cI cJ a o σ f) [0, 1, 2, 3, 4, 5, 6, 12] rfl rfl
  refine va_calli (vx_runSW K (hM H.size) cw ⟨kblind, fun U hU hW => ⟨rfl, ⟨by rw [hU], by rw [hU]; exact hPc, va_K.moved hW.alike hw.2.2.2.1, hDc.weaken (fun _ _ _ _ => trivial)⟩, by rw [hU]; exact (pZ.warm hW (hZ.kept hw.2.2.1.2.1)).narrow hF⟩⟩ rfl hn hl hsk (lv_room hroom) hd hf) hw.2.2.1 (fun q _ h => hF q h) hF (fun r1 g t1 H1 locs1 ht hvm hq hB hz hk hS => ?_)
  obtain ⟨hP1, hD1⟩ := hB
  rw [ht] at hP1
  have hw2 : jW D cI cJ A a b o σ' τ0 g s H1 locs1 := hw.join [0, 1, 2, 3, 4, 5, 6, 12] [7, 8, 9, 10, 11] [5, 6, 7, 8, 9, 10, 11, 0, 1, 2, 3, 4, 12] (wc := kw cI cJ a o σ f) (wq := qw cI b τ0) rfl rfl rfl (by decide) rfl rfl (fun q => Iff.rfl) hk hP1 hD1 hS
  obtain ⟨rfl, hV⟩ := hq
  exact k g H1 locs1 hw2 hV
theorem lsld {b0 L k : Nat} {z_xs : Nat → Int32} {H0 : Heap} (K : CallFix p m c cc nL s args Ts own) (hX : va_X b0 L z_xs s H0) (hbl : b0 < H0.size) (hbA : ¬ A b0) (hS : va_S A H0 H locs) (hk : k < L) (hL : L < 2 ^ 31) (hd : decode cc pc = .ok (.iaload, 1)) (kk : W p l e R s m args below meth c H locs cells slots Q (F0 m (pc + 1) ls (.int (z_xs k) :: rest))) : W p l e R s m args below meth c H locs cells slots Q (F0 m pc ls (.int (nI k) :: .ref b0 :: rest)) := by
  refine va_sld K.1 K.2.1 hX hbl hbA hS (vp_in_nI hk hL) hd ?_
  rw [nI_clamp (by omega)]
  exact kk
theorem jlald (K : CallFix p m c cc nL s args Ts own) (hw : jW D cI cJ A a b o σ τ0 f s H locs) (hd : decode cc pc = .ok (.laload, 1)) (k : W p l e R s m args below meth c H locs cells slots Q (F0 m (pc + 1) ls (.long (f 0) :: rest))) : W p l e R s m args below meth c H locs cells slots Q (F0 m pc ls (.int (nI 0) :: .ref o :: rest)) := by
  refine va_lald K.1 K.2.1 hw.2.2.2.1 hw.1 12 1 rfl rfl (vp_in_nI (n := 0) (N := 1) (by decide) (by decide)) hd ?_
  rw [nI_clamp (by decide)]
  exact k
theorem lcmp0 {x : Int64} {off : Int} {tgt : Nat} (K : CallFix p m c cc nL s args Ts own) (hd : decode cc pc = .ok (.lcmp, 1)) (hd2 : decode cc (pc + 1) = .ok (.ifCond .eq off, 3)) (ht : ((pc + 1 : Nat) : Int) + off = (tgt : Int)) (k : W p l e R s m args below meth c H locs cells slots Q (F0 m tgt ls rest)) : W p l e R s m args below meth c H locs cells slots Q (F0 m pc ls (.long x :: .long x :: rest)) := by
  refine W.lcmp K.1 K.2.1 hd ?_
  have e0 : lg_cmp x x = 0 := by simp [lg_cmp]
  rw [e0]
  exact lv_if_eq K.1 K.2.1 hd2 ht (fun _ => k) (fun h => absurd rfl h)
end
theorem law_le {L i : Nat} (hL : L < 2 ^ 31) (hi : i < 2 ^ 31) : nI L - nI 5 < nI i ↔ L < i + 5 := by
  by_cases h : 5 ≤ L
  · rw [pk_sub h, nI_ltI (by omega) hi]
    omega
  · have e : (nI L - nI 5).toInt < 0 := by
      rcases (by omega : L = 0 ∨ L = 1 ∨ L = 2 ∨ L = 3 ∨ L = 4) with rfl | rfl | rfl | rfl | rfl <;> decide +kernel
    rw [Int32.lt_iff_toInt_lt, nI_toInt hi]
    omega
theorem law_15 (x : Int32) : ∃ w : Nat, w < 16 ∧ x &&& nI 15 = nI w := by
  refine ⟨x.toBitVec.toNat % 16, Nat.mod_lt _ (by decide), ?_⟩
  apply Int32.toBitVec_inj.1
  apply BitVec.eq_of_toNat_eq
  show (x.toBitVec &&& 15#32).toNat = (BitVec.ofNat 32 (x.toBitVec.toNat % 16)).toNat
  simp only [BitVec.toNat_and, BitVec.toNat_ofNat]
  have h15 : (15 : Nat) % 2 ^ 32 = 2 ^ 4 - 1 := by decide
  rw [h15, Nat.and_two_pow_sub_one_eq_mod]
  omega
def lz (x y : Int32) : Int64 := (x.toInt64 <<< ((nI 32).toInt64 &&& 63)) ||| (y.toInt64 &&& lN 4294967295)

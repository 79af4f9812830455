/-! rows of instructions over numbers: what stands on the stack is nI of a number -/
theorem nz_and (a b : Nat) : nI a &&& nI b = nI (a &&& b) := by
  apply Int32.toBitVec_inj.1
  show BitVec.ofNat 32 a &&& BitVec.ofNat 32 b = BitVec.ofNat 32 (a &&& b)
  apply BitVec.eq_of_getLsbD_eq
  intro i hi
  simp [hi]
theorem nz_or (a b : Nat) : nI a ||| nI b = nI (a ||| b) := by
  apply Int32.toBitVec_inj.1
  show BitVec.ofNat 32 a ||| BitVec.ofNat 32 b = BitVec.ofNat 32 (a ||| b)
  apply BitVec.eq_of_getLsbD_eq
  intro i hi
  simp [hi]
theorem nz_xor (a b : Nat) : nI a ^^^ nI b = nI (a ^^^ b) := by
  apply Int32.toBitVec_inj.1
  show BitVec.ofNat 32 a ^^^ BitVec.ofNat 32 b = BitVec.ofNat 32 (a ^^^ b)
  apply BitVec.eq_of_getLsbD_eq
  intro i hi
  simp [hi]
theorem nz_mask (a : Nat) {q M : Nat} (k : Nat) (hq : q = 2 ^ k - 1) (hM : 2 ^ k = M) : nI a &&& nI q = nI (a % M) := by
  subst hq; subst hM
  rw [nz_and, Nat.and_two_pow_sub_one_eq_mod]
theorem nz_or256 (a : Nat) {b : Nat} (h : b < 256) : nI (a * 256) ||| nI b = nI (a * 256 + b) := by
  have e := Nat.two_pow_add_eq_or_of_lt (i := 8) (b := b) h a
  rw [nz_or, Nat.mul_comm a 256, ← show 2 ^ 8 * a + b = 256 * a ||| b from e]
theorem nz_sh : ∀ k, k < 32 → ((nI k &&& 31).toBitVec.smod 32).toNat = k := by decide +kernel
theorem nz_shl {a k M : Nat} (hk : k < 32) (hM : 2 ^ k = M) (h : a * M < 2 ^ 32) : nI a <<< (nI k &&& 31) = nI (a * M) := by
  subst hM
  exact pk_shlN _ k (nz_sh k hk) h
theorem nz_shr {a k M : Nat} (hk : k < 32) (hM : 2 ^ k = M) (h : a < 2 ^ 31) : nI a >>> (nI k &&& 31) = nI (a / M) := by
  subst hM
  exact pk_shrN h _ k (nz_sh k hk)
theorem nz_eq0 {a : Nat} (ha : a < 2 ^ 31) : nI a = 0 ↔ a = 0 := by
  rw [← nI_0]
  exact nI_eq ha (by omega)
theorem nz_lt0 {a : Nat} (ha : a < 2 ^ 31) : ¬ nI a < 0 := nI_pos ha
theorem nz_le0 {a : Nat} (ha : a < 2 ^ 31) : nI a ≤ 0 ↔ a = 0 := by
  rw [← nI_0, nI_leI ha (by omega)]
  omega
theorem nz_dec {a : Nat} (ha : a < 65536) : (nI a - nI 1) &&& nI 65535 = nI ((a + 65535) % 65536) := by
  have e : nI a - nI 1 = nI (a + 4294967295) := by
    rw [show a + 4294967295 = a + 4294967295 from rfl, ← nI_add]
    rw [show nI 4294967295 = - nI 1 from by decide +kernel, Int32.sub_eq_add_neg]
  rw [e, nz_mask _ 16 rfl rfl]
  exact congrArg nI (by omega)
theorem nz_dec8 {a : Nat} (ha : a < 256) : (nI a - nI 1) &&& nI 255 = nI ((a + 255) % 256) := by
  have e : nI a - nI 1 = nI (a + 4294967295) := by
    rw [show a + 4294967295 = a + 4294967295 from rfl, ← nI_add]
    rw [show nI 4294967295 = - nI 1 from by decide +kernel, Int32.sub_eq_add_neg]
  rw [e, nz_mask _ 8 rfl rfl]
  exact congrArg nI (by omega)
theorem nz_addm1 {a : Nat} (ha : a < 65536) : (nI a + (-1)) &&& nI 65535 = nI ((a + 65535) % 65536) := by
  rw [show (-1 : Int32) = nI 4294967295 from by decide +kernel, nI_add, nz_mask _ 16 rfl rfl]
  exact congrArg nI (by omega)

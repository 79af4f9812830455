abbrev rmz (fr lo : Nat) : Room := { frames := fr, cells := 0, slots := 0, locals := lo }
theorem nz_nar {x : Nat} (hx : x < 2) : narrow .boolean (.int (nI x)) = .int (nI x) := by
  rcases (by omega : x = 0 ∨ x = 1) with rfl | rfl <;> decide +kernel
theorem nz_fit {x : Nat} (hx : x < 2) : fits .boolean (.int (nI x)) = true := by
  rcases (by omega : x = 0 ∨ x = 1) with rfl | rfl <;> decide +kernel
theorem nz_upd (f : Nat → Nat) (i v : Nat) : upd (fun k => nI (f k)) i (nI v) = fun k => nI (z_fs f i v k) := by
  funext j
  unfold upd z_fs
  split <;> rfl
theorem nz_updm (f : Nat → Nat) (i v : Nat) : upd (fun k => nI (f k) - 1) i (nI v) = fun k => nI (z_fs f i (v + 1) k) - 1 := by
  funext j
  unfold upd z_fs
  split
  · rw [← nI_1]
    simp
  · rfl
theorem z_ite_ltB {c : Prop} {x y B : Nat} (d : Decidable c) (hx : x < B) (hy : y < B) : (if c then x else y) < B := by
  split
  · exact hx
  · exact hy
/-! numbers: what the class's and the reference's calculations come to -/
def z_pc_ (v : Nat) : Nat := v % 2 + v / 2 % 2 + v / 4 % 2 + v / 8 % 2 + v / 16 % 2 + v / 32 % 2 + v / 64 % 2 + v / 128 % 2
theorem z_pc_lt (v : Nat) : z_pc_ v < 9 := by
  unfold z_pc_
  omega
theorem nz_b128 : ∀ v, v < 256 → (if v &&& 128 = 0 then 0 else 1) = v / 128 % 2 := by decide +kernel
theorem nz_b64 : ∀ v, v < 256 → (if v &&& 64 = 0 then 0 else 1) = v / 64 % 2 := by decide +kernel
theorem nz_b16 : ∀ v, v < 256 → (if v &&& 16 = 0 then 0 else 1) = v / 16 % 2 := by decide +kernel
theorem nz_b4 : ∀ v, v < 256 → (if v &&& 4 = 0 then 0 else 1) = v / 4 % 2 := by decide +kernel
theorem nz_s128 : ∀ v, v < 256 → (if v &&& 128 = 0 then 0 else 1) = v / 128 := by decide +kernel
theorem nz_b8 : ∀ v, v < 256 → v &&& 8 = 8 * (v / 8 % 2) := by decide +kernel
theorem nz_b56 : ∀ v, v < 256 → v &&& 56 = 8 * (v / 8 % 8) := by decide +kernel
theorem nz_b1 (v : Nat) : (if v % 2 = 0 then 0 else 1) = v % 2 := by
  split <;> omega
theorem nz_m1 (k : Nat) : (if k % 2 = 1 then 1 else 0) = k % 2 := by
  split <;> omega
theorem nz_bit {x : Nat} (h : x < 2) : (if x = 0 then 0 else 1) = x := by
  split <;> omega
theorem nz_not {x : Nat} (h : x < 2) : (if x = 0 then 1 else 0) = 1 - x := by
  split <;> omega
theorem nz_if (a b : Nat) : (if a ≤ b then 0 else 1) = (if b < a then 1 else 0) := by
  split <;> split <;> omega
theorem nz_par : ∀ v, v < 256 → (if z_pc_ v % 2 = 0 then 1 else 0) = z_par v := by decide +kernel
theorem nz_left : ∀ v, v < 256 → ∀ z, z < 2 → (v * 2 ||| z) % 256 = v % 128 * 2 + z := by decide +kernel
theorem nz_right : ∀ v, v < 256 → ∀ z, z < 2 → (v / 2 ||| z * 128) = v / 2 + z * 128 := by decide +kernel
theorem nz_fb {σ : z_St} (h : z_Ok σ) : nI (((((2 ||| (if z_x_sg σ = 0 then 0 else 128)) ||| (if z_x_ze σ = 0 then 0 else 64)) ||| (if z_x_au σ = 0 then 0 else 16)) ||| (if z_x_pa σ = 0 then 0 else 4)) ||| (if z_x_ca σ = 0 then 0 else 1)) = nI (z_fb σ) := by
  have h1 := z_k_sg h
  have h2 := z_k_ze h
  have h3 := z_k_au h
  have h4 := z_k_pa h
  have h5 := z_k_ca h
  unfold z_fb
  generalize z_x_sg σ = a at *
  generalize z_x_ze σ = b at *
  generalize z_x_au σ = c at *
  generalize z_x_pa σ = d at *
  generalize z_x_ca σ = e at *
  rcases (by omega : a = 0 ∨ a = 1) with rfl | rfl <;> rcases (by omega : b = 0 ∨ b = 1) with rfl | rfl <;> rcases (by omega : c = 0 ∨ c = 1) with rfl | rfl <;> rcases (by omega : d = 0 ∨ d = 1) with rfl | rfl <;> rcases (by omega : e = 0 ∨ e = 1) with rfl | rfl <;> decide +kernel
theorem nz_t3 : ∀ x, x < 256 → ((x &&& 8 = 0) ↔ x.testBit 3 = false) := by decide +kernel
theorem nz_a8 {a b : Nat} (ha : a < 256) (hb : b < 256) : (if (a ||| b) &&& 8 = 0 then 0 else 1) = (if a / 8 % 2 = 1 ∨ b / 8 % 2 = 1 then 1 else 0) := by
  have h1 := nz_t3 (a ||| b) (z_bit_lt ha hb).2.2
  rw [Nat.testBit_or] at h1
  have e1 : a.testBit 3 = decide (a / 8 % 2 = 1) := Nat.testBit_eq_decide_div_mod_eq
  have z_e2 : b.testBit 3 = decide (b / 8 % 2 = 1) := Nat.testBit_eq_decide_div_mod_eq
  rw [e1, z_e2] at h1
  by_cases ha8 : a / 8 % 2 = 1
  · simp [ha8] at h1
    simp [ha8, h1]
  · by_cases hb8 : b / 8 % 2 = 1
    · simp [ha8, hb8] at h1
      simp [ha8, hb8, h1]
    · simp [ha8, hb8] at h1
      simp [ha8, hb8, h1]
theorem nz_wam {w : Nat} (hw : w < 2 ^ 31) : nI w - 1 = -1 ↔ w = 0 := by
  constructor
  · intro h
    have e : nI w = 0 := by
      have := congrArg (· + 1) h
      simpa using this
    exact (nz_eq0 hw).mp e
  · rintro rfl
    decide +kernel
theorem nz_pred {w : Nat} (h : w ≠ 0) : nI w - 1 = nI (w - 1) := by
  obtain ⟨k, rfl⟩ : ∃ k, w = k + 1 := ⟨w - 1, by omega⟩
  exact nI_pred k

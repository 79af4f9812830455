theorem sm_1 {x y z o u : Nat} (ho : o < 2) (hu : u < 1) (hi : u + o * 1 = x % 1 + y % 1 + z) : ((((x / 1) % 2) + ((y / 1) % 2)) + o) / 2 < 2 ∧ u + (((((x / 1) % 2) + ((y / 1) % 2)) + o) % 2) * 1 < 2 ∧ (u + (((((x / 1) % 2) + ((y / 1) % 2)) + o) % 2) * 1) + (((((x / 1) % 2) + ((y / 1) % 2)) + o) / 2) * 2 = x % 2 + y % 2 + z := by
  have h1 : x % 2 = x % 1 + 1 * (x / 1 % 2) := @Nat.mod_mul 1 2 x
  have h2 : y % 2 = y % 1 + 1 * (y / 1 % 2) := @Nat.mod_mul 1 2 y
  have h3 : x / 1 % 2 < 2 := Nat.mod_lt _ (by decide)
  have h4 : y / 1 % 2 < 2 := Nat.mod_lt _ (by decide)
  rw [h1, h2]
  generalize x / 1 % 2 = A at *
  generalize y / 1 % 2 = C at *
  generalize x % 1 = E at *
  generalize y % 1 = F at *
  clear h1 h2
  refine ⟨by omega, by omega, by omega⟩
theorem sm_2 {x y z o u : Nat} (ho : o < 2) (hu : u < 2) (hi : u + o * 2 = x % 2 + y % 2 + z) : ((((x / 2) % 2) + ((y / 2) % 2)) + o) / 2 < 2 ∧ u + (((((x / 2) % 2) + ((y / 2) % 2)) + o) % 2) * 2 < 4 ∧ (u + (((((x / 2) % 2) + ((y / 2) % 2)) + o) % 2) * 2) + (((((x / 2) % 2) + ((y / 2) % 2)) + o) / 2) * 4 = x % 4 + y % 4 + z := by
  have h1 : x % 4 = x % 2 + 2 * (x / 2 % 2) := @Nat.mod_mul 2 2 x
  have h2 : y % 4 = y % 2 + 2 * (y / 2 % 2) := @Nat.mod_mul 2 2 y
  have h3 : x / 2 % 2 < 2 := Nat.mod_lt _ (by decide)
  have h4 : y / 2 % 2 < 2 := Nat.mod_lt _ (by decide)
  rw [h1, h2]
  generalize x / 2 % 2 = A at *
  generalize y / 2 % 2 = C at *
  generalize x % 2 = E at *
  generalize y % 2 = F at *
  clear h1 h2
  refine ⟨by omega, by omega, by omega⟩
theorem sm_3 {x y z o u : Nat} (ho : o < 2) (hu : u < 4) (hi : u + o * 4 = x % 4 + y % 4 + z) : ((((x / 4) % 2) + ((y / 4) % 2)) + o) / 2 < 2 ∧ u + (((((x / 4) % 2) + ((y / 4) % 2)) + o) % 2) * 4 < 8 ∧ (u + (((((x / 4) % 2) + ((y / 4) % 2)) + o) % 2) * 4) + (((((x / 4) % 2) + ((y / 4) % 2)) + o) / 2) * 8 = x % 8 + y % 8 + z := by
  have h1 : x % 8 = x % 4 + 4 * (x / 4 % 2) := @Nat.mod_mul 4 2 x
  have h2 : y % 8 = y % 4 + 4 * (y / 4 % 2) := @Nat.mod_mul 4 2 y
  have h3 : x / 4 % 2 < 2 := Nat.mod_lt _ (by decide)
  have h4 : y / 4 % 2 < 2 := Nat.mod_lt _ (by decide)
  rw [h1, h2]
  generalize x / 4 % 2 = A at *
  generalize y / 4 % 2 = C at *
  generalize x % 4 = E at *
  generalize y % 4 = F at *
  clear h1 h2
  refine ⟨by omega, by omega, by omega⟩
theorem sm_4 {x y z o u : Nat} (ho : o < 2) (hu : u < 8) (hi : u + o * 8 = x % 8 + y % 8 + z) : ((((x / 8) % 2) + ((y / 8) % 2)) + o) / 2 < 2 ∧ u + (((((x / 8) % 2) + ((y / 8) % 2)) + o) % 2) * 8 < 16 ∧ (u + (((((x / 8) % 2) + ((y / 8) % 2)) + o) % 2) * 8) + (((((x / 8) % 2) + ((y / 8) % 2)) + o) / 2) * 16 = x % 16 + y % 16 + z := by
  have h1 : x % 16 = x % 8 + 8 * (x / 8 % 2) := @Nat.mod_mul 8 2 x
  have h2 : y % 16 = y % 8 + 8 * (y / 8 % 2) := @Nat.mod_mul 8 2 y
  have h3 : x / 8 % 2 < 2 := Nat.mod_lt _ (by decide)
  have h4 : y / 8 % 2 < 2 := Nat.mod_lt _ (by decide)
  rw [h1, h2]
  generalize x / 8 % 2 = A at *
  generalize y / 8 % 2 = C at *
  generalize x % 8 = E at *
  generalize y % 8 = F at *
  clear h1 h2
  refine ⟨by omega, by omega, by omega⟩
theorem sm_5 {x y z o u : Nat} (ho : o < 2) (hu : u < 16) (hi : u + o * 16 = x % 16 + y % 16 + z) : ((((x / 16) % 2) + ((y / 16) % 2)) + o) / 2 < 2 ∧ u + (((((x / 16) % 2) + ((y / 16) % 2)) + o) % 2) * 16 < 32 ∧ (u + (((((x / 16) % 2) + ((y / 16) % 2)) + o) % 2) * 16) + (((((x / 16) % 2) + ((y / 16) % 2)) + o) / 2) * 32 = x % 32 + y % 32 + z := by
  have h1 : x % 32 = x % 16 + 16 * (x / 16 % 2) := @Nat.mod_mul 16 2 x
  have h2 : y % 32 = y % 16 + 16 * (y / 16 % 2) := @Nat.mod_mul 16 2 y
  have h3 : x / 16 % 2 < 2 := Nat.mod_lt _ (by decide)
  have h4 : y / 16 % 2 < 2 := Nat.mod_lt _ (by decide)
  rw [h1, h2]
  generalize x / 16 % 2 = A at *
  generalize y / 16 % 2 = C at *
  generalize x % 16 = E at *
  generalize y % 16 = F at *
  clear h1 h2
  refine ⟨by omega, by omega, by omega⟩
theorem sm_6 {x y z o u : Nat} (ho : o < 2) (hu : u < 32) (hi : u + o * 32 = x % 32 + y % 32 + z) : ((((x / 32) % 2) + ((y / 32) % 2)) + o) / 2 < 2 ∧ u + (((((x / 32) % 2) + ((y / 32) % 2)) + o) % 2) * 32 < 64 ∧ (u + (((((x / 32) % 2) + ((y / 32) % 2)) + o) % 2) * 32) + (((((x / 32) % 2) + ((y / 32) % 2)) + o) / 2) * 64 = x % 64 + y % 64 + z := by
  have h1 : x % 64 = x % 32 + 32 * (x / 32 % 2) := @Nat.mod_mul 32 2 x
  have h2 : y % 64 = y % 32 + 32 * (y / 32 % 2) := @Nat.mod_mul 32 2 y
  have h3 : x / 32 % 2 < 2 := Nat.mod_lt _ (by decide)
  have h4 : y / 32 % 2 < 2 := Nat.mod_lt _ (by decide)
  rw [h1, h2]
  generalize x / 32 % 2 = A at *
  generalize y / 32 % 2 = C at *
  generalize x % 32 = E at *
  generalize y % 32 = F at *
  clear h1 h2
  refine ⟨by omega, by omega, by omega⟩
theorem sm_7 {x y z o u : Nat} (ho : o < 2) (hu : u < 64) (hi : u + o * 64 = x % 64 + y % 64 + z) : ((((x / 64) % 2) + ((y / 64) % 2)) + o) / 2 < 2 ∧ u + (((((x / 64) % 2) + ((y / 64) % 2)) + o) % 2) * 64 < 128 ∧ (u + (((((x / 64) % 2) + ((y / 64) % 2)) + o) % 2) * 64) + (((((x / 64) % 2) + ((y / 64) % 2)) + o) / 2) * 128 = x % 128 + y % 128 + z := by
  have h1 : x % 128 = x % 64 + 64 * (x / 64 % 2) := @Nat.mod_mul 64 2 x
  have h2 : y % 128 = y % 64 + 64 * (y / 64 % 2) := @Nat.mod_mul 64 2 y
  have h3 : x / 64 % 2 < 2 := Nat.mod_lt _ (by decide)
  have h4 : y / 64 % 2 < 2 := Nat.mod_lt _ (by decide)
  rw [h1, h2]
  generalize x / 64 % 2 = A at *
  generalize y / 64 % 2 = C at *
  generalize x % 64 = E at *
  generalize y % 64 = F at *
  clear h1 h2
  refine ⟨by omega, by omega, by omega⟩
theorem sm_8 {x y z o u : Nat} (ho : o < 2) (hu : u < 128) (hi : u + o * 128 = x % 128 + y % 128 + z) : ((((x / 128) % 2) + ((y / 128) % 2)) + o) / 2 < 2 ∧ u + (((((x / 128) % 2) + ((y / 128) % 2)) + o) % 2) * 128 < 256 ∧ (u + (((((x / 128) % 2) + ((y / 128) % 2)) + o) % 2) * 128) + (((((x / 128) % 2) + ((y / 128) % 2)) + o) / 2) * 256 = x % 256 + y % 256 + z := by
  have h1 : x % 256 = x % 128 + 128 * (x / 128 % 2) := @Nat.mod_mul 128 2 x
  have h2 : y % 256 = y % 128 + 128 * (y / 128 % 2) := @Nat.mod_mul 128 2 y
  have h3 : x / 128 % 2 < 2 := Nat.mod_lt _ (by decide)
  have h4 : y / 128 % 2 < 2 := Nat.mod_lt _ (by decide)
  rw [h1, h2]
  generalize x / 128 % 2 = A at *
  generalize y / 128 % 2 = C at *
  generalize x % 128 = E at *
  generalize y % 128 = F at *
  clear h1 h2
  refine ⟨by omega, by omega, by omega⟩

def byt (b : Int64) (m : Nat) : Nat := b.toBitVec.toNat / 2 ^ (8 * m) % 256
theorem byt_lt (b : Int64) (m : Nat) : byt b m < 256 := Nat.mod_lt _ (by decide)
theorem by_s : ∀ m, m < 8 → ((nI (8 * m)).toInt64.toUInt64 &&& Int64.toUInt64 63) = UInt64.ofNat (8 * m) := by decide +kernel
theorem by_r : ∀ m, m < 8 → ((nI (8 * m)).toInt64 &&& 63) = Int64.ofNat (8 * m) := by decide +kernel
theorem by_n : ∀ m, m < 8 → (UInt64.ofNat (8 * m)).toNat % 64 = 8 * m := by decide +kernel
theorem byt_c (b : Int64) {m : Nat} (hm : m < 8) : (b.toUInt64 >>> ((nI (8 * m)).toInt64.toUInt64 &&& Int64.toUInt64 63)).toInt64.toInt32 &&& nI 255 = nI (byt b m) := by
  rw [by_s m hm]
  apply Int32.toBitVec_inj.1
  apply BitVec.eq_of_toNat_eq
  show (((b.toUInt64 >>> UInt64.ofNat (8 * m)).toBitVec.signExtend 32) &&& 255#32).toNat = (BitVec.ofNat 32 (byt b m)).toNat
  rw [BitVec.signExtend_eq_setWidth_of_le _ (by omega)]
  simp only [BitVec.toNat_and, BitVec.toNat_setWidth, BitVec.toNat_ofNat]
  have e : (b.toUInt64 >>> UInt64.ofNat (8 * m)).toBitVec.toNat = b.toBitVec.toNat / 2 ^ (8 * m) := by
    have := UInt64.toNat_shiftRight b.toUInt64 (UInt64.ofNat (8 * m))
    rw [by_n m hm, Nat.shiftRight_eq_div_pow] at this
    exact this
  rw [e]
  have h255 : (255 : Nat) % 2 ^ 32 = 2 ^ 8 - 1 := by decide
  rw [h255, Nat.and_two_pow_sub_one_eq_mod]
  unfold byt
  omega
theorem byt_r (b : Int64) {m : Nat} (hm : m < 8) : ((b >>> ((nI (8 * m)).toInt64 &&& 63)) &&& lN 255).toInt32 = nI (byt b m) := by
  rw [by_r m hm]
  apply Int32.toBitVec_inj.1
  show (((b >>> Int64.ofNat (8 * m)).toBitVec &&& 255#64).signExtend 32) = BitVec.ofNat 32 (byt b m)
  rw [BitVec.signExtend_eq_setWidth_of_le _ (by omega)]
  have e : (b >>> Int64.ofNat (8 * m)).toBitVec = b.toBitVec.sshiftRight (8 * m) := by
    rcases (by omega : m = 0 ∨ m = 1 ∨ m = 2 ∨ m = 3 ∨ m = 4 ∨ m = 5 ∨ m = 6 ∨ m = 7) with rfl | rfl | rfl | rfl | rfl | rfl | rfl | rfl <;> rfl
  rw [e]
  have z_e2 : b.toBitVec.sshiftRight (8 * m) &&& 255#64 = (b.toBitVec >>> (8 * m)) &&& 255#64 := by
    apply BitVec.eq_of_getLsbD_eq
    intro i hi
    by_cases h8 : i < 8
    · rw [BitVec.getLsbD_and, BitVec.getLsbD_and, BitVec.getLsbD_sshiftRight, BitVec.getLsbD_ushiftRight, if_pos (show 8 * m + i < 64 by omega)]
      have : decide (64 ≤ i) = false := decide_eq_false (by omega)
      rw [this]
      rfl
    · have : (255#64).getLsbD i = false := by
        rw [show (255#64) = BitVec.ofNat 64 (2 ^ 8 - 1) from rfl, BitVec.getLsbD_ofNat, Nat.testBit_two_pow_sub_one]
        simp [h8]
      simp [this]
  rw [z_e2]
  apply BitVec.eq_of_toNat_eq
  simp only [BitVec.toNat_and, BitVec.toNat_setWidth, BitVec.toNat_ofNat, BitVec.toNat_ushiftRight, Nat.shiftRight_eq_div_pow]
  have h255 : (255 : Nat) % 2 ^ 64 = 2 ^ 8 - 1 := by decide
  rw [h255, Nat.and_two_pow_sub_one_eq_mod]
  unfold byt
  omega
theorem rw_a {x : Int32} {B : Nat} (h : x < 0 ∨ nI B ≤ x) (h0 : ¬ x < 0) (h1 : x < nI B) : False := by
  rcases h with h | h
  · exact h0 h
  · exact Int32.not_lt.mpr h h1
theorem rw_b {x : Int32} {C : Nat} (hC : C + 1 < 2 ^ 31) (h : x < 0 ∨ nI (C + 1) ≤ x) (h0 : ¬ x < 0) (h1 : x ≤ nI C) : False := by
  rcases h with h | h
  · exact h0 h
  · rw [Int32.le_iff_toInt_le, nI_toInt hC] at h
    rw [Int32.le_iff_toInt_le, nI_toInt (by omega)] at h1
    omega
theorem rw_c {x : Int32} {C : Nat} (hC : C + 1 < 2 ^ 31) (h : x < 0 ∨ nI (C + 1) ≤ x) (h0 : ¬ x < 0) (h1 : ¬ nI C < x) : False := rw_b hC h h0 (Int32.not_lt.mp h1)
theorem rw_d {x : Int32} {C : Nat} (hC : C + 1 < 2 ^ 31) (h : x < nI 1 ∨ nI (C + 1) ≤ x) (h0 : ¬ x < nI 1) (h1 : x ≤ nI C) : False := by
  rcases h with h | h
  · exact h0 h
  · rw [Int32.le_iff_toInt_le, nI_toInt hC] at h
    rw [Int32.le_iff_toInt_le, nI_toInt (by omega)] at h1
    omega
theorem rw_e {x : Int32} {C : Nat} (hC : C + 1 < 2 ^ 31) (h : x < nI 1 ∨ nI (C + 1) ≤ x) (h0 : ¬ x < nI 1) (h1 : ¬ nI C < x) : False := rw_d hC h h0 (Int32.not_lt.mp h1)
theorem rw_t {x : Int32} {B : Nat} (hB : B + 1 < 2 ^ 31) (h : x < 0 ∨ nI (B + 1) ≤ x) : x.toInt < 0 ∨ (B : Int) < x.toInt := by
  rcases h with h | h
  · left
    rw [Int32.lt_iff_toInt_lt] at h
    exact h
  · right
    rw [Int32.le_iff_toInt_le, nI_toInt hB] at h
    omega
def zl_A (f : Nat → Nat) (d n : Nat) (b : Int64) (i : Nat) : Nat → Nat := fun j => if d ≤ j ∧ j < d + i then byt b (d + n - 1 - j) else f j
def zl_B (f : Nat → Nat) (d n : Nat) (b : Int64) (k : Nat) : Nat → Nat := fun j => if d + n - k ≤ j ∧ j < d + n then byt b (d + n - 1 - j) else f j
theorem zl_A0 (f : Nat → Nat) (d n : Nat) (b : Int64) : zl_A f d n b 0 = f := by
  funext j
  exact if_neg (by omega)
theorem zl_B0 (f : Nat → Nat) (d n : Nat) (b : Int64) : zl_B f d n b 0 = f := by
  funext j
  exact if_neg (by omega)
theorem zl_As (f : Nat → Nat) {d n i : Nat} (b : Int64) (h : i < n) : z_fs (zl_A f d n b i) (d + i) (byt b (n - 1 - i)) = zl_A f d n b (i + 1) := by
  funext j
  unfold z_fs zl_A
  by_cases hj : j = d + i
  · rw [if_pos hj, if_pos (by omega)]
    exact congrArg (byt b) (by omega)
  · rw [if_neg hj]
    by_cases h2 : d ≤ j ∧ j < d + i
    · rw [if_pos h2, if_pos (by omega)]
    · rw [if_neg h2, if_neg (by omega)]
theorem zl_Bs (f : Nat → Nat) {d n k : Nat} (b : Int64) (h : k < n) : z_fs (zl_B f d n b k) (d + n - 1 - k) (byt b k) = zl_B f d n b (k + 1) := by
  funext j
  unfold z_fs zl_B
  by_cases hj : j = d + n - 1 - k
  · rw [if_pos hj, if_pos (by omega)]
    exact congrArg (byt b) (by omega)
  · rw [if_neg hj]
    by_cases h2 : d + n - k ≤ j ∧ j < d + n
    · rw [if_pos h2, if_pos (by omega)]
    · rw [if_neg h2, if_neg (by omega)]
theorem zl_AB (f : Nat → Nat) (d n : Nat) (b : Int64) : zl_B f d n b n = zl_A f d n b n := by
  funext j
  unfold zl_A zl_B
  by_cases h2 : d ≤ j ∧ j < d + n
  · rw [if_pos (by omega), if_pos h2]
  · rw [if_neg (by omega), if_neg h2]
theorem zl_Alt {f : Nat → Nat} (hf : ∀ j, f j < 256) (d n : Nat) (b : Int64) (i : Nat) : ∀ j, zl_A f d n b i j < 256 := fun j => by
  unfold zl_A
  split
  · exact byt_lt _ _
  · exact hf j
theorem zl_Blt {f : Nat → Nat} (hf : ∀ j, f j < 256) (d n : Nat) (b : Int64) (i : Nat) : ∀ j, zl_B f d n b i j < 256 := fun j => by
  unfold zl_B
  split
  · exact byt_lt _ _
  · exact hf j
-- the faces in numbers
def zf_reg (σ : z_St) (r : Nat) : Nat := if r = 8 then z_fb σ else if r = 9 then z_x_sp σ else if r = 10 then z_x_pc σ else z_rg σ r
def zf_set (σ : z_St) (r v : Nat) : z_St := if r = 9 then z_s_sp σ v else if r = 8 then z_ff σ v else z_s_reg σ (z_fs (z_x_reg σ) r v)
def zf_is (σ : z_St) (r : Nat) : Nat := if r = 0 then z_x_ha σ else if r = 1 then z_x_it σ else if z_x_wa σ = 0 then 0 else 1
theorem rd_in {σ : z_St} {a : Nat} (h : a < 1024) : z_rd σ a = z_x_mem σ a := if_pos h
theorem zl_wr {σ : z_St} {d n i : Nat} (b : Int64) (h : i < n) (hd : d + n ≤ 1024) : z_wr (z_s_mem σ (zl_A (z_x_mem σ) d n b i)) (d + i) (byt b (n - 1 - i)) = z_s_mem σ (zl_A (z_x_mem σ) d n b (i + 1)) := by
  unfold z_wr
  rw [ss_mem]
  have e : z_x_mem (z_s_mem σ (zl_A (z_x_mem σ) d n b i)) = zl_A (z_x_mem σ) d n b i := rfl
  rw [e]
  unfold z_fw
  rw [if_pos (by omega), zl_As _ b h]
theorem zf_regS {σ : z_St} {r : Nat} (h : r < 8) : z_rg σ r = zf_reg σ r := ((if_neg (by omega)).trans ((if_neg (by omega)).trans (if_neg (by omega)))).symm
theorem zf_reg8 (σ : z_St) : z_fb σ = zf_reg σ 8 := rfl
theorem zf_reg9 (σ : z_St) : z_x_sp σ = zf_reg σ 9 := rfl
theorem zf_regT (σ : z_St) : z_x_pc σ = zf_reg σ 10 := rfl
theorem zf_set9 (σ : z_St) (v : Nat) : z_s_sp σ v = zf_set σ 9 v := rfl
theorem zf_set8 (σ : z_St) (v : Nat) : z_ff σ v = zf_set σ 8 v := rfl
theorem zf_setS {σ : z_St} {r : Nat} (v : Nat) (h : r < 8) : z_s_reg σ (z_fs (z_x_reg σ) r v) = zf_set σ r v := ((if_neg (by omega)).trans (if_neg (by omega))).symm
theorem zf_is2 {σ : z_St} : (if z_x_wa σ = 0 then 0 else 1) = zf_is σ 2 := rfl
theorem zf_isL {σ : z_St} (h : z_Ok σ) (r : Nat) : zf_is σ r < 2 := by
  have h1 := z_k_ha h
  have h2 := z_k_it h
  unfold zf_is
  (repeat' split) <;> omega
theorem z_ok_zset {σ : z_St} (h : z_Ok σ) {r v : Nat} (hv : v < 65536) (h2 : r ≠ 9 → v < 256) : z_Ok (zf_set σ r v) := by
  unfold zf_set
  split
  · exact z_ok_sp h hv
  · split
    · exact z_ok_ff h v
    · exact z_ok_reg h (z_fs_lt (z_k_reg h) (h2 (by assumption)))
theorem inv_th {σ : z_St} (h : z_InvS σ) (v : Nat) : z_InvS (z_s_th σ v) := inv_of h (z_ok_th h.1) (gha_th σ v) (gla_th σ v)
theorem inv_mem {σ : z_St} (h : z_InvS σ) {f : Nat → Nat} (hf : ∀ k, f k < 256) : z_InvS (z_s_mem σ f) := inv_of h (z_ok_mem h.1 hf) (gha_mem σ f) (gla_mem σ f)
theorem inv_inn {σ : z_St} (h : z_InvS σ) {f : Nat → Nat} (hf : ∀ k, f k < 256) : z_InvS (z_s_inn σ f) := inv_of h (z_ok_inn h.1 hf) (gha_inn σ f) (gla_inn σ f)
theorem inv_wa {σ : z_St} (h : z_InvS σ) {v : Nat} (hv : v < 9) : z_InvS (z_s_wa σ v) := inv_of h (z_ok_wa h.1 hv) (gha_wa σ v) (gla_wa σ v)
theorem inv_start {σ : z_St} (h : z_InvS σ) {v : Nat} (hv : v < 65536) : z_InvS (z_s_ha (z_s_pc σ v) 0) := ⟨z_ok_ha (z_ok_pc h.1 hv) (by decide), fun q => by rw [gha_self] at q; exact absurd q (by decide)⟩
theorem inv_zset {σ : z_St} (h : z_InvS σ) {r v : Nat} (hv : v < 65536) (h2 : r ≠ 9 → v < 256) : z_InvS (zf_set σ r v) := by
  refine inv_of h (z_ok_zset h.1 hv h2) ?_ ?_
  · unfold zf_set
    (repeat' split)
    · rw [gha_sp]
    · rw [gha_ff]
    · rw [gha_reg]
  · unfold zf_set
    (repeat' split)
    · rw [gla_sp]
    · rw [gla_ff]
    · rw [gla_reg]
/-- what a new object is -/
def z_0 : z_St := z_mkS (fun _ => 0) (fun _ => 0) (fun _ => 0) (fun _ => 0) 0 0 0 0 0 0 0 0 0 0 0 0 0
theorem inv_0 : z_InvS z_0 := ⟨⟨fun _ => (by decide : 0 < 256), fun _ => (by decide : 0 < 256), fun _ => (by decide : 0 < 256), fun _ => (by decide : 0 < 257), by decide, by decide, by decide, by decide, by decide, by decide, by decide, by decide, by decide, by decide, by decide⟩, fun _ => rfl⟩
theorem rw_in {x : Int32} {B : Nat} (hB : B < 2 ^ 31) (h : ¬ (x < 0 ∨ nI B ≤ x)) : ∃ n : Nat, n < B ∧ x = nI n := by
  obtain ⟨j, hj, e⟩ := nI_of (fun q => h (Or.inl q))
  refine ⟨j, ?_, e⟩
  subst e
  by_cases q : j < B
  · exact q
  · exact absurd (Or.inr ((nI_leI hB hj).mpr (by omega))) h
theorem rw_in1 {x : Int32} {B : Nat} (hB : B < 2 ^ 31) (h : ¬ (x < nI 1 ∨ nI B ≤ x)) : ∃ n : Nat, 1 ≤ n ∧ n < B ∧ x = nI n := by
  have h0 : ¬ x < 0 := fun q => h (Or.inl (by
    rw [Int32.lt_iff_toInt_lt] at q ⊢
    rw [nI_toInt (by decide)]
    exact Int.lt_trans q (by decide)))
  obtain ⟨j, hj, e⟩ := nI_of h0
  subst e
  refine ⟨j, ?_, ?_, rfl⟩
  · by_cases q : 1 ≤ j
    · exact q
    · exact absurd (Or.inl ((nI_ltI hj (by decide)).mpr (by omega))) h
  · by_cases q : j < B
    · exact q
    · exact absurd (Or.inr ((nI_leI hB hj).mpr (by omega))) h
theorem xmem_self (τ : z_St) (v : Nat → Nat) : z_x_mem (z_s_mem τ v) = v := rfl

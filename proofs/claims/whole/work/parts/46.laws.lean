theorem ea_1a {σ : z_St} {b : Nat} (hb : b < 64) (h : b % 8 = 1) (h2 : b / 8 % 2 = 0) : z_ea σ b = z_ps (z_nn σ) (b / 16) (z_nw σ) := by
  have e : b / 16 % 4 = b / 16 := by omega
  unfold z_ea
  rw [e]
  exact (if_neg (by omega)).trans ((if_pos h).trans (if_pos h2))
theorem ea_1b {σ : z_St} {b : Nat} (hb : b < 64) (h : b % 8 = 1) (h2 : ¬ b / 8 % 2 = 0) : z_ea σ b = z_ps (z_s_ca σ ((z_pg σ 2 + z_pg σ (b / 16)) / 65536)) 2 ((z_pg σ 2 + z_pg σ (b / 16)) % 65536) := by
  have e : b / 16 % 4 = b / 16 := by omega
  unfold z_ea
  rw [e]
  exact (if_neg (by omega)).trans ((if_pos h).trans (if_neg h2))
theorem ea_3a {σ : z_St} {b : Nat} (hb : b < 64) (h : b % 8 = 3) (h2 : b / 8 % 2 = 0) : z_ea σ b = z_ps σ (b / 16) ((z_pg σ (b / 16) + 1) % 65536) := by
  have e : b / 16 % 4 = b / 16 := by omega
  unfold z_ea
  rw [e]
  refine (if_neg (by omega)).trans ((if_neg (by omega)).trans ((if_neg (by omega)).trans ((if_pos h).trans ?_)))
  rw [if_pos h2]
theorem ea_3b {σ : z_St} {b : Nat} (hb : b < 64) (h : b % 8 = 3) (h2 : ¬ b / 8 % 2 = 0) : z_ea σ b = z_ps σ (b / 16) ((z_pg σ (b / 16) + 65535) % 65536) := by
  have e : b / 16 % 4 = b / 16 := by omega
  unfold z_ea
  rw [e]
  refine (if_neg (by omega)).trans ((if_neg (by omega)).trans ((if_neg (by omega)).trans ((if_pos h).trans ?_)))
  rw [if_neg h2]
theorem ea_4 {σ : z_St} {b : Nat} (hb : b < 64) (h : b % 8 = 4) : z_ea σ b = z_rs (z_up σ (z_rg σ (b / 8))) (b / 8) ((z_rg σ (b / 8) + 1) % 256) := by
  have e : b / 8 % 8 = b / 8 := by omega
  unfold z_ea
  rw [e]
  exact (if_neg (by omega)).trans ((if_neg (by omega)).trans ((if_neg (by omega)).trans ((if_neg (by omega)).trans (if_pos h))))
theorem ea_5 {σ : z_St} {b : Nat} (hb : b < 64) (h : b % 8 = 5) : z_ea σ b = z_rs (z_dn σ (z_rg σ (b / 8))) (b / 8) ((z_rg σ (b / 8) + 255) % 256) := by
  have e : b / 8 % 8 = b / 8 := by omega
  unfold z_ea
  rw [e]
  exact (if_neg (by omega)).trans ((if_neg (by omega)).trans ((if_neg (by omega)).trans ((if_neg (by omega)).trans ((if_neg (by omega)).trans (if_pos h)))))
theorem ea_6 {σ : z_St} {b : Nat} (hb : b < 64) (h : b % 8 = 6) : z_ea σ b = z_rs (z_nx σ) (b / 8) (z_nb σ) := by
  have e : b / 8 % 8 = b / 8 := by omega
  unfold z_ea
  rw [e]
  exact (if_neg (by omega)).trans ((if_neg (by omega)).trans ((if_neg (by omega)).trans ((if_neg (by omega)).trans ((if_neg (by omega)).trans ((if_neg (by omega)).trans (if_pos h))))))

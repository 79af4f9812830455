theorem sx_i {σ : z_St} (h1 : z_x_wa σ ≠ 0) (h2 : z_x_it σ = 1) (h3 : z_x_la σ = 0) : z_sx σ = z_s_st (z_li σ) (z_x_st σ + 11) := if_pos ⟨h1, h2, h3⟩
theorem sv_i {σ : z_St} (h1 : z_x_wa σ ≠ 0) (h2 : z_x_it σ = 1) (h3 : z_x_la σ = 0) : z_sv σ = 1 := if_pos ⟨h1, h2, h3⟩
theorem sx_h {σ : z_St} (hn : ¬ (z_x_wa σ ≠ 0 ∧ z_x_it σ = 1 ∧ z_x_la σ = 0)) (hh : z_x_ha σ = 1) : z_sx σ = z_s_st σ (z_x_st σ + 4) := (if_neg hn).trans (if_pos hh)
theorem sv_h {σ : z_St} (hn : ¬ (z_x_wa σ ≠ 0 ∧ z_x_it σ = 1 ∧ z_x_la σ = 0)) (hh : z_x_ha σ = 1) : z_sv σ = 0 := (if_neg hn).trans (if_pos hh)
theorem sx_q {σ : z_St} (hn : ¬ (z_x_wa σ ≠ 0 ∧ z_x_it σ = 1 ∧ z_x_la σ = 0)) (hh : ¬ z_x_ha σ = 1) {E : z_St} {T : Nat} (he : z_ex (z_go σ) (z_nb σ) = E) (ht : z_tm (z_go σ) (z_nb σ) = T) : z_sx σ = z_s_st E (z_x_st σ + T) := by
  rw [← he, ← ht]
  exact (if_neg hn).trans (if_neg hh)
theorem sv_q {σ : z_St} (hn : ¬ (z_x_wa σ ≠ 0 ∧ z_x_it σ = 1 ∧ z_x_la σ = 0)) (hh : ¬ z_x_ha σ = 1) : z_sv σ = 1 := (if_neg hn).trans (if_neg hh)
theorem st_wr (τ : z_St) (a v : Nat) : z_x_st (z_wr τ a v) = z_x_st τ := rfl
theorem st_sp (τ : z_St) (v : Nat) : z_x_st (z_s_sp τ v) = z_x_st τ := rfl
theorem st_pc (τ : z_St) (v : Nat) : z_x_st (z_s_pc τ v) = z_x_st τ := rfl
theorem st_p1 (τ : z_St) (v : Nat) : z_x_st (z_p1 τ v) = z_x_st τ := by
  unfold z_p1
  rw [st_wr, st_sp]
theorem st_pu (τ : z_St) (v : Nat) : z_x_st (z_pu τ v) = z_x_st τ := by
  unfold z_pu
  rw [st_p1, st_p1]
theorem st_ct (τ : z_St) (v : Nat) : z_x_st (z_ct τ v) = z_x_st τ := by
  unfold z_ct
  rw [st_pc, st_pu]
theorem st_ha (τ : z_St) (v : Nat) : z_x_st (z_s_ha τ v) = z_x_st τ := rfl
theorem st_it (τ : z_St) (v : Nat) : z_x_st (z_s_it τ v) = z_x_st τ := rfl
theorem st_wa (τ : z_St) (v : Nat) : z_x_st (z_s_wa τ v) = z_x_st τ := rfl
theorem st_li (σ : z_St) : z_x_st (z_li σ) = z_x_st σ := by
  unfold z_li
  rw [st_wa, st_ct, st_ha, st_it]

theorem dv_of {σ : z_St} {v R : Nat} (hD : z_d6 σ v = R) (hH : 159 < R ∨ z_x_ca σ = 1) : (R + 96) % 256 = z_dv σ v := by
  unfold z_dv z_dh
  rw [hD, if_pos hH]
theorem dv_of0 {σ : z_St} {v R : Nat} (hD : z_d6 σ v = R) (hH : ¬ (159 < R ∨ z_x_ca σ = 1)) : R % 256 = z_dv σ v := by
  unfold z_dv z_dh
  rw [hD, if_neg hH, Nat.mul_zero, Nat.add_zero]
theorem dd_of {σ : z_St} {v R X : Nat} (hX : X = (if 9 < v % 16 then 1 else 0)) (hD : z_d6 σ v = R) (hH : 159 < R ∨ z_x_ca σ = 1) : z_jd (z_s_ca (z_s_au σ X) 1) ((R + 96) % 256) = z_dd σ v := by
  unfold z_dd
  rw [← dv_of hD hH, hX]
  unfold z_dh
  rw [hD, if_pos hH]
theorem dd_of0 {σ : z_St} {v R X : Nat} (hX : X = (if 9 < v % 16 then 1 else 0)) (hD : z_d6 σ v = R) (hH : ¬ (159 < R ∨ z_x_ca σ = 1)) (hc : z_x_ca σ < 2) : z_jd (z_s_au σ X) (R % 256) = z_dd σ v := by
  have e := sx_ca (z_s_au σ X)
  have e0 : z_x_ca (z_s_au σ X) = 0 := show z_x_ca σ = 0 by omega
  rw [e0] at e
  unfold z_dd
  rw [← dv_of0 hD hH, ← hX]
  unfold z_dh
  rw [hD, if_neg hH, e]

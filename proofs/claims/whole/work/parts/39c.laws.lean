theorem rk_c {σ : z_St} {k b : Nat} {J : z_St} {V : Nat} (hJ : J = z_cm σ k (z_x_reg σ 7) b) (hV : V = z_cv σ k (z_x_reg σ 7) b) : z_s_reg J (z_fs (z_x_reg σ) 7 V) = z_rk σ k b := by
  subst hJ hV
  rfl
theorem kt_0 (σ : z_St) (a b : Nat) : z_jd (z_s_ca (z_s_au σ (z_g1 a b 0)) (z_g2 a b 0)) ((a + b + 0) % 256) = z_cm σ 0 a b := rfl
theorem kt_1 (σ : z_St) (a b : Nat) : z_jd (z_s_ca (z_s_au σ (z_g1 a b (z_x_ca σ))) (z_g2 a b (z_x_ca σ))) ((a + b + z_x_ca σ) % 256) = z_cm σ 1 a b := rfl
theorem kt_2 (σ : z_St) (a b : Nat) : z_jd (z_s_ca (z_s_au σ (z_g1 a (255 - b) (1 - 0))) (1 - z_g2 a (255 - b) (1 - 0))) ((a + (255 - b) + (1 - 0)) % 256) = z_cm σ 2 a b := rfl
theorem kt_3 (σ : z_St) (a b : Nat) : z_jd (z_s_ca (z_s_au σ (z_g1 a (255 - b) (1 - z_x_ca σ))) (1 - z_g2 a (255 - b) (1 - z_x_ca σ))) ((a + (255 - b) + (1 - z_x_ca σ)) % 256) = z_cm σ 3 a b := rfl
theorem kt_7 (σ : z_St) (a b : Nat) : z_jd (z_s_ca (z_s_au σ (z_g1 a (255 - b) (1 - 0))) (1 - z_g2 a (255 - b) (1 - 0))) ((a + (255 - b) + (1 - 0)) % 256) = z_cm σ 7 a b := rfl
theorem kt_5 (σ : z_St) (a b : Nat) : z_jd (z_s_ca (z_s_au σ 0) 0) (a ^^^ b) = z_cm σ 5 a b := rfl
theorem kt_6 (σ : z_St) (a b : Nat) : z_jd (z_s_ca (z_s_au σ 0) 0) (a ||| b) = z_cm σ 6 a b := rfl
theorem kv_0 (σ : z_St) (a b : Nat) : (a + b + 0) % 256 = z_cv σ 0 a b := rfl
theorem kv_2 (σ : z_St) (a b : Nat) : (a + (255 - b) + (1 - 0)) % 256 = z_cv σ 2 a b := rfl
theorem reg_ca (τ : z_St) (v : Nat) : z_x_reg (z_s_ca τ v) = z_x_reg τ := by
  simp only [z_mkS, z_x_mem, z_x_reg, z_x_inn, z_x_put, z_x_sp, z_x_pc, z_x_ha, z_x_it, z_x_la, z_x_wa, z_x_sg, z_x_ze, z_x_au, z_x_pa, z_x_ca, z_x_st, z_x_th, z_s_mem, z_s_reg, z_s_inn, z_s_put, z_s_sp, z_s_pc, z_s_ha, z_s_it, z_s_la, z_s_wa, z_s_sg, z_s_ze, z_s_au, z_s_pa, z_s_ca, z_s_st, z_s_th]
theorem reg_au (τ : z_St) (v : Nat) : z_x_reg (z_s_au τ v) = z_x_reg τ := by
  simp only [z_mkS, z_x_mem, z_x_reg, z_x_inn, z_x_put, z_x_sp, z_x_pc, z_x_ha, z_x_it, z_x_la, z_x_wa, z_x_sg, z_x_ze, z_x_au, z_x_pa, z_x_ca, z_x_st, z_x_th, z_s_mem, z_s_reg, z_s_inn, z_s_put, z_s_sp, z_s_pc, z_s_ha, z_s_it, z_s_la, z_s_wa, z_s_sg, z_s_ze, z_s_au, z_s_pa, z_s_ca, z_s_st, z_s_th]
theorem reg_jd (τ : z_St) (v : Nat) : z_x_reg (z_jd τ v) = z_x_reg τ := by
  unfold z_jd
  simp only [z_mkS, z_x_mem, z_x_reg, z_x_inn, z_x_put, z_x_sp, z_x_pc, z_x_ha, z_x_it, z_x_la, z_x_wa, z_x_sg, z_x_ze, z_x_au, z_x_pa, z_x_ca, z_x_st, z_x_th, z_s_mem, z_s_reg, z_s_inn, z_s_put, z_s_sp, z_s_pc, z_s_ha, z_s_it, z_s_la, z_s_wa, z_s_sg, z_s_ze, z_s_au, z_s_pa, z_s_ca, z_s_st, z_s_th]

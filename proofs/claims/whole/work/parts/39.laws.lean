theorem z_fs_same (f : Nat → Nat) (k : Nat) : z_fs f k (f k) = f := by
  funext j
  unfold z_fs
  split
  · rename_i h
    rw [h]
  · rfl
theorem rk_7 (σ : z_St) (b : Nat) : z_rk σ 7 b = z_cm σ 7 (z_x_reg σ 7) b := by
  have e : z_cv σ 7 (z_x_reg σ 7) b = z_x_reg σ 7 := rfl
  unfold z_rk
  rw [e, z_fs_same]
  exact sx_reg (z_cm σ 7 (z_x_reg σ 7) b)
theorem rk_4 {σ : z_St} {b X : Nat} (h : (if z_x_reg σ 7 / 8 % 2 = 1 ∨ b / 8 % 2 = 1 then 1 else 0) = X) : z_s_reg (z_jd (z_s_ca (z_s_au σ X) 0) (z_x_reg σ 7 &&& b)) (z_fs (z_x_reg σ) 7 (z_x_reg σ 7 &&& b)) = z_rk σ 4 b := by
  subst h
  rfl
theorem rg_jd (σ : z_St) (f : Nat → Nat) (h c v : Nat) : z_jd (z_s_ca (z_s_au (z_s_reg σ f) h) c) v = z_s_reg (z_jd (z_s_ca (z_s_au σ h) c) v) f := by
  unfold z_jd
  simp only [z_mkS, z_x_mem, z_x_reg, z_x_inn, z_x_put, z_x_sp, z_x_pc, z_x_ha, z_x_it, z_x_la, z_x_wa, z_x_sg, z_x_ze, z_x_au, z_x_pa, z_x_ca, z_x_st, z_x_th, z_s_mem, z_s_reg, z_s_inn, z_s_put, z_s_sp, z_s_pc, z_s_ha, z_s_it, z_s_la, z_s_wa, z_s_sg, z_s_ze, z_s_au, z_s_pa, z_s_ca, z_s_st, z_s_th]
theorem dec_of {σ : z_St} {v V X Y : Nat} (hX : X = (if 9 < v % 16 then 1 else 0)) (hY : Y = z_dh σ v) (hV : V = z_dv σ v) : z_s_ca (z_s_au (z_jd (z_s_reg σ (z_fs (z_x_reg σ) 7 V)) V) X) Y = z_A7 (z_dd σ v) (z_dv σ v) := by
  subst hX hY hV
  unfold z_A7 z_dd z_jd
  simp only [z_mkS, z_x_mem, z_x_reg, z_x_inn, z_x_put, z_x_sp, z_x_pc, z_x_ha, z_x_it, z_x_la, z_x_wa, z_x_sg, z_x_ze, z_x_au, z_x_pa, z_x_ca, z_x_st, z_x_th, z_s_mem, z_s_reg, z_s_inn, z_s_put, z_s_sp, z_s_pc, z_s_ha, z_s_it, z_s_la, z_s_wa, z_s_sg, z_s_ze, z_s_au, z_s_pa, z_s_ca, z_s_st, z_s_th]
theorem dh_of {σ : z_St} {v R : Nat} (hD : z_d6 σ v = R) (hH : 159 < R ∨ z_x_ca σ = 1) : 1 = z_dh σ v := by
  unfold z_dh
  rw [hD, if_pos hH]
theorem dh_of0 {σ : z_St} {v R : Nat} (hD : z_d6 σ v = R) (hH : ¬ (159 < R ∨ z_x_ca σ = 1)) : 0 = z_dh σ v := by
  unfold z_dh
  rw [hD, if_neg hH]
theorem z_fs_comm (f : Nat → Nat) (u v : Nat) : z_fs (z_fs f 4 u) 5 v = z_fs (z_fs f 5 v) 4 u := by
  funext j
  unfold z_fs
  split
  · rename_i h
    subst h
    rfl
  · rfl
theorem ps_2 (σ : z_St) (w : Nat) : z_ps σ 2 w = z_s_reg σ (z_fs (z_fs (z_x_reg σ) 4 (w / 256)) 5 (w % 256)) := by
  unfold z_ps
  rw [if_neg (by decide), if_neg (by decide), sx_sp]
theorem pg_2 (σ : z_St) : z_pg σ 2 = z_x_reg σ 4 * 256 + z_x_reg σ 5 := rfl
theorem wr_reg (σ : z_St) (f : Nat → Nat) (a v : Nat) : z_wr (z_s_reg σ f) a v = z_s_reg (z_wr σ a v) f := by
  unfold z_wr
  simp only [z_mkS, z_x_mem, z_x_reg, z_x_inn, z_x_put, z_x_sp, z_x_pc, z_x_ha, z_x_it, z_x_la, z_x_wa, z_x_sg, z_x_ze, z_x_au, z_x_pa, z_x_ca, z_x_st, z_x_th, z_s_mem, z_s_reg, z_s_inn, z_s_put, z_s_sp, z_s_pc, z_s_ha, z_s_it, z_s_la, z_s_wa, z_s_sg, z_s_ze, z_s_au, z_s_pa, z_s_ca, z_s_st, z_s_th]
theorem xs_r {σ : z_St} (h : z_Ok σ) : z_wr (z_wr (z_ps σ 2 ((z_rd σ (z_x_sp σ) + 256 * z_rd σ ((z_x_sp σ + 1) % 65536)) % 65536)) (z_x_sp σ) (z_pg σ 2 % 256)) ((z_x_sp σ + 1) % 65536) (z_pg σ 2 / 256) = z_xs σ := by
  have h1 := z_rd_lt h (z_x_sp σ)
  have h2 := z_rd_lt h ((z_x_sp σ + 1) % 65536)
  have h4 := z_k_reg h 4
  have h5 := z_k_reg h 5
  rw [ps_2, pg_2, z_fs_comm]
  unfold z_xs
  generalize z_rd σ (z_x_sp σ) = lo at *
  generalize z_rd σ ((z_x_sp σ + 1) % 65536) = hi at *
  rw [show (lo + 256 * hi) % 65536 / 256 = hi by omega, show (lo + 256 * hi) % 65536 % 256 = lo by omega, show (z_x_reg σ 4 * 256 + z_x_reg σ 5) % 256 = z_x_reg σ 5 by omega, show (z_x_reg σ 4 * 256 + z_x_reg σ 5) / 256 = z_x_reg σ 4 by omega, wr_reg, wr_reg]

theorem gth_mem (τ : z_St) (v : Nat → Nat) : z_x_th (z_s_mem τ v) = z_x_th τ := by
  simp only [z_mkS, z_x_mem, z_x_reg, z_x_inn, z_x_put, z_x_sp, z_x_pc, z_x_ha, z_x_it, z_x_la, z_x_wa, z_x_sg, z_x_ze, z_x_au, z_x_pa, z_x_ca, z_x_st, z_x_th, z_s_mem, z_s_reg, z_s_inn, z_s_put, z_s_sp, z_s_pc, z_s_ha, z_s_it, z_s_la, z_s_wa, z_s_sg, z_s_ze, z_s_au, z_s_pa, z_s_ca, z_s_st, z_s_th]
theorem gth_reg (τ : z_St) (v : Nat → Nat) : z_x_th (z_s_reg τ v) = z_x_th τ := by
  simp only [z_mkS, z_x_mem, z_x_reg, z_x_inn, z_x_put, z_x_sp, z_x_pc, z_x_ha, z_x_it, z_x_la, z_x_wa, z_x_sg, z_x_ze, z_x_au, z_x_pa, z_x_ca, z_x_st, z_x_th, z_s_mem, z_s_reg, z_s_inn, z_s_put, z_s_sp, z_s_pc, z_s_ha, z_s_it, z_s_la, z_s_wa, z_s_sg, z_s_ze, z_s_au, z_s_pa, z_s_ca, z_s_st, z_s_th]
theorem gth_inn (τ : z_St) (v : Nat → Nat) : z_x_th (z_s_inn τ v) = z_x_th τ := by
  simp only [z_mkS, z_x_mem, z_x_reg, z_x_inn, z_x_put, z_x_sp, z_x_pc, z_x_ha, z_x_it, z_x_la, z_x_wa, z_x_sg, z_x_ze, z_x_au, z_x_pa, z_x_ca, z_x_st, z_x_th, z_s_mem, z_s_reg, z_s_inn, z_s_put, z_s_sp, z_s_pc, z_s_ha, z_s_it, z_s_la, z_s_wa, z_s_sg, z_s_ze, z_s_au, z_s_pa, z_s_ca, z_s_st, z_s_th]
theorem gth_put (τ : z_St) (v : Nat → Nat) : z_x_th (z_s_put τ v) = z_x_th τ := by
  simp only [z_mkS, z_x_mem, z_x_reg, z_x_inn, z_x_put, z_x_sp, z_x_pc, z_x_ha, z_x_it, z_x_la, z_x_wa, z_x_sg, z_x_ze, z_x_au, z_x_pa, z_x_ca, z_x_st, z_x_th, z_s_mem, z_s_reg, z_s_inn, z_s_put, z_s_sp, z_s_pc, z_s_ha, z_s_it, z_s_la, z_s_wa, z_s_sg, z_s_ze, z_s_au, z_s_pa, z_s_ca, z_s_st, z_s_th]
theorem gth_sp (τ : z_St) (v : Nat) : z_x_th (z_s_sp τ v) = z_x_th τ := by
  simp only [z_mkS, z_x_mem, z_x_reg, z_x_inn, z_x_put, z_x_sp, z_x_pc, z_x_ha, z_x_it, z_x_la, z_x_wa, z_x_sg, z_x_ze, z_x_au, z_x_pa, z_x_ca, z_x_st, z_x_th, z_s_mem, z_s_reg, z_s_inn, z_s_put, z_s_sp, z_s_pc, z_s_ha, z_s_it, z_s_la, z_s_wa, z_s_sg, z_s_ze, z_s_au, z_s_pa, z_s_ca, z_s_st, z_s_th]
theorem gth_pc (τ : z_St) (v : Nat) : z_x_th (z_s_pc τ v) = z_x_th τ := by
  simp only [z_mkS, z_x_mem, z_x_reg, z_x_inn, z_x_put, z_x_sp, z_x_pc, z_x_ha, z_x_it, z_x_la, z_x_wa, z_x_sg, z_x_ze, z_x_au, z_x_pa, z_x_ca, z_x_st, z_x_th, z_s_mem, z_s_reg, z_s_inn, z_s_put, z_s_sp, z_s_pc, z_s_ha, z_s_it, z_s_la, z_s_wa, z_s_sg, z_s_ze, z_s_au, z_s_pa, z_s_ca, z_s_st, z_s_th]
theorem gth_ha (τ : z_St) (v : Nat) : z_x_th (z_s_ha τ v) = z_x_th τ := by
  simp only [z_mkS, z_x_mem, z_x_reg, z_x_inn, z_x_put, z_x_sp, z_x_pc, z_x_ha, z_x_it, z_x_la, z_x_wa, z_x_sg, z_x_ze, z_x_au, z_x_pa, z_x_ca, z_x_st, z_x_th, z_s_mem, z_s_reg, z_s_inn, z_s_put, z_s_sp, z_s_pc, z_s_ha, z_s_it, z_s_la, z_s_wa, z_s_sg, z_s_ze, z_s_au, z_s_pa, z_s_ca, z_s_st, z_s_th]
theorem gth_it (τ : z_St) (v : Nat) : z_x_th (z_s_it τ v) = z_x_th τ := by
  simp only [z_mkS, z_x_mem, z_x_reg, z_x_inn, z_x_put, z_x_sp, z_x_pc, z_x_ha, z_x_it, z_x_la, z_x_wa, z_x_sg, z_x_ze, z_x_au, z_x_pa, z_x_ca, z_x_st, z_x_th, z_s_mem, z_s_reg, z_s_inn, z_s_put, z_s_sp, z_s_pc, z_s_ha, z_s_it, z_s_la, z_s_wa, z_s_sg, z_s_ze, z_s_au, z_s_pa, z_s_ca, z_s_st, z_s_th]
theorem gth_la (τ : z_St) (v : Nat) : z_x_th (z_s_la τ v) = z_x_th τ := by
  simp only [z_mkS, z_x_mem, z_x_reg, z_x_inn, z_x_put, z_x_sp, z_x_pc, z_x_ha, z_x_it, z_x_la, z_x_wa, z_x_sg, z_x_ze, z_x_au, z_x_pa, z_x_ca, z_x_st, z_x_th, z_s_mem, z_s_reg, z_s_inn, z_s_put, z_s_sp, z_s_pc, z_s_ha, z_s_it, z_s_la, z_s_wa, z_s_sg, z_s_ze, z_s_au, z_s_pa, z_s_ca, z_s_st, z_s_th]
theorem gth_wa (τ : z_St) (v : Nat) : z_x_th (z_s_wa τ v) = z_x_th τ := by
  simp only [z_mkS, z_x_mem, z_x_reg, z_x_inn, z_x_put, z_x_sp, z_x_pc, z_x_ha, z_x_it, z_x_la, z_x_wa, z_x_sg, z_x_ze, z_x_au, z_x_pa, z_x_ca, z_x_st, z_x_th, z_s_mem, z_s_reg, z_s_inn, z_s_put, z_s_sp, z_s_pc, z_s_ha, z_s_it, z_s_la, z_s_wa, z_s_sg, z_s_ze, z_s_au, z_s_pa, z_s_ca, z_s_st, z_s_th]
theorem gth_sg (τ : z_St) (v : Nat) : z_x_th (z_s_sg τ v) = z_x_th τ := by
  simp only [z_mkS, z_x_mem, z_x_reg, z_x_inn, z_x_put, z_x_sp, z_x_pc, z_x_ha, z_x_it, z_x_la, z_x_wa, z_x_sg, z_x_ze, z_x_au, z_x_pa, z_x_ca, z_x_st, z_x_th, z_s_mem, z_s_reg, z_s_inn, z_s_put, z_s_sp, z_s_pc, z_s_ha, z_s_it, z_s_la, z_s_wa, z_s_sg, z_s_ze, z_s_au, z_s_pa, z_s_ca, z_s_st, z_s_th]
theorem gth_ze (τ : z_St) (v : Nat) : z_x_th (z_s_ze τ v) = z_x_th τ := by
  simp only [z_mkS, z_x_mem, z_x_reg, z_x_inn, z_x_put, z_x_sp, z_x_pc, z_x_ha, z_x_it, z_x_la, z_x_wa, z_x_sg, z_x_ze, z_x_au, z_x_pa, z_x_ca, z_x_st, z_x_th, z_s_mem, z_s_reg, z_s_inn, z_s_put, z_s_sp, z_s_pc, z_s_ha, z_s_it, z_s_la, z_s_wa, z_s_sg, z_s_ze, z_s_au, z_s_pa, z_s_ca, z_s_st, z_s_th]
theorem gth_au (τ : z_St) (v : Nat) : z_x_th (z_s_au τ v) = z_x_th τ := by
  simp only [z_mkS, z_x_mem, z_x_reg, z_x_inn, z_x_put, z_x_sp, z_x_pc, z_x_ha, z_x_it, z_x_la, z_x_wa, z_x_sg, z_x_ze, z_x_au, z_x_pa, z_x_ca, z_x_st, z_x_th, z_s_mem, z_s_reg, z_s_inn, z_s_put, z_s_sp, z_s_pc, z_s_ha, z_s_it, z_s_la, z_s_wa, z_s_sg, z_s_ze, z_s_au, z_s_pa, z_s_ca, z_s_st, z_s_th]
theorem gth_pa (τ : z_St) (v : Nat) : z_x_th (z_s_pa τ v) = z_x_th τ := by
  simp only [z_mkS, z_x_mem, z_x_reg, z_x_inn, z_x_put, z_x_sp, z_x_pc, z_x_ha, z_x_it, z_x_la, z_x_wa, z_x_sg, z_x_ze, z_x_au, z_x_pa, z_x_ca, z_x_st, z_x_th, z_s_mem, z_s_reg, z_s_inn, z_s_put, z_s_sp, z_s_pc, z_s_ha, z_s_it, z_s_la, z_s_wa, z_s_sg, z_s_ze, z_s_au, z_s_pa, z_s_ca, z_s_st, z_s_th]
theorem gth_ca (τ : z_St) (v : Nat) : z_x_th (z_s_ca τ v) = z_x_th τ := by
  simp only [z_mkS, z_x_mem, z_x_reg, z_x_inn, z_x_put, z_x_sp, z_x_pc, z_x_ha, z_x_it, z_x_la, z_x_wa, z_x_sg, z_x_ze, z_x_au, z_x_pa, z_x_ca, z_x_st, z_x_th, z_s_mem, z_s_reg, z_s_inn, z_s_put, z_s_sp, z_s_pc, z_s_ha, z_s_it, z_s_la, z_s_wa, z_s_sg, z_s_ze, z_s_au, z_s_pa, z_s_ca, z_s_st, z_s_th]
theorem gth_st (τ : z_St) (v : Nat) : z_x_th (z_s_st τ v) = z_x_th τ := by
  simp only [z_mkS, z_x_mem, z_x_reg, z_x_inn, z_x_put, z_x_sp, z_x_pc, z_x_ha, z_x_it, z_x_la, z_x_wa, z_x_sg, z_x_ze, z_x_au, z_x_pa, z_x_ca, z_x_st, z_x_th, z_s_mem, z_s_reg, z_s_inn, z_s_put, z_s_sp, z_s_pc, z_s_ha, z_s_it, z_s_la, z_s_wa, z_s_sg, z_s_ze, z_s_au, z_s_pa, z_s_ca, z_s_st, z_s_th]
theorem gth_wr (τ : z_St) (a v : Nat) : z_x_th (z_wr τ a v) = z_x_th τ := by
  unfold z_wr
  simp only [gth_mem, gth_reg, gth_inn, gth_put, gth_sp, gth_pc, gth_ha, gth_it, gth_la, gth_wa, gth_sg, gth_ze, gth_au, gth_pa, gth_ca, gth_st]
theorem gth_ps (τ : z_St) (k v : Nat) : z_x_th (z_ps τ k v) = z_x_th τ := by
  unfold z_ps
  simp only [gth_mem, gth_reg, gth_inn, gth_put, gth_sp, gth_pc, gth_ha, gth_it, gth_la, gth_wa, gth_sg, gth_ze, gth_au, gth_pa, gth_ca, gth_st, gth_wr]
theorem gth_rs (τ : z_St) (r v : Nat) : z_x_th (z_rs τ r v) = z_x_th τ := by
  unfold z_rs
  simp only [gth_mem, gth_reg, gth_inn, gth_put, gth_sp, gth_pc, gth_ha, gth_it, gth_la, gth_wa, gth_sg, gth_ze, gth_au, gth_pa, gth_ca, gth_st, gth_wr, gth_ps]
theorem gth_nx (τ : z_St) : z_x_th (z_nx τ) = z_x_th τ := by
  unfold z_nx
  simp only [gth_mem, gth_reg, gth_inn, gth_put, gth_sp, gth_pc, gth_ha, gth_it, gth_la, gth_wa, gth_sg, gth_ze, gth_au, gth_pa, gth_ca, gth_st, gth_wr, gth_ps, gth_rs]
theorem gth_nn (τ : z_St) : z_x_th (z_nn τ) = z_x_th τ := by
  unfold z_nn
  simp only [gth_mem, gth_reg, gth_inn, gth_put, gth_sp, gth_pc, gth_ha, gth_it, gth_la, gth_wa, gth_sg, gth_ze, gth_au, gth_pa, gth_ca, gth_st, gth_wr, gth_ps, gth_rs, gth_nx]
theorem gth_p1 (τ : z_St) (v : Nat) : z_x_th (z_p1 τ v) = z_x_th τ := by
  unfold z_p1
  simp only [gth_mem, gth_reg, gth_inn, gth_put, gth_sp, gth_pc, gth_ha, gth_it, gth_la, gth_wa, gth_sg, gth_ze, gth_au, gth_pa, gth_ca, gth_st, gth_wr, gth_ps, gth_rs, gth_nx, gth_nn]
theorem gth_pu (τ : z_St) (v : Nat) : z_x_th (z_pu τ v) = z_x_th τ := by
  unfold z_pu
  simp only [gth_mem, gth_reg, gth_inn, gth_put, gth_sp, gth_pc, gth_ha, gth_it, gth_la, gth_wa, gth_sg, gth_ze, gth_au, gth_pa, gth_ca, gth_st, gth_wr, gth_ps, gth_rs, gth_nx, gth_nn, gth_p1]
theorem gth_po (τ : z_St) : z_x_th (z_po τ) = z_x_th τ := by
  unfold z_po
  simp only [gth_mem, gth_reg, gth_inn, gth_put, gth_sp, gth_pc, gth_ha, gth_it, gth_la, gth_wa, gth_sg, gth_ze, gth_au, gth_pa, gth_ca, gth_st, gth_wr, gth_ps, gth_rs, gth_nx, gth_nn, gth_p1, gth_pu]
theorem gth_ct (τ : z_St) (a : Nat) : z_x_th (z_ct τ a) = z_x_th τ := by
  unfold z_ct
  simp only [gth_mem, gth_reg, gth_inn, gth_put, gth_sp, gth_pc, gth_ha, gth_it, gth_la, gth_wa, gth_sg, gth_ze, gth_au, gth_pa, gth_ca, gth_st, gth_wr, gth_ps, gth_rs, gth_nx, gth_nn, gth_p1, gth_pu, gth_po]
theorem gth_ff (τ : z_St) (v : Nat) : z_x_th (z_ff τ v) = z_x_th τ := by
  unfold z_ff
  simp only [gth_mem, gth_reg, gth_inn, gth_put, gth_sp, gth_pc, gth_ha, gth_it, gth_la, gth_wa, gth_sg, gth_ze, gth_au, gth_pa, gth_ca, gth_st, gth_wr, gth_ps, gth_rs, gth_nx, gth_nn, gth_p1, gth_pu, gth_po, gth_ct]
theorem gth_jd (τ : z_St) (v : Nat) : z_x_th (z_jd τ v) = z_x_th τ := by
  unfold z_jd
  simp only [gth_mem, gth_reg, gth_inn, gth_put, gth_sp, gth_pc, gth_ha, gth_it, gth_la, gth_wa, gth_sg, gth_ze, gth_au, gth_pa, gth_ca, gth_st, gth_wr, gth_ps, gth_rs, gth_nx, gth_nn, gth_p1, gth_pu, gth_po, gth_ct, gth_ff]
theorem gth_cs (τ : z_St) (k a b : Nat) : z_x_th (z_cs τ k a b) = z_x_th τ := by
  unfold z_cs
  simp only [gth_mem, gth_reg, gth_inn, gth_put, gth_sp, gth_pc, gth_ha, gth_it, gth_la, gth_wa, gth_sg, gth_ze, gth_au, gth_pa, gth_ca, gth_st, gth_wr, gth_ps, gth_rs, gth_nx, gth_nn, gth_p1, gth_pu, gth_po, gth_ct, gth_ff, gth_jd]
theorem gth_cm (τ : z_St) (k a b : Nat) : z_x_th (z_cm τ k a b) = z_x_th τ := by
  unfold z_cm
  simp only [gth_mem, gth_reg, gth_inn, gth_put, gth_sp, gth_pc, gth_ha, gth_it, gth_la, gth_wa, gth_sg, gth_ze, gth_au, gth_pa, gth_ca, gth_st, gth_wr, gth_ps, gth_rs, gth_nx, gth_nn, gth_p1, gth_pu, gth_po, gth_ct, gth_ff, gth_jd, gth_cs]
theorem gth_A7 (τ : z_St) (v : Nat) : z_x_th (z_A7 τ v) = z_x_th τ := by
  unfold z_A7
  simp only [gth_mem, gth_reg, gth_inn, gth_put, gth_sp, gth_pc, gth_ha, gth_it, gth_la, gth_wa, gth_sg, gth_ze, gth_au, gth_pa, gth_ca, gth_st, gth_wr, gth_ps, gth_rs, gth_nx, gth_nn, gth_p1, gth_pu, gth_po, gth_ct, gth_ff, gth_jd, gth_cs, gth_cm]
theorem gth_rk (τ : z_St) (k b : Nat) : z_x_th (z_rk τ k b) = z_x_th τ := by
  unfold z_rk
  simp only [gth_mem, gth_reg, gth_inn, gth_put, gth_sp, gth_pc, gth_ha, gth_it, gth_la, gth_wa, gth_sg, gth_ze, gth_au, gth_pa, gth_ca, gth_st, gth_wr, gth_ps, gth_rs, gth_nx, gth_nn, gth_p1, gth_pu, gth_po, gth_ct, gth_ff, gth_jd, gth_cs, gth_cm, gth_A7]
theorem gth_up (τ : z_St) (v : Nat) : z_x_th (z_up τ v) = z_x_th τ := by
  unfold z_up
  simp only [gth_mem, gth_reg, gth_inn, gth_put, gth_sp, gth_pc, gth_ha, gth_it, gth_la, gth_wa, gth_sg, gth_ze, gth_au, gth_pa, gth_ca, gth_st, gth_wr, gth_ps, gth_rs, gth_nx, gth_nn, gth_p1, gth_pu, gth_po, gth_ct, gth_ff, gth_jd, gth_cs, gth_cm, gth_A7, gth_rk]
theorem gth_dn (τ : z_St) (v : Nat) : z_x_th (z_dn τ v) = z_x_th τ := by
  unfold z_dn
  simp only [gth_mem, gth_reg, gth_inn, gth_put, gth_sp, gth_pc, gth_ha, gth_it, gth_la, gth_wa, gth_sg, gth_ze, gth_au, gth_pa, gth_ca, gth_st, gth_wr, gth_ps, gth_rs, gth_nx, gth_nn, gth_p1, gth_pu, gth_po, gth_ct, gth_ff, gth_jd, gth_cs, gth_cm, gth_A7, gth_rk, gth_up]
theorem gth_dd (τ : z_St) (v : Nat) : z_x_th (z_dd τ v) = z_x_th τ := by
  unfold z_dd
  simp only [gth_mem, gth_reg, gth_inn, gth_put, gth_sp, gth_pc, gth_ha, gth_it, gth_la, gth_wa, gth_sg, gth_ze, gth_au, gth_pa, gth_ca, gth_st, gth_wr, gth_ps, gth_rs, gth_nx, gth_nn, gth_p1, gth_pu, gth_po, gth_ct, gth_ff, gth_jd, gth_cs, gth_cm, gth_A7, gth_rk, gth_up, gth_dn]
theorem gth_ad (τ : z_St) (k : Nat) : z_x_th (z_ad τ k) = z_x_th τ := by
  unfold z_ad
  simp only [gth_mem, gth_reg, gth_inn, gth_put, gth_sp, gth_pc, gth_ha, gth_it, gth_la, gth_wa, gth_sg, gth_ze, gth_au, gth_pa, gth_ca, gth_st, gth_wr, gth_ps, gth_rs, gth_nx, gth_nn, gth_p1, gth_pu, gth_po, gth_ct, gth_ff, gth_jd, gth_cs, gth_cm, gth_A7, gth_rk, gth_up, gth_dn, gth_dd]
theorem gth_rt (τ : z_St) : z_x_th (z_rt τ) = z_x_th τ := by
  unfold z_rt
  simp only [gth_mem, gth_reg, gth_inn, gth_put, gth_sp, gth_pc, gth_ha, gth_it, gth_la, gth_wa, gth_sg, gth_ze, gth_au, gth_pa, gth_ca, gth_st, gth_wr, gth_ps, gth_rs, gth_nx, gth_nn, gth_p1, gth_pu, gth_po, gth_ct, gth_ff, gth_jd, gth_cs, gth_cm, gth_A7, gth_rk, gth_up, gth_dn, gth_dd, gth_ad]
theorem gth_xs (τ : z_St) : z_x_th (z_xs τ) = z_x_th τ := by
  unfold z_xs
  simp only [gth_mem, gth_reg, gth_inn, gth_put, gth_sp, gth_pc, gth_ha, gth_it, gth_la, gth_wa, gth_sg, gth_ze, gth_au, gth_pa, gth_ca, gth_st, gth_wr, gth_ps, gth_rs, gth_nx, gth_nn, gth_p1, gth_pu, gth_po, gth_ct, gth_ff, gth_jd, gth_cs, gth_cm, gth_A7, gth_rk, gth_up, gth_dn, gth_dd, gth_ad, gth_rt]
theorem gth_xd (τ : z_St) : z_x_th (z_xd τ) = z_x_th τ := by
  unfold z_xd
  simp only [gth_mem, gth_reg, gth_inn, gth_put, gth_sp, gth_pc, gth_ha, gth_it, gth_la, gth_wa, gth_sg, gth_ze, gth_au, gth_pa, gth_ca, gth_st, gth_wr, gth_ps, gth_rs, gth_nx, gth_nn, gth_p1, gth_pu, gth_po, gth_ct, gth_ff, gth_jd, gth_cs, gth_cm, gth_A7, gth_rk, gth_up, gth_dn, gth_dd, gth_ad, gth_rt, gth_xs]
theorem gth_e2 (τ : z_St) (k : Nat) : z_x_th (z_e2 τ k) = z_x_th τ := by
  unfold z_e2
  (repeat' split) <;> simp only [gth_mem, gth_reg, gth_inn, gth_put, gth_sp, gth_pc, gth_ha, gth_it, gth_la, gth_wa, gth_sg, gth_ze, gth_au, gth_pa, gth_ca, gth_st, gth_wr, gth_ps, gth_rs, gth_nx, gth_nn, gth_p1, gth_pu, gth_po, gth_ct, gth_ff, gth_jd, gth_cs, gth_cm, gth_A7, gth_rk, gth_up, gth_dn, gth_dd, gth_ad, gth_rt, gth_xs, gth_xd]
theorem gth_e7 (τ : z_St) (k : Nat) : z_x_th (z_e7 τ k) = z_x_th τ := by
  unfold z_e7
  (repeat' split) <;> simp only [gth_mem, gth_reg, gth_inn, gth_put, gth_sp, gth_pc, gth_ha, gth_it, gth_la, gth_wa, gth_sg, gth_ze, gth_au, gth_pa, gth_ca, gth_st, gth_wr, gth_ps, gth_rs, gth_nx, gth_nn, gth_p1, gth_pu, gth_po, gth_ct, gth_ff, gth_jd, gth_cs, gth_cm, gth_A7, gth_rk, gth_up, gth_dn, gth_dd, gth_ad, gth_rt, gth_xs, gth_xd, gth_e2]
theorem gth_pp (τ : z_St) (k : Nat) : z_x_th (z_pp τ k) = z_x_th τ := by
  unfold z_pp
  (repeat' split) <;> simp only [gth_mem, gth_reg, gth_inn, gth_put, gth_sp, gth_pc, gth_ha, gth_it, gth_la, gth_wa, gth_sg, gth_ze, gth_au, gth_pa, gth_ca, gth_st, gth_wr, gth_ps, gth_rs, gth_nx, gth_nn, gth_p1, gth_pu, gth_po, gth_ct, gth_ff, gth_jd, gth_cs, gth_cm, gth_A7, gth_rk, gth_up, gth_dn, gth_dd, gth_ad, gth_rt, gth_xs, gth_xd, gth_e2, gth_e7]
theorem gth_e3 (τ : z_St) (r : Nat) : z_x_th (z_e3 τ r) = z_x_th τ := by
  unfold z_e3
  (repeat' split) <;> simp only [gth_mem, gth_reg, gth_inn, gth_put, gth_sp, gth_pc, gth_ha, gth_it, gth_la, gth_wa, gth_sg, gth_ze, gth_au, gth_pa, gth_ca, gth_st, gth_wr, gth_ps, gth_rs, gth_nx, gth_nn, gth_p1, gth_pu, gth_po, gth_ct, gth_ff, gth_jd, gth_cs, gth_cm, gth_A7, gth_rk, gth_up, gth_dn, gth_dd, gth_ad, gth_rt, gth_xs, gth_xd, gth_e2, gth_e7, gth_pp]
theorem gth_ea (τ : z_St) (b : Nat) : z_x_th (z_ea τ b) = z_x_th τ := by
  unfold z_ea
  (repeat' split) <;> simp only [gth_mem, gth_reg, gth_inn, gth_put, gth_sp, gth_pc, gth_ha, gth_it, gth_la, gth_wa, gth_sg, gth_ze, gth_au, gth_pa, gth_ca, gth_st, gth_wr, gth_ps, gth_rs, gth_nx, gth_nn, gth_p1, gth_pu, gth_po, gth_ct, gth_ff, gth_jd, gth_cs, gth_cm, gth_A7, gth_rk, gth_up, gth_dn, gth_dd, gth_ad, gth_rt, gth_xs, gth_xd, gth_e2, gth_e7, gth_pp, gth_e3]
theorem gth_ec (τ : z_St) (b : Nat) : z_x_th (z_ec τ b) = z_x_th τ := by
  unfold z_ec
  (repeat' split) <;> simp only [gth_mem, gth_reg, gth_inn, gth_put, gth_sp, gth_pc, gth_ha, gth_it, gth_la, gth_wa, gth_sg, gth_ze, gth_au, gth_pa, gth_ca, gth_st, gth_wr, gth_ps, gth_rs, gth_nx, gth_nn, gth_p1, gth_pu, gth_po, gth_ct, gth_ff, gth_jd, gth_cs, gth_cm, gth_A7, gth_rk, gth_up, gth_dn, gth_dd, gth_ad, gth_rt, gth_xs, gth_xd, gth_e2, gth_e7, gth_pp, gth_e3, gth_ea]
theorem gth_ed (τ : z_St) (b : Nat) : z_x_th (z_ed τ b) = z_x_th τ := by
  unfold z_ed
  (repeat' split) <;> simp only [gth_mem, gth_reg, gth_inn, gth_put, gth_sp, gth_pc, gth_ha, gth_it, gth_la, gth_wa, gth_sg, gth_ze, gth_au, gth_pa, gth_ca, gth_st, gth_wr, gth_ps, gth_rs, gth_nx, gth_nn, gth_p1, gth_pu, gth_po, gth_ct, gth_ff, gth_jd, gth_cs, gth_cm, gth_A7, gth_rk, gth_up, gth_dn, gth_dd, gth_ad, gth_rt, gth_xs, gth_xd, gth_e2, gth_e7, gth_pp, gth_e3, gth_ea, gth_ec]
theorem gth_eb (τ : z_St) (b : Nat) : z_x_th (z_eb τ b) = z_x_th τ := by
  unfold z_eb
  split
  · simp only [gth_mem, gth_reg, gth_inn, gth_put, gth_sp, gth_pc, gth_ha, gth_it, gth_la, gth_wa, gth_sg, gth_ze, gth_au, gth_pa, gth_ca, gth_st, gth_wr, gth_ps, gth_rs, gth_nx, gth_nn, gth_p1, gth_pu, gth_po, gth_ct, gth_ff, gth_jd, gth_cs, gth_cm, gth_A7, gth_rk, gth_up, gth_dn, gth_dd, gth_ad, gth_rt, gth_xs, gth_xd, gth_e2, gth_e7, gth_pp, gth_e3, gth_ea, gth_ec, gth_ed]
  · simp only [gth_mem, gth_reg, gth_inn, gth_put, gth_sp, gth_pc, gth_ha, gth_it, gth_la, gth_wa, gth_sg, gth_ze, gth_au, gth_pa, gth_ca, gth_st, gth_wr, gth_ps, gth_rs, gth_nx, gth_nn, gth_p1, gth_pu, gth_po, gth_ct, gth_ff, gth_jd, gth_cs, gth_cm, gth_A7, gth_rk, gth_up, gth_dn, gth_dd, gth_ad, gth_rt, gth_xs, gth_xd, gth_e2, gth_e7, gth_pp, gth_e3, gth_ea, gth_ec, gth_ed]
theorem gth_ex (τ : z_St) (b : Nat) : z_x_th (z_ex τ b) = z_x_th τ := by
  unfold z_ex
  (repeat' split)
  · exact gth_ea τ b
  · exact gth_eb τ b
  · exact gth_ec τ b
  · exact gth_ed τ b
theorem gha_mem (τ : z_St) (v : Nat → Nat) : z_x_ha (z_s_mem τ v) = z_x_ha τ := by
  simp only [z_mkS, z_x_mem, z_x_reg, z_x_inn, z_x_put, z_x_sp, z_x_pc, z_x_ha, z_x_it, z_x_la, z_x_wa, z_x_sg, z_x_ze, z_x_au, z_x_pa, z_x_ca, z_x_st, z_x_th, z_s_mem, z_s_reg, z_s_inn, z_s_put, z_s_sp, z_s_pc, z_s_ha, z_s_it, z_s_la, z_s_wa, z_s_sg, z_s_ze, z_s_au, z_s_pa, z_s_ca, z_s_st, z_s_th]
theorem gha_reg (τ : z_St) (v : Nat → Nat) : z_x_ha (z_s_reg τ v) = z_x_ha τ := by
  simp only [z_mkS, z_x_mem, z_x_reg, z_x_inn, z_x_put, z_x_sp, z_x_pc, z_x_ha, z_x_it, z_x_la, z_x_wa, z_x_sg, z_x_ze, z_x_au, z_x_pa, z_x_ca, z_x_st, z_x_th, z_s_mem, z_s_reg, z_s_inn, z_s_put, z_s_sp, z_s_pc, z_s_ha, z_s_it, z_s_la, z_s_wa, z_s_sg, z_s_ze, z_s_au, z_s_pa, z_s_ca, z_s_st, z_s_th]
theorem gha_inn (τ : z_St) (v : Nat → Nat) : z_x_ha (z_s_inn τ v) = z_x_ha τ := by
  simp only [z_mkS, z_x_mem, z_x_reg, z_x_inn, z_x_put, z_x_sp, z_x_pc, z_x_ha, z_x_it, z_x_la, z_x_wa, z_x_sg, z_x_ze, z_x_au, z_x_pa, z_x_ca, z_x_st, z_x_th, z_s_mem, z_s_reg, z_s_inn, z_s_put, z_s_sp, z_s_pc, z_s_ha, z_s_it, z_s_la, z_s_wa, z_s_sg, z_s_ze, z_s_au, z_s_pa, z_s_ca, z_s_st, z_s_th]
theorem gha_put (τ : z_St) (v : Nat → Nat) : z_x_ha (z_s_put τ v) = z_x_ha τ := by
  simp only [z_mkS, z_x_mem, z_x_reg, z_x_inn, z_x_put, z_x_sp, z_x_pc, z_x_ha, z_x_it, z_x_la, z_x_wa, z_x_sg, z_x_ze, z_x_au, z_x_pa, z_x_ca, z_x_st, z_x_th, z_s_mem, z_s_reg, z_s_inn, z_s_put, z_s_sp, z_s_pc, z_s_ha, z_s_it, z_s_la, z_s_wa, z_s_sg, z_s_ze, z_s_au, z_s_pa, z_s_ca, z_s_st, z_s_th]
theorem gha_sp (τ : z_St) (v : Nat) : z_x_ha (z_s_sp τ v) = z_x_ha τ := by
  simp only [z_mkS, z_x_mem, z_x_reg, z_x_inn, z_x_put, z_x_sp, z_x_pc, z_x_ha, z_x_it, z_x_la, z_x_wa, z_x_sg, z_x_ze, z_x_au, z_x_pa, z_x_ca, z_x_st, z_x_th, z_s_mem, z_s_reg, z_s_inn, z_s_put, z_s_sp, z_s_pc, z_s_ha, z_s_it, z_s_la, z_s_wa, z_s_sg, z_s_ze, z_s_au, z_s_pa, z_s_ca, z_s_st, z_s_th]
theorem gha_pc (τ : z_St) (v : Nat) : z_x_ha (z_s_pc τ v) = z_x_ha τ := by
  simp only [z_mkS, z_x_mem, z_x_reg, z_x_inn, z_x_put, z_x_sp, z_x_pc, z_x_ha, z_x_it, z_x_la, z_x_wa, z_x_sg, z_x_ze, z_x_au, z_x_pa, z_x_ca, z_x_st, z_x_th, z_s_mem, z_s_reg, z_s_inn, z_s_put, z_s_sp, z_s_pc, z_s_ha, z_s_it, z_s_la, z_s_wa, z_s_sg, z_s_ze, z_s_au, z_s_pa, z_s_ca, z_s_st, z_s_th]
theorem gha_it (τ : z_St) (v : Nat) : z_x_ha (z_s_it τ v) = z_x_ha τ := by
  simp only [z_mkS, z_x_mem, z_x_reg, z_x_inn, z_x_put, z_x_sp, z_x_pc, z_x_ha, z_x_it, z_x_la, z_x_wa, z_x_sg, z_x_ze, z_x_au, z_x_pa, z_x_ca, z_x_st, z_x_th, z_s_mem, z_s_reg, z_s_inn, z_s_put, z_s_sp, z_s_pc, z_s_ha, z_s_it, z_s_la, z_s_wa, z_s_sg, z_s_ze, z_s_au, z_s_pa, z_s_ca, z_s_st, z_s_th]
theorem gha_la (τ : z_St) (v : Nat) : z_x_ha (z_s_la τ v) = z_x_ha τ := by
  simp only [z_mkS, z_x_mem, z_x_reg, z_x_inn, z_x_put, z_x_sp, z_x_pc, z_x_ha, z_x_it, z_x_la, z_x_wa, z_x_sg, z_x_ze, z_x_au, z_x_pa, z_x_ca, z_x_st, z_x_th, z_s_mem, z_s_reg, z_s_inn, z_s_put, z_s_sp, z_s_pc, z_s_ha, z_s_it, z_s_la, z_s_wa, z_s_sg, z_s_ze, z_s_au, z_s_pa, z_s_ca, z_s_st, z_s_th]
theorem gha_wa (τ : z_St) (v : Nat) : z_x_ha (z_s_wa τ v) = z_x_ha τ := by
  simp only [z_mkS, z_x_mem, z_x_reg, z_x_inn, z_x_put, z_x_sp, z_x_pc, z_x_ha, z_x_it, z_x_la, z_x_wa, z_x_sg, z_x_ze, z_x_au, z_x_pa, z_x_ca, z_x_st, z_x_th, z_s_mem, z_s_reg, z_s_inn, z_s_put, z_s_sp, z_s_pc, z_s_ha, z_s_it, z_s_la, z_s_wa, z_s_sg, z_s_ze, z_s_au, z_s_pa, z_s_ca, z_s_st, z_s_th]
theorem gha_sg (τ : z_St) (v : Nat) : z_x_ha (z_s_sg τ v) = z_x_ha τ := by
  simp only [z_mkS, z_x_mem, z_x_reg, z_x_inn, z_x_put, z_x_sp, z_x_pc, z_x_ha, z_x_it, z_x_la, z_x_wa, z_x_sg, z_x_ze, z_x_au, z_x_pa, z_x_ca, z_x_st, z_x_th, z_s_mem, z_s_reg, z_s_inn, z_s_put, z_s_sp, z_s_pc, z_s_ha, z_s_it, z_s_la, z_s_wa, z_s_sg, z_s_ze, z_s_au, z_s_pa, z_s_ca, z_s_st, z_s_th]
theorem gha_ze (τ : z_St) (v : Nat) : z_x_ha (z_s_ze τ v) = z_x_ha τ := by
  simp only [z_mkS, z_x_mem, z_x_reg, z_x_inn, z_x_put, z_x_sp, z_x_pc, z_x_ha, z_x_it, z_x_la, z_x_wa, z_x_sg, z_x_ze, z_x_au, z_x_pa, z_x_ca, z_x_st, z_x_th, z_s_mem, z_s_reg, z_s_inn, z_s_put, z_s_sp, z_s_pc, z_s_ha, z_s_it, z_s_la, z_s_wa, z_s_sg, z_s_ze, z_s_au, z_s_pa, z_s_ca, z_s_st, z_s_th]
theorem gha_au (τ : z_St) (v : Nat) : z_x_ha (z_s_au τ v) = z_x_ha τ := by
  simp only [z_mkS, z_x_mem, z_x_reg, z_x_inn, z_x_put, z_x_sp, z_x_pc, z_x_ha, z_x_it, z_x_la, z_x_wa, z_x_sg, z_x_ze, z_x_au, z_x_pa, z_x_ca, z_x_st, z_x_th, z_s_mem, z_s_reg, z_s_inn, z_s_put, z_s_sp, z_s_pc, z_s_ha, z_s_it, z_s_la, z_s_wa, z_s_sg, z_s_ze, z_s_au, z_s_pa, z_s_ca, z_s_st, z_s_th]
theorem gha_pa (τ : z_St) (v : Nat) : z_x_ha (z_s_pa τ v) = z_x_ha τ := by
  simp only [z_mkS, z_x_mem, z_x_reg, z_x_inn, z_x_put, z_x_sp, z_x_pc, z_x_ha, z_x_it, z_x_la, z_x_wa, z_x_sg, z_x_ze, z_x_au, z_x_pa, z_x_ca, z_x_st, z_x_th, z_s_mem, z_s_reg, z_s_inn, z_s_put, z_s_sp, z_s_pc, z_s_ha, z_s_it, z_s_la, z_s_wa, z_s_sg, z_s_ze, z_s_au, z_s_pa, z_s_ca, z_s_st, z_s_th]
theorem gha_ca (τ : z_St) (v : Nat) : z_x_ha (z_s_ca τ v) = z_x_ha τ := by
  simp only [z_mkS, z_x_mem, z_x_reg, z_x_inn, z_x_put, z_x_sp, z_x_pc, z_x_ha, z_x_it, z_x_la, z_x_wa, z_x_sg, z_x_ze, z_x_au, z_x_pa, z_x_ca, z_x_st, z_x_th, z_s_mem, z_s_reg, z_s_inn, z_s_put, z_s_sp, z_s_pc, z_s_ha, z_s_it, z_s_la, z_s_wa, z_s_sg, z_s_ze, z_s_au, z_s_pa, z_s_ca, z_s_st, z_s_th]
theorem gha_st (τ : z_St) (v : Nat) : z_x_ha (z_s_st τ v) = z_x_ha τ := by
  simp only [z_mkS, z_x_mem, z_x_reg, z_x_inn, z_x_put, z_x_sp, z_x_pc, z_x_ha, z_x_it, z_x_la, z_x_wa, z_x_sg, z_x_ze, z_x_au, z_x_pa, z_x_ca, z_x_st, z_x_th, z_s_mem, z_s_reg, z_s_inn, z_s_put, z_s_sp, z_s_pc, z_s_ha, z_s_it, z_s_la, z_s_wa, z_s_sg, z_s_ze, z_s_au, z_s_pa, z_s_ca, z_s_st, z_s_th]
theorem gha_th (τ : z_St) (v : Nat) : z_x_ha (z_s_th τ v) = z_x_ha τ := by
  simp only [z_mkS, z_x_mem, z_x_reg, z_x_inn, z_x_put, z_x_sp, z_x_pc, z_x_ha, z_x_it, z_x_la, z_x_wa, z_x_sg, z_x_ze, z_x_au, z_x_pa, z_x_ca, z_x_st, z_x_th, z_s_mem, z_s_reg, z_s_inn, z_s_put, z_s_sp, z_s_pc, z_s_ha, z_s_it, z_s_la, z_s_wa, z_s_sg, z_s_ze, z_s_au, z_s_pa, z_s_ca, z_s_st, z_s_th]
theorem gha_wr (τ : z_St) (a v : Nat) : z_x_ha (z_wr τ a v) = z_x_ha τ := by
  unfold z_wr
  simp only [gha_mem, gha_reg, gha_inn, gha_put, gha_sp, gha_pc, gha_it, gha_la, gha_wa, gha_sg, gha_ze, gha_au, gha_pa, gha_ca, gha_st, gha_th]
theorem gha_ps (τ : z_St) (k v : Nat) : z_x_ha (z_ps τ k v) = z_x_ha τ := by
  unfold z_ps
  simp only [gha_mem, gha_reg, gha_inn, gha_put, gha_sp, gha_pc, gha_it, gha_la, gha_wa, gha_sg, gha_ze, gha_au, gha_pa, gha_ca, gha_st, gha_th, gha_wr]
theorem gha_rs (τ : z_St) (r v : Nat) : z_x_ha (z_rs τ r v) = z_x_ha τ := by
  unfold z_rs
  simp only [gha_mem, gha_reg, gha_inn, gha_put, gha_sp, gha_pc, gha_it, gha_la, gha_wa, gha_sg, gha_ze, gha_au, gha_pa, gha_ca, gha_st, gha_th, gha_wr, gha_ps]
theorem gha_nx (τ : z_St) : z_x_ha (z_nx τ) = z_x_ha τ := by
  unfold z_nx
  simp only [gha_mem, gha_reg, gha_inn, gha_put, gha_sp, gha_pc, gha_it, gha_la, gha_wa, gha_sg, gha_ze, gha_au, gha_pa, gha_ca, gha_st, gha_th, gha_wr, gha_ps, gha_rs]
theorem gha_nn (τ : z_St) : z_x_ha (z_nn τ) = z_x_ha τ := by
  unfold z_nn
  simp only [gha_mem, gha_reg, gha_inn, gha_put, gha_sp, gha_pc, gha_it, gha_la, gha_wa, gha_sg, gha_ze, gha_au, gha_pa, gha_ca, gha_st, gha_th, gha_wr, gha_ps, gha_rs, gha_nx]
theorem gha_p1 (τ : z_St) (v : Nat) : z_x_ha (z_p1 τ v) = z_x_ha τ := by
  unfold z_p1
  simp only [gha_mem, gha_reg, gha_inn, gha_put, gha_sp, gha_pc, gha_it, gha_la, gha_wa, gha_sg, gha_ze, gha_au, gha_pa, gha_ca, gha_st, gha_th, gha_wr, gha_ps, gha_rs, gha_nx, gha_nn]
theorem gha_pu (τ : z_St) (v : Nat) : z_x_ha (z_pu τ v) = z_x_ha τ := by
  unfold z_pu
  simp only [gha_mem, gha_reg, gha_inn, gha_put, gha_sp, gha_pc, gha_it, gha_la, gha_wa, gha_sg, gha_ze, gha_au, gha_pa, gha_ca, gha_st, gha_th, gha_wr, gha_ps, gha_rs, gha_nx, gha_nn, gha_p1]
theorem gha_po (τ : z_St) : z_x_ha (z_po τ) = z_x_ha τ := by
  unfold z_po
  simp only [gha_mem, gha_reg, gha_inn, gha_put, gha_sp, gha_pc, gha_it, gha_la, gha_wa, gha_sg, gha_ze, gha_au, gha_pa, gha_ca, gha_st, gha_th, gha_wr, gha_ps, gha_rs, gha_nx, gha_nn, gha_p1, gha_pu]
theorem gha_ct (τ : z_St) (a : Nat) : z_x_ha (z_ct τ a) = z_x_ha τ := by
  unfold z_ct
  simp only [gha_mem, gha_reg, gha_inn, gha_put, gha_sp, gha_pc, gha_it, gha_la, gha_wa, gha_sg, gha_ze, gha_au, gha_pa, gha_ca, gha_st, gha_th, gha_wr, gha_ps, gha_rs, gha_nx, gha_nn, gha_p1, gha_pu, gha_po]
theorem gha_ff (τ : z_St) (v : Nat) : z_x_ha (z_ff τ v) = z_x_ha τ := by
  unfold z_ff
  simp only [gha_mem, gha_reg, gha_inn, gha_put, gha_sp, gha_pc, gha_it, gha_la, gha_wa, gha_sg, gha_ze, gha_au, gha_pa, gha_ca, gha_st, gha_th, gha_wr, gha_ps, gha_rs, gha_nx, gha_nn, gha_p1, gha_pu, gha_po, gha_ct]
theorem gha_jd (τ : z_St) (v : Nat) : z_x_ha (z_jd τ v) = z_x_ha τ := by
  unfold z_jd
  simp only [gha_mem, gha_reg, gha_inn, gha_put, gha_sp, gha_pc, gha_it, gha_la, gha_wa, gha_sg, gha_ze, gha_au, gha_pa, gha_ca, gha_st, gha_th, gha_wr, gha_ps, gha_rs, gha_nx, gha_nn, gha_p1, gha_pu, gha_po, gha_ct, gha_ff]
theorem gha_cs (τ : z_St) (k a b : Nat) : z_x_ha (z_cs τ k a b) = z_x_ha τ := by
  unfold z_cs
  simp only [gha_mem, gha_reg, gha_inn, gha_put, gha_sp, gha_pc, gha_it, gha_la, gha_wa, gha_sg, gha_ze, gha_au, gha_pa, gha_ca, gha_st, gha_th, gha_wr, gha_ps, gha_rs, gha_nx, gha_nn, gha_p1, gha_pu, gha_po, gha_ct, gha_ff, gha_jd]
theorem gha_cm (τ : z_St) (k a b : Nat) : z_x_ha (z_cm τ k a b) = z_x_ha τ := by
  unfold z_cm
  simp only [gha_mem, gha_reg, gha_inn, gha_put, gha_sp, gha_pc, gha_it, gha_la, gha_wa, gha_sg, gha_ze, gha_au, gha_pa, gha_ca, gha_st, gha_th, gha_wr, gha_ps, gha_rs, gha_nx, gha_nn, gha_p1, gha_pu, gha_po, gha_ct, gha_ff, gha_jd, gha_cs]
theorem gha_A7 (τ : z_St) (v : Nat) : z_x_ha (z_A7 τ v) = z_x_ha τ := by
  unfold z_A7
  simp only [gha_mem, gha_reg, gha_inn, gha_put, gha_sp, gha_pc, gha_it, gha_la, gha_wa, gha_sg, gha_ze, gha_au, gha_pa, gha_ca, gha_st, gha_th, gha_wr, gha_ps, gha_rs, gha_nx, gha_nn, gha_p1, gha_pu, gha_po, gha_ct, gha_ff, gha_jd, gha_cs, gha_cm]
theorem gha_rk (τ : z_St) (k b : Nat) : z_x_ha (z_rk τ k b) = z_x_ha τ := by
  unfold z_rk
  simp only [gha_mem, gha_reg, gha_inn, gha_put, gha_sp, gha_pc, gha_it, gha_la, gha_wa, gha_sg, gha_ze, gha_au, gha_pa, gha_ca, gha_st, gha_th, gha_wr, gha_ps, gha_rs, gha_nx, gha_nn, gha_p1, gha_pu, gha_po, gha_ct, gha_ff, gha_jd, gha_cs, gha_cm, gha_A7]
theorem gha_up (τ : z_St) (v : Nat) : z_x_ha (z_up τ v) = z_x_ha τ := by
  unfold z_up
  simp only [gha_mem, gha_reg, gha_inn, gha_put, gha_sp, gha_pc, gha_it, gha_la, gha_wa, gha_sg, gha_ze, gha_au, gha_pa, gha_ca, gha_st, gha_th, gha_wr, gha_ps, gha_rs, gha_nx, gha_nn, gha_p1, gha_pu, gha_po, gha_ct, gha_ff, gha_jd, gha_cs, gha_cm, gha_A7, gha_rk]
theorem gha_dn (τ : z_St) (v : Nat) : z_x_ha (z_dn τ v) = z_x_ha τ := by
  unfold z_dn
  simp only [gha_mem, gha_reg, gha_inn, gha_put, gha_sp, gha_pc, gha_it, gha_la, gha_wa, gha_sg, gha_ze, gha_au, gha_pa, gha_ca, gha_st, gha_th, gha_wr, gha_ps, gha_rs, gha_nx, gha_nn, gha_p1, gha_pu, gha_po, gha_ct, gha_ff, gha_jd, gha_cs, gha_cm, gha_A7, gha_rk, gha_up]
theorem gha_dd (τ : z_St) (v : Nat) : z_x_ha (z_dd τ v) = z_x_ha τ := by
  unfold z_dd
  simp only [gha_mem, gha_reg, gha_inn, gha_put, gha_sp, gha_pc, gha_it, gha_la, gha_wa, gha_sg, gha_ze, gha_au, gha_pa, gha_ca, gha_st, gha_th, gha_wr, gha_ps, gha_rs, gha_nx, gha_nn, gha_p1, gha_pu, gha_po, gha_ct, gha_ff, gha_jd, gha_cs, gha_cm, gha_A7, gha_rk, gha_up, gha_dn]
theorem gha_ad (τ : z_St) (k : Nat) : z_x_ha (z_ad τ k) = z_x_ha τ := by
  unfold z_ad
  simp only [gha_mem, gha_reg, gha_inn, gha_put, gha_sp, gha_pc, gha_it, gha_la, gha_wa, gha_sg, gha_ze, gha_au, gha_pa, gha_ca, gha_st, gha_th, gha_wr, gha_ps, gha_rs, gha_nx, gha_nn, gha_p1, gha_pu, gha_po, gha_ct, gha_ff, gha_jd, gha_cs, gha_cm, gha_A7, gha_rk, gha_up, gha_dn, gha_dd]
theorem gha_rt (τ : z_St) : z_x_ha (z_rt τ) = z_x_ha τ := by
  unfold z_rt
  simp only [gha_mem, gha_reg, gha_inn, gha_put, gha_sp, gha_pc, gha_it, gha_la, gha_wa, gha_sg, gha_ze, gha_au, gha_pa, gha_ca, gha_st, gha_th, gha_wr, gha_ps, gha_rs, gha_nx, gha_nn, gha_p1, gha_pu, gha_po, gha_ct, gha_ff, gha_jd, gha_cs, gha_cm, gha_A7, gha_rk, gha_up, gha_dn, gha_dd, gha_ad]
theorem gha_xs (τ : z_St) : z_x_ha (z_xs τ) = z_x_ha τ := by
  unfold z_xs
  simp only [gha_mem, gha_reg, gha_inn, gha_put, gha_sp, gha_pc, gha_it, gha_la, gha_wa, gha_sg, gha_ze, gha_au, gha_pa, gha_ca, gha_st, gha_th, gha_wr, gha_ps, gha_rs, gha_nx, gha_nn, gha_p1, gha_pu, gha_po, gha_ct, gha_ff, gha_jd, gha_cs, gha_cm, gha_A7, gha_rk, gha_up, gha_dn, gha_dd, gha_ad, gha_rt]
theorem gha_xd (τ : z_St) : z_x_ha (z_xd τ) = z_x_ha τ := by
  unfold z_xd
  simp only [gha_mem, gha_reg, gha_inn, gha_put, gha_sp, gha_pc, gha_it, gha_la, gha_wa, gha_sg, gha_ze, gha_au, gha_pa, gha_ca, gha_st, gha_th, gha_wr, gha_ps, gha_rs, gha_nx, gha_nn, gha_p1, gha_pu, gha_po, gha_ct, gha_ff, gha_jd, gha_cs, gha_cm, gha_A7, gha_rk, gha_up, gha_dn, gha_dd, gha_ad, gha_rt, gha_xs]
theorem gha_e2 (τ : z_St) (k : Nat) : z_x_ha (z_e2 τ k) = z_x_ha τ := by
  unfold z_e2
  (repeat' split) <;> simp only [gha_mem, gha_reg, gha_inn, gha_put, gha_sp, gha_pc, gha_it, gha_la, gha_wa, gha_sg, gha_ze, gha_au, gha_pa, gha_ca, gha_st, gha_th, gha_wr, gha_ps, gha_rs, gha_nx, gha_nn, gha_p1, gha_pu, gha_po, gha_ct, gha_ff, gha_jd, gha_cs, gha_cm, gha_A7, gha_rk, gha_up, gha_dn, gha_dd, gha_ad, gha_rt, gha_xs, gha_xd]
theorem gha_e7 (τ : z_St) (k : Nat) : z_x_ha (z_e7 τ k) = z_x_ha τ := by
  unfold z_e7
  (repeat' split) <;> simp only [gha_mem, gha_reg, gha_inn, gha_put, gha_sp, gha_pc, gha_it, gha_la, gha_wa, gha_sg, gha_ze, gha_au, gha_pa, gha_ca, gha_st, gha_th, gha_wr, gha_ps, gha_rs, gha_nx, gha_nn, gha_p1, gha_pu, gha_po, gha_ct, gha_ff, gha_jd, gha_cs, gha_cm, gha_A7, gha_rk, gha_up, gha_dn, gha_dd, gha_ad, gha_rt, gha_xs, gha_xd, gha_e2]
theorem gha_pp (τ : z_St) (k : Nat) : z_x_ha (z_pp τ k) = z_x_ha τ := by
  unfold z_pp
  (repeat' split) <;> simp only [gha_mem, gha_reg, gha_inn, gha_put, gha_sp, gha_pc, gha_it, gha_la, gha_wa, gha_sg, gha_ze, gha_au, gha_pa, gha_ca, gha_st, gha_th, gha_wr, gha_ps, gha_rs, gha_nx, gha_nn, gha_p1, gha_pu, gha_po, gha_ct, gha_ff, gha_jd, gha_cs, gha_cm, gha_A7, gha_rk, gha_up, gha_dn, gha_dd, gha_ad, gha_rt, gha_xs, gha_xd, gha_e2, gha_e7]
theorem gha_e3 (τ : z_St) (r : Nat) : z_x_ha (z_e3 τ r) = z_x_ha τ := by
  unfold z_e3
  (repeat' split) <;> simp only [gha_mem, gha_reg, gha_inn, gha_put, gha_sp, gha_pc, gha_it, gha_la, gha_wa, gha_sg, gha_ze, gha_au, gha_pa, gha_ca, gha_st, gha_th, gha_wr, gha_ps, gha_rs, gha_nx, gha_nn, gha_p1, gha_pu, gha_po, gha_ct, gha_ff, gha_jd, gha_cs, gha_cm, gha_A7, gha_rk, gha_up, gha_dn, gha_dd, gha_ad, gha_rt, gha_xs, gha_xd, gha_e2, gha_e7, gha_pp]
theorem gha_ea (τ : z_St) (b : Nat) : z_x_ha (z_ea τ b) = z_x_ha τ := by
  unfold z_ea
  (repeat' split) <;> simp only [gha_mem, gha_reg, gha_inn, gha_put, gha_sp, gha_pc, gha_it, gha_la, gha_wa, gha_sg, gha_ze, gha_au, gha_pa, gha_ca, gha_st, gha_th, gha_wr, gha_ps, gha_rs, gha_nx, gha_nn, gha_p1, gha_pu, gha_po, gha_ct, gha_ff, gha_jd, gha_cs, gha_cm, gha_A7, gha_rk, gha_up, gha_dn, gha_dd, gha_ad, gha_rt, gha_xs, gha_xd, gha_e2, gha_e7, gha_pp, gha_e3]
theorem gha_ec (τ : z_St) (b : Nat) : z_x_ha (z_ec τ b) = z_x_ha τ := by
  unfold z_ec
  (repeat' split) <;> simp only [gha_mem, gha_reg, gha_inn, gha_put, gha_sp, gha_pc, gha_it, gha_la, gha_wa, gha_sg, gha_ze, gha_au, gha_pa, gha_ca, gha_st, gha_th, gha_wr, gha_ps, gha_rs, gha_nx, gha_nn, gha_p1, gha_pu, gha_po, gha_ct, gha_ff, gha_jd, gha_cs, gha_cm, gha_A7, gha_rk, gha_up, gha_dn, gha_dd, gha_ad, gha_rt, gha_xs, gha_xd, gha_e2, gha_e7, gha_pp, gha_e3, gha_ea]
theorem gha_ed (τ : z_St) (b : Nat) : z_x_ha (z_ed τ b) = z_x_ha τ := by
  unfold z_ed
  (repeat' split) <;> simp only [gha_mem, gha_reg, gha_inn, gha_put, gha_sp, gha_pc, gha_it, gha_la, gha_wa, gha_sg, gha_ze, gha_au, gha_pa, gha_ca, gha_st, gha_th, gha_wr, gha_ps, gha_rs, gha_nx, gha_nn, gha_p1, gha_pu, gha_po, gha_ct, gha_ff, gha_jd, gha_cs, gha_cm, gha_A7, gha_rk, gha_up, gha_dn, gha_dd, gha_ad, gha_rt, gha_xs, gha_xd, gha_e2, gha_e7, gha_pp, gha_e3, gha_ea, gha_ec]
theorem gha_eb (τ : z_St) (b : Nat) (hb : ¬ b = 118) : z_x_ha (z_eb τ b) = z_x_ha τ := by
  unfold z_eb
  rw [if_neg hb]
  simp only [gha_mem, gha_reg, gha_inn, gha_put, gha_sp, gha_pc, gha_it, gha_la, gha_wa, gha_sg, gha_ze, gha_au, gha_pa, gha_ca, gha_st, gha_th, gha_wr, gha_ps, gha_rs, gha_nx, gha_nn, gha_p1, gha_pu, gha_po, gha_ct, gha_ff, gha_jd, gha_cs, gha_cm, gha_A7, gha_rk, gha_up, gha_dn, gha_dd, gha_ad, gha_rt, gha_xs, gha_xd, gha_e2, gha_e7, gha_pp, gha_e3, gha_ea, gha_ec, gha_ed]
theorem gha_ex (τ : z_St) (b : Nat) (hb : ¬ b = 118) : z_x_ha (z_ex τ b) = z_x_ha τ := by
  unfold z_ex
  (repeat' split)
  · exact gha_ea τ b
  · exact gha_eb τ b hb
  · exact gha_ec τ b
  · exact gha_ed τ b
theorem gla_mem (τ : z_St) (v : Nat → Nat) : z_x_la (z_s_mem τ v) = z_x_la τ := by
  simp only [z_mkS, z_x_mem, z_x_reg, z_x_inn, z_x_put, z_x_sp, z_x_pc, z_x_ha, z_x_it, z_x_la, z_x_wa, z_x_sg, z_x_ze, z_x_au, z_x_pa, z_x_ca, z_x_st, z_x_th, z_s_mem, z_s_reg, z_s_inn, z_s_put, z_s_sp, z_s_pc, z_s_ha, z_s_it, z_s_la, z_s_wa, z_s_sg, z_s_ze, z_s_au, z_s_pa, z_s_ca, z_s_st, z_s_th]
theorem gla_reg (τ : z_St) (v : Nat → Nat) : z_x_la (z_s_reg τ v) = z_x_la τ := by
  simp only [z_mkS, z_x_mem, z_x_reg, z_x_inn, z_x_put, z_x_sp, z_x_pc, z_x_ha, z_x_it, z_x_la, z_x_wa, z_x_sg, z_x_ze, z_x_au, z_x_pa, z_x_ca, z_x_st, z_x_th, z_s_mem, z_s_reg, z_s_inn, z_s_put, z_s_sp, z_s_pc, z_s_ha, z_s_it, z_s_la, z_s_wa, z_s_sg, z_s_ze, z_s_au, z_s_pa, z_s_ca, z_s_st, z_s_th]
theorem gla_inn (τ : z_St) (v : Nat → Nat) : z_x_la (z_s_inn τ v) = z_x_la τ := by
  simp only [z_mkS, z_x_mem, z_x_reg, z_x_inn, z_x_put, z_x_sp, z_x_pc, z_x_ha, z_x_it, z_x_la, z_x_wa, z_x_sg, z_x_ze, z_x_au, z_x_pa, z_x_ca, z_x_st, z_x_th, z_s_mem, z_s_reg, z_s_inn, z_s_put, z_s_sp, z_s_pc, z_s_ha, z_s_it, z_s_la, z_s_wa, z_s_sg, z_s_ze, z_s_au, z_s_pa, z_s_ca, z_s_st, z_s_th]
theorem gla_put (τ : z_St) (v : Nat → Nat) : z_x_la (z_s_put τ v) = z_x_la τ := by
  simp only [z_mkS, z_x_mem, z_x_reg, z_x_inn, z_x_put, z_x_sp, z_x_pc, z_x_ha, z_x_it, z_x_la, z_x_wa, z_x_sg, z_x_ze, z_x_au, z_x_pa, z_x_ca, z_x_st, z_x_th, z_s_mem, z_s_reg, z_s_inn, z_s_put, z_s_sp, z_s_pc, z_s_ha, z_s_it, z_s_la, z_s_wa, z_s_sg, z_s_ze, z_s_au, z_s_pa, z_s_ca, z_s_st, z_s_th]
theorem gla_sp (τ : z_St) (v : Nat) : z_x_la (z_s_sp τ v) = z_x_la τ := by
  simp only [z_mkS, z_x_mem, z_x_reg, z_x_inn, z_x_put, z_x_sp, z_x_pc, z_x_ha, z_x_it, z_x_la, z_x_wa, z_x_sg, z_x_ze, z_x_au, z_x_pa, z_x_ca, z_x_st, z_x_th, z_s_mem, z_s_reg, z_s_inn, z_s_put, z_s_sp, z_s_pc, z_s_ha, z_s_it, z_s_la, z_s_wa, z_s_sg, z_s_ze, z_s_au, z_s_pa, z_s_ca, z_s_st, z_s_th]
theorem gla_pc (τ : z_St) (v : Nat) : z_x_la (z_s_pc τ v) = z_x_la τ := by
  simp only [z_mkS, z_x_mem, z_x_reg, z_x_inn, z_x_put, z_x_sp, z_x_pc, z_x_ha, z_x_it, z_x_la, z_x_wa, z_x_sg, z_x_ze, z_x_au, z_x_pa, z_x_ca, z_x_st, z_x_th, z_s_mem, z_s_reg, z_s_inn, z_s_put, z_s_sp, z_s_pc, z_s_ha, z_s_it, z_s_la, z_s_wa, z_s_sg, z_s_ze, z_s_au, z_s_pa, z_s_ca, z_s_st, z_s_th]
theorem gla_ha (τ : z_St) (v : Nat) : z_x_la (z_s_ha τ v) = z_x_la τ := by
  simp only [z_mkS, z_x_mem, z_x_reg, z_x_inn, z_x_put, z_x_sp, z_x_pc, z_x_ha, z_x_it, z_x_la, z_x_wa, z_x_sg, z_x_ze, z_x_au, z_x_pa, z_x_ca, z_x_st, z_x_th, z_s_mem, z_s_reg, z_s_inn, z_s_put, z_s_sp, z_s_pc, z_s_ha, z_s_it, z_s_la, z_s_wa, z_s_sg, z_s_ze, z_s_au, z_s_pa, z_s_ca, z_s_st, z_s_th]
theorem gla_it (τ : z_St) (v : Nat) : z_x_la (z_s_it τ v) = z_x_la τ := by
  simp only [z_mkS, z_x_mem, z_x_reg, z_x_inn, z_x_put, z_x_sp, z_x_pc, z_x_ha, z_x_it, z_x_la, z_x_wa, z_x_sg, z_x_ze, z_x_au, z_x_pa, z_x_ca, z_x_st, z_x_th, z_s_mem, z_s_reg, z_s_inn, z_s_put, z_s_sp, z_s_pc, z_s_ha, z_s_it, z_s_la, z_s_wa, z_s_sg, z_s_ze, z_s_au, z_s_pa, z_s_ca, z_s_st, z_s_th]
theorem gla_wa (τ : z_St) (v : Nat) : z_x_la (z_s_wa τ v) = z_x_la τ := by
  simp only [z_mkS, z_x_mem, z_x_reg, z_x_inn, z_x_put, z_x_sp, z_x_pc, z_x_ha, z_x_it, z_x_la, z_x_wa, z_x_sg, z_x_ze, z_x_au, z_x_pa, z_x_ca, z_x_st, z_x_th, z_s_mem, z_s_reg, z_s_inn, z_s_put, z_s_sp, z_s_pc, z_s_ha, z_s_it, z_s_la, z_s_wa, z_s_sg, z_s_ze, z_s_au, z_s_pa, z_s_ca, z_s_st, z_s_th]
theorem gla_sg (τ : z_St) (v : Nat) : z_x_la (z_s_sg τ v) = z_x_la τ := by
  simp only [z_mkS, z_x_mem, z_x_reg, z_x_inn, z_x_put, z_x_sp, z_x_pc, z_x_ha, z_x_it, z_x_la, z_x_wa, z_x_sg, z_x_ze, z_x_au, z_x_pa, z_x_ca, z_x_st, z_x_th, z_s_mem, z_s_reg, z_s_inn, z_s_put, z_s_sp, z_s_pc, z_s_ha, z_s_it, z_s_la, z_s_wa, z_s_sg, z_s_ze, z_s_au, z_s_pa, z_s_ca, z_s_st, z_s_th]
theorem gla_ze (τ : z_St) (v : Nat) : z_x_la (z_s_ze τ v) = z_x_la τ := by
  simp only [z_mkS, z_x_mem, z_x_reg, z_x_inn, z_x_put, z_x_sp, z_x_pc, z_x_ha, z_x_it, z_x_la, z_x_wa, z_x_sg, z_x_ze, z_x_au, z_x_pa, z_x_ca, z_x_st, z_x_th, z_s_mem, z_s_reg, z_s_inn, z_s_put, z_s_sp, z_s_pc, z_s_ha, z_s_it, z_s_la, z_s_wa, z_s_sg, z_s_ze, z_s_au, z_s_pa, z_s_ca, z_s_st, z_s_th]
theorem gla_au (τ : z_St) (v : Nat) : z_x_la (z_s_au τ v) = z_x_la τ := by
  simp only [z_mkS, z_x_mem, z_x_reg, z_x_inn, z_x_put, z_x_sp, z_x_pc, z_x_ha, z_x_it, z_x_la, z_x_wa, z_x_sg, z_x_ze, z_x_au, z_x_pa, z_x_ca, z_x_st, z_x_th, z_s_mem, z_s_reg, z_s_inn, z_s_put, z_s_sp, z_s_pc, z_s_ha, z_s_it, z_s_la, z_s_wa, z_s_sg, z_s_ze, z_s_au, z_s_pa, z_s_ca, z_s_st, z_s_th]
theorem gla_pa (τ : z_St) (v : Nat) : z_x_la (z_s_pa τ v) = z_x_la τ := by
  simp only [z_mkS, z_x_mem, z_x_reg, z_x_inn, z_x_put, z_x_sp, z_x_pc, z_x_ha, z_x_it, z_x_la, z_x_wa, z_x_sg, z_x_ze, z_x_au, z_x_pa, z_x_ca, z_x_st, z_x_th, z_s_mem, z_s_reg, z_s_inn, z_s_put, z_s_sp, z_s_pc, z_s_ha, z_s_it, z_s_la, z_s_wa, z_s_sg, z_s_ze, z_s_au, z_s_pa, z_s_ca, z_s_st, z_s_th]
theorem gla_ca (τ : z_St) (v : Nat) : z_x_la (z_s_ca τ v) = z_x_la τ := by
  simp only [z_mkS, z_x_mem, z_x_reg, z_x_inn, z_x_put, z_x_sp, z_x_pc, z_x_ha, z_x_it, z_x_la, z_x_wa, z_x_sg, z_x_ze, z_x_au, z_x_pa, z_x_ca, z_x_st, z_x_th, z_s_mem, z_s_reg, z_s_inn, z_s_put, z_s_sp, z_s_pc, z_s_ha, z_s_it, z_s_la, z_s_wa, z_s_sg, z_s_ze, z_s_au, z_s_pa, z_s_ca, z_s_st, z_s_th]
theorem gla_st (τ : z_St) (v : Nat) : z_x_la (z_s_st τ v) = z_x_la τ := by
  simp only [z_mkS, z_x_mem, z_x_reg, z_x_inn, z_x_put, z_x_sp, z_x_pc, z_x_ha, z_x_it, z_x_la, z_x_wa, z_x_sg, z_x_ze, z_x_au, z_x_pa, z_x_ca, z_x_st, z_x_th, z_s_mem, z_s_reg, z_s_inn, z_s_put, z_s_sp, z_s_pc, z_s_ha, z_s_it, z_s_la, z_s_wa, z_s_sg, z_s_ze, z_s_au, z_s_pa, z_s_ca, z_s_st, z_s_th]
theorem gla_th (τ : z_St) (v : Nat) : z_x_la (z_s_th τ v) = z_x_la τ := by
  simp only [z_mkS, z_x_mem, z_x_reg, z_x_inn, z_x_put, z_x_sp, z_x_pc, z_x_ha, z_x_it, z_x_la, z_x_wa, z_x_sg, z_x_ze, z_x_au, z_x_pa, z_x_ca, z_x_st, z_x_th, z_s_mem, z_s_reg, z_s_inn, z_s_put, z_s_sp, z_s_pc, z_s_ha, z_s_it, z_s_la, z_s_wa, z_s_sg, z_s_ze, z_s_au, z_s_pa, z_s_ca, z_s_st, z_s_th]
theorem gla_wr (τ : z_St) (a v : Nat) : z_x_la (z_wr τ a v) = z_x_la τ := by
  unfold z_wr
  simp only [gla_mem, gla_reg, gla_inn, gla_put, gla_sp, gla_pc, gla_ha, gla_it, gla_wa, gla_sg, gla_ze, gla_au, gla_pa, gla_ca, gla_st, gla_th]
theorem gla_ps (τ : z_St) (k v : Nat) : z_x_la (z_ps τ k v) = z_x_la τ := by
  unfold z_ps
  simp only [gla_mem, gla_reg, gla_inn, gla_put, gla_sp, gla_pc, gla_ha, gla_it, gla_wa, gla_sg, gla_ze, gla_au, gla_pa, gla_ca, gla_st, gla_th, gla_wr]
theorem gla_rs (τ : z_St) (r v : Nat) : z_x_la (z_rs τ r v) = z_x_la τ := by
  unfold z_rs
  simp only [gla_mem, gla_reg, gla_inn, gla_put, gla_sp, gla_pc, gla_ha, gla_it, gla_wa, gla_sg, gla_ze, gla_au, gla_pa, gla_ca, gla_st, gla_th, gla_wr, gla_ps]
theorem gla_nx (τ : z_St) : z_x_la (z_nx τ) = z_x_la τ := by
  unfold z_nx
  simp only [gla_mem, gla_reg, gla_inn, gla_put, gla_sp, gla_pc, gla_ha, gla_it, gla_wa, gla_sg, gla_ze, gla_au, gla_pa, gla_ca, gla_st, gla_th, gla_wr, gla_ps, gla_rs]
theorem gla_nn (τ : z_St) : z_x_la (z_nn τ) = z_x_la τ := by
  unfold z_nn
  simp only [gla_mem, gla_reg, gla_inn, gla_put, gla_sp, gla_pc, gla_ha, gla_it, gla_wa, gla_sg, gla_ze, gla_au, gla_pa, gla_ca, gla_st, gla_th, gla_wr, gla_ps, gla_rs, gla_nx]
theorem gla_p1 (τ : z_St) (v : Nat) : z_x_la (z_p1 τ v) = z_x_la τ := by
  unfold z_p1
  simp only [gla_mem, gla_reg, gla_inn, gla_put, gla_sp, gla_pc, gla_ha, gla_it, gla_wa, gla_sg, gla_ze, gla_au, gla_pa, gla_ca, gla_st, gla_th, gla_wr, gla_ps, gla_rs, gla_nx, gla_nn]
theorem gla_pu (τ : z_St) (v : Nat) : z_x_la (z_pu τ v) = z_x_la τ := by
  unfold z_pu
  simp only [gla_mem, gla_reg, gla_inn, gla_put, gla_sp, gla_pc, gla_ha, gla_it, gla_wa, gla_sg, gla_ze, gla_au, gla_pa, gla_ca, gla_st, gla_th, gla_wr, gla_ps, gla_rs, gla_nx, gla_nn, gla_p1]
theorem gla_po (τ : z_St) : z_x_la (z_po τ) = z_x_la τ := by
  unfold z_po
  simp only [gla_mem, gla_reg, gla_inn, gla_put, gla_sp, gla_pc, gla_ha, gla_it, gla_wa, gla_sg, gla_ze, gla_au, gla_pa, gla_ca, gla_st, gla_th, gla_wr, gla_ps, gla_rs, gla_nx, gla_nn, gla_p1, gla_pu]
theorem gla_ct (τ : z_St) (a : Nat) : z_x_la (z_ct τ a) = z_x_la τ := by
  unfold z_ct
  simp only [gla_mem, gla_reg, gla_inn, gla_put, gla_sp, gla_pc, gla_ha, gla_it, gla_wa, gla_sg, gla_ze, gla_au, gla_pa, gla_ca, gla_st, gla_th, gla_wr, gla_ps, gla_rs, gla_nx, gla_nn, gla_p1, gla_pu, gla_po]
theorem gla_ff (τ : z_St) (v : Nat) : z_x_la (z_ff τ v) = z_x_la τ := by
  unfold z_ff
  simp only [gla_mem, gla_reg, gla_inn, gla_put, gla_sp, gla_pc, gla_ha, gla_it, gla_wa, gla_sg, gla_ze, gla_au, gla_pa, gla_ca, gla_st, gla_th, gla_wr, gla_ps, gla_rs, gla_nx, gla_nn, gla_p1, gla_pu, gla_po, gla_ct]
theorem gla_jd (τ : z_St) (v : Nat) : z_x_la (z_jd τ v) = z_x_la τ := by
  unfold z_jd
  simp only [gla_mem, gla_reg, gla_inn, gla_put, gla_sp, gla_pc, gla_ha, gla_it, gla_wa, gla_sg, gla_ze, gla_au, gla_pa, gla_ca, gla_st, gla_th, gla_wr, gla_ps, gla_rs, gla_nx, gla_nn, gla_p1, gla_pu, gla_po, gla_ct, gla_ff]
theorem gla_cs (τ : z_St) (k a b : Nat) : z_x_la (z_cs τ k a b) = z_x_la τ := by
  unfold z_cs
  simp only [gla_mem, gla_reg, gla_inn, gla_put, gla_sp, gla_pc, gla_ha, gla_it, gla_wa, gla_sg, gla_ze, gla_au, gla_pa, gla_ca, gla_st, gla_th, gla_wr, gla_ps, gla_rs, gla_nx, gla_nn, gla_p1, gla_pu, gla_po, gla_ct, gla_ff, gla_jd]
theorem gla_cm (τ : z_St) (k a b : Nat) : z_x_la (z_cm τ k a b) = z_x_la τ := by
  unfold z_cm
  simp only [gla_mem, gla_reg, gla_inn, gla_put, gla_sp, gla_pc, gla_ha, gla_it, gla_wa, gla_sg, gla_ze, gla_au, gla_pa, gla_ca, gla_st, gla_th, gla_wr, gla_ps, gla_rs, gla_nx, gla_nn, gla_p1, gla_pu, gla_po, gla_ct, gla_ff, gla_jd, gla_cs]
theorem gla_A7 (τ : z_St) (v : Nat) : z_x_la (z_A7 τ v) = z_x_la τ := by
  unfold z_A7
  simp only [gla_mem, gla_reg, gla_inn, gla_put, gla_sp, gla_pc, gla_ha, gla_it, gla_wa, gla_sg, gla_ze, gla_au, gla_pa, gla_ca, gla_st, gla_th, gla_wr, gla_ps, gla_rs, gla_nx, gla_nn, gla_p1, gla_pu, gla_po, gla_ct, gla_ff, gla_jd, gla_cs, gla_cm]
theorem gla_rk (τ : z_St) (k b : Nat) : z_x_la (z_rk τ k b) = z_x_la τ := by
  unfold z_rk
  simp only [gla_mem, gla_reg, gla_inn, gla_put, gla_sp, gla_pc, gla_ha, gla_it, gla_wa, gla_sg, gla_ze, gla_au, gla_pa, gla_ca, gla_st, gla_th, gla_wr, gla_ps, gla_rs, gla_nx, gla_nn, gla_p1, gla_pu, gla_po, gla_ct, gla_ff, gla_jd, gla_cs, gla_cm, gla_A7]
theorem gla_up (τ : z_St) (v : Nat) : z_x_la (z_up τ v) = z_x_la τ := by
  unfold z_up
  simp only [gla_mem, gla_reg, gla_inn, gla_put, gla_sp, gla_pc, gla_ha, gla_it, gla_wa, gla_sg, gla_ze, gla_au, gla_pa, gla_ca, gla_st, gla_th, gla_wr, gla_ps, gla_rs, gla_nx, gla_nn, gla_p1, gla_pu, gla_po, gla_ct, gla_ff, gla_jd, gla_cs, gla_cm, gla_A7, gla_rk]
theorem gla_dn (τ : z_St) (v : Nat) : z_x_la (z_dn τ v) = z_x_la τ := by
  unfold z_dn
  simp only [gla_mem, gla_reg, gla_inn, gla_put, gla_sp, gla_pc, gla_ha, gla_it, gla_wa, gla_sg, gla_ze, gla_au, gla_pa, gla_ca, gla_st, gla_th, gla_wr, gla_ps, gla_rs, gla_nx, gla_nn, gla_p1, gla_pu, gla_po, gla_ct, gla_ff, gla_jd, gla_cs, gla_cm, gla_A7, gla_rk, gla_up]
theorem gla_dd (τ : z_St) (v : Nat) : z_x_la (z_dd τ v) = z_x_la τ := by
  unfold z_dd
  simp only [gla_mem, gla_reg, gla_inn, gla_put, gla_sp, gla_pc, gla_ha, gla_it, gla_wa, gla_sg, gla_ze, gla_au, gla_pa, gla_ca, gla_st, gla_th, gla_wr, gla_ps, gla_rs, gla_nx, gla_nn, gla_p1, gla_pu, gla_po, gla_ct, gla_ff, gla_jd, gla_cs, gla_cm, gla_A7, gla_rk, gla_up, gla_dn]
theorem gla_ad (τ : z_St) (k : Nat) : z_x_la (z_ad τ k) = z_x_la τ := by
  unfold z_ad
  simp only [gla_mem, gla_reg, gla_inn, gla_put, gla_sp, gla_pc, gla_ha, gla_it, gla_wa, gla_sg, gla_ze, gla_au, gla_pa, gla_ca, gla_st, gla_th, gla_wr, gla_ps, gla_rs, gla_nx, gla_nn, gla_p1, gla_pu, gla_po, gla_ct, gla_ff, gla_jd, gla_cs, gla_cm, gla_A7, gla_rk, gla_up, gla_dn, gla_dd]
theorem gla_rt (τ : z_St) : z_x_la (z_rt τ) = z_x_la τ := by
  unfold z_rt
  simp only [gla_mem, gla_reg, gla_inn, gla_put, gla_sp, gla_pc, gla_ha, gla_it, gla_wa, gla_sg, gla_ze, gla_au, gla_pa, gla_ca, gla_st, gla_th, gla_wr, gla_ps, gla_rs, gla_nx, gla_nn, gla_p1, gla_pu, gla_po, gla_ct, gla_ff, gla_jd, gla_cs, gla_cm, gla_A7, gla_rk, gla_up, gla_dn, gla_dd, gla_ad]
theorem gla_xs (τ : z_St) : z_x_la (z_xs τ) = z_x_la τ := by
  unfold z_xs
  simp only [gla_mem, gla_reg, gla_inn, gla_put, gla_sp, gla_pc, gla_ha, gla_it, gla_wa, gla_sg, gla_ze, gla_au, gla_pa, gla_ca, gla_st, gla_th, gla_wr, gla_ps, gla_rs, gla_nx, gla_nn, gla_p1, gla_pu, gla_po, gla_ct, gla_ff, gla_jd, gla_cs, gla_cm, gla_A7, gla_rk, gla_up, gla_dn, gla_dd, gla_ad, gla_rt]
theorem gla_xd (τ : z_St) : z_x_la (z_xd τ) = z_x_la τ := by
  unfold z_xd
  simp only [gla_mem, gla_reg, gla_inn, gla_put, gla_sp, gla_pc, gla_ha, gla_it, gla_wa, gla_sg, gla_ze, gla_au, gla_pa, gla_ca, gla_st, gla_th, gla_wr, gla_ps, gla_rs, gla_nx, gla_nn, gla_p1, gla_pu, gla_po, gla_ct, gla_ff, gla_jd, gla_cs, gla_cm, gla_A7, gla_rk, gla_up, gla_dn, gla_dd, gla_ad, gla_rt, gla_xs]
theorem gla_e2 (τ : z_St) (k : Nat) : z_x_la (z_e2 τ k) = z_x_la τ := by
  unfold z_e2
  (repeat' split) <;> simp only [gla_mem, gla_reg, gla_inn, gla_put, gla_sp, gla_pc, gla_ha, gla_it, gla_wa, gla_sg, gla_ze, gla_au, gla_pa, gla_ca, gla_st, gla_th, gla_wr, gla_ps, gla_rs, gla_nx, gla_nn, gla_p1, gla_pu, gla_po, gla_ct, gla_ff, gla_jd, gla_cs, gla_cm, gla_A7, gla_rk, gla_up, gla_dn, gla_dd, gla_ad, gla_rt, gla_xs, gla_xd]
theorem gla_e7 (τ : z_St) (k : Nat) : z_x_la (z_e7 τ k) = z_x_la τ := by
  unfold z_e7
  (repeat' split) <;> simp only [gla_mem, gla_reg, gla_inn, gla_put, gla_sp, gla_pc, gla_ha, gla_it, gla_wa, gla_sg, gla_ze, gla_au, gla_pa, gla_ca, gla_st, gla_th, gla_wr, gla_ps, gla_rs, gla_nx, gla_nn, gla_p1, gla_pu, gla_po, gla_ct, gla_ff, gla_jd, gla_cs, gla_cm, gla_A7, gla_rk, gla_up, gla_dn, gla_dd, gla_ad, gla_rt, gla_xs, gla_xd, gla_e2]
theorem gla_pp (τ : z_St) (k : Nat) : z_x_la (z_pp τ k) = z_x_la τ := by
  unfold z_pp
  (repeat' split) <;> simp only [gla_mem, gla_reg, gla_inn, gla_put, gla_sp, gla_pc, gla_ha, gla_it, gla_wa, gla_sg, gla_ze, gla_au, gla_pa, gla_ca, gla_st, gla_th, gla_wr, gla_ps, gla_rs, gla_nx, gla_nn, gla_p1, gla_pu, gla_po, gla_ct, gla_ff, gla_jd, gla_cs, gla_cm, gla_A7, gla_rk, gla_up, gla_dn, gla_dd, gla_ad, gla_rt, gla_xs, gla_xd, gla_e2, gla_e7]
theorem gla_e3 (τ : z_St) (r : Nat) : z_x_la (z_e3 τ r) = z_x_la τ := by
  unfold z_e3
  (repeat' split) <;> simp only [gla_mem, gla_reg, gla_inn, gla_put, gla_sp, gla_pc, gla_ha, gla_it, gla_wa, gla_sg, gla_ze, gla_au, gla_pa, gla_ca, gla_st, gla_th, gla_wr, gla_ps, gla_rs, gla_nx, gla_nn, gla_p1, gla_pu, gla_po, gla_ct, gla_ff, gla_jd, gla_cs, gla_cm, gla_A7, gla_rk, gla_up, gla_dn, gla_dd, gla_ad, gla_rt, gla_xs, gla_xd, gla_e2, gla_e7, gla_pp]
theorem gla_ea (τ : z_St) (b : Nat) : z_x_la (z_ea τ b) = z_x_la τ := by
  unfold z_ea
  (repeat' split) <;> simp only [gla_mem, gla_reg, gla_inn, gla_put, gla_sp, gla_pc, gla_ha, gla_it, gla_wa, gla_sg, gla_ze, gla_au, gla_pa, gla_ca, gla_st, gla_th, gla_wr, gla_ps, gla_rs, gla_nx, gla_nn, gla_p1, gla_pu, gla_po, gla_ct, gla_ff, gla_jd, gla_cs, gla_cm, gla_A7, gla_rk, gla_up, gla_dn, gla_dd, gla_ad, gla_rt, gla_xs, gla_xd, gla_e2, gla_e7, gla_pp, gla_e3]
theorem gla_ec (τ : z_St) (b : Nat) : z_x_la (z_ec τ b) = z_x_la τ := by
  unfold z_ec
  (repeat' split) <;> simp only [gla_mem, gla_reg, gla_inn, gla_put, gla_sp, gla_pc, gla_ha, gla_it, gla_wa, gla_sg, gla_ze, gla_au, gla_pa, gla_ca, gla_st, gla_th, gla_wr, gla_ps, gla_rs, gla_nx, gla_nn, gla_p1, gla_pu, gla_po, gla_ct, gla_ff, gla_jd, gla_cs, gla_cm, gla_A7, gla_rk, gla_up, gla_dn, gla_dd, gla_ad, gla_rt, gla_xs, gla_xd, gla_e2, gla_e7, gla_pp, gla_e3, gla_ea]
theorem gla_ed (τ : z_St) (b : Nat) : z_x_la (z_ed τ b) = z_x_la τ := by
  unfold z_ed
  (repeat' split) <;> simp only [gla_mem, gla_reg, gla_inn, gla_put, gla_sp, gla_pc, gla_ha, gla_it, gla_wa, gla_sg, gla_ze, gla_au, gla_pa, gla_ca, gla_st, gla_th, gla_wr, gla_ps, gla_rs, gla_nx, gla_nn, gla_p1, gla_pu, gla_po, gla_ct, gla_ff, gla_jd, gla_cs, gla_cm, gla_A7, gla_rk, gla_up, gla_dn, gla_dd, gla_ad, gla_rt, gla_xs, gla_xd, gla_e2, gla_e7, gla_pp, gla_e3, gla_ea, gla_ec]
theorem gla_eb (τ : z_St) (b : Nat) : z_x_la (z_eb τ b) = z_x_la τ := by
  unfold z_eb
  split
  · simp only [gla_mem, gla_reg, gla_inn, gla_put, gla_sp, gla_pc, gla_ha, gla_it, gla_wa, gla_sg, gla_ze, gla_au, gla_pa, gla_ca, gla_st, gla_th, gla_wr, gla_ps, gla_rs, gla_nx, gla_nn, gla_p1, gla_pu, gla_po, gla_ct, gla_ff, gla_jd, gla_cs, gla_cm, gla_A7, gla_rk, gla_up, gla_dn, gla_dd, gla_ad, gla_rt, gla_xs, gla_xd, gla_e2, gla_e7, gla_pp, gla_e3, gla_ea, gla_ec, gla_ed]
  · simp only [gla_mem, gla_reg, gla_inn, gla_put, gla_sp, gla_pc, gla_ha, gla_it, gla_wa, gla_sg, gla_ze, gla_au, gla_pa, gla_ca, gla_st, gla_th, gla_wr, gla_ps, gla_rs, gla_nx, gla_nn, gla_p1, gla_pu, gla_po, gla_ct, gla_ff, gla_jd, gla_cs, gla_cm, gla_A7, gla_rk, gla_up, gla_dn, gla_dd, gla_ad, gla_rt, gla_xs, gla_xd, gla_e2, gla_e7, gla_pp, gla_e3, gla_ea, gla_ec, gla_ed]
theorem gla_ex (τ : z_St) (b : Nat) : z_x_la (z_ex τ b) = z_x_la τ := by
  unfold z_ex
  (repeat' split)
  · exact gla_ea τ b
  · exact gla_eb τ b
  · exact gla_ec τ b
  · exact gla_ed τ b
theorem gth_li (σ : z_St) : z_x_th (z_li σ) = z_x_th σ := by
  unfold z_li
  simp only [gth_wa, gth_ct, gth_ha, gth_it]
theorem gth_go (σ : z_St) : z_x_th (z_go σ) = z_x_th σ := by
  unfold z_go
  simp only [gth_la, gth_nx]
theorem gth_sx (σ : z_St) : z_x_th (z_sx σ) = z_x_th σ := by
  unfold z_sx
  (repeat' split)
  · rw [gth_st, gth_li]
  · rw [gth_st]
  · rw [gth_st, gth_ex, gth_go]
theorem gth_rx : ∀ (n : Nat) (σ : z_St), z_x_th (z_rx n σ) = z_x_th σ
  | 0, _ => rfl
  | n + 1, σ => (gth_rx n (z_sx σ)).trans (gth_sx σ)
theorem gha_go (σ : z_St) : z_x_ha (z_go σ) = z_x_ha σ := by
  unfold z_go
  simp only [gha_la, gha_nx]
theorem gha_self (τ : z_St) (v : Nat) : z_x_ha (z_s_ha τ v) = v := by
  simp only [z_mkS, z_x_mem, z_x_reg, z_x_inn, z_x_put, z_x_sp, z_x_pc, z_x_ha, z_x_it, z_x_la, z_x_wa, z_x_sg, z_x_ze, z_x_au, z_x_pa, z_x_ca, z_x_st, z_x_th, z_s_mem, z_s_reg, z_s_inn, z_s_put, z_s_sp, z_s_pc, z_s_ha, z_s_it, z_s_la, z_s_wa, z_s_sg, z_s_ze, z_s_au, z_s_pa, z_s_ca, z_s_st, z_s_th]
theorem gla_self (τ : z_St) (v : Nat) : z_x_la (z_s_la τ v) = v := by
  simp only [z_mkS, z_x_mem, z_x_reg, z_x_inn, z_x_put, z_x_sp, z_x_pc, z_x_ha, z_x_it, z_x_la, z_x_wa, z_x_sg, z_x_ze, z_x_au, z_x_pa, z_x_ca, z_x_st, z_x_th, z_s_mem, z_s_reg, z_s_inn, z_s_put, z_s_sp, z_s_pc, z_s_ha, z_s_it, z_s_la, z_s_wa, z_s_sg, z_s_ze, z_s_au, z_s_pa, z_s_ca, z_s_st, z_s_th]
theorem gha_li (σ : z_St) : z_x_ha (z_li σ) = 0 := by
  unfold z_li
  simp only [gha_wa, gha_ct, gha_self]
theorem gla_go (σ : z_St) : z_x_la (z_go σ) = if z_nb σ = 251 then 1 else 0 := by
  unfold z_go
  rw [gla_self]
/-- what holds between the calls and between the steps -/
def z_InvS (σ : z_St) : Prop := z_Ok σ ∧ (z_x_ha σ = 1 → z_x_la σ = 0)
theorem inv_sx {σ : z_St} (h : z_InvS σ) : z_InvS (z_sx σ) := by
  refine ⟨z_ok_sx h.1, ?_⟩
  unfold z_sx
  (repeat' split)
  · intro q
    rw [gha_st, gha_li] at q
    exact absurd q (by decide)
  · intro q
    rw [gha_st] at q
    rw [gla_st]
    exact h.2 q
  · rename_i h1 h2
    intro q
    rw [gha_st] at q
    rw [gla_st, gla_ex, gla_go]
    by_cases hb : z_nb σ = 118
    · rw [hb]
      rfl
    · rw [gha_ex _ _ hb, gha_go] at q
      exact absurd q h2
theorem inv_rx : ∀ (n : Nat) {σ : z_St}, z_InvS σ → z_InvS (z_rx n σ)
  | 0, _, h => h
  | n + 1, _, h => inv_rx n (inv_sx h)
theorem inv_of {σ τ : z_St} (h : z_InvS σ) (ho : z_Ok τ) (e1 : z_x_ha τ = z_x_ha σ) (z_e2 : z_x_la τ = z_x_la σ) : z_InvS τ := ⟨ho, fun q => by rw [z_e2]; exact h.2 (by rw [← e1]; exact q)⟩

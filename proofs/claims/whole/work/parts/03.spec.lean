/-! The processor in numbers: one state, read by the class and by the reference alike. -/
/-- mem reg inn put, then sp pc ha it la wa sg ze au pa ca st; put and wa are one more than what is meant, 0 is nothing -/
abbrev z_St : Type := (Nat → Nat) × (Nat → Nat) × (Nat → Nat) × (Nat → Nat) × Nat × Nat × Nat × Nat × Nat × Nat × Nat × Nat × Nat × Nat × Nat × Nat × Nat
def z_x_mem (σ : z_St) : Nat → Nat := σ.1
def z_x_reg (σ : z_St) : Nat → Nat := σ.2.1
def z_x_inn (σ : z_St) : Nat → Nat := σ.2.2.1
def z_x_put (σ : z_St) : Nat → Nat := σ.2.2.2.1
def z_x_sp (σ : z_St) : Nat := σ.2.2.2.2.1
def z_x_pc (σ : z_St) : Nat := σ.2.2.2.2.2.1
def z_x_ha (σ : z_St) : Nat := σ.2.2.2.2.2.2.1
def z_x_it (σ : z_St) : Nat := σ.2.2.2.2.2.2.2.1
def z_x_la (σ : z_St) : Nat := σ.2.2.2.2.2.2.2.2.1
def z_x_wa (σ : z_St) : Nat := σ.2.2.2.2.2.2.2.2.2.1
def z_x_sg (σ : z_St) : Nat := σ.2.2.2.2.2.2.2.2.2.2.1
def z_x_ze (σ : z_St) : Nat := σ.2.2.2.2.2.2.2.2.2.2.2.1
def z_x_au (σ : z_St) : Nat := σ.2.2.2.2.2.2.2.2.2.2.2.2.1
def z_x_pa (σ : z_St) : Nat := σ.2.2.2.2.2.2.2.2.2.2.2.2.2.1
def z_x_ca (σ : z_St) : Nat := σ.2.2.2.2.2.2.2.2.2.2.2.2.2.2.1
def z_x_st (σ : z_St) : Nat := σ.2.2.2.2.2.2.2.2.2.2.2.2.2.2.2.1
def z_x_th (σ : z_St) : Nat := σ.2.2.2.2.2.2.2.2.2.2.2.2.2.2.2.2
def z_mkS (mem reg inn put : Nat → Nat) (sp pc ha it la wa sg ze au pa ca st th : Nat) : z_St := (mem, reg, inn, put, sp, pc, ha, it, la, wa, sg, ze, au, pa, ca, st, th)
def z_s_mem (σ : z_St) (v : Nat → Nat) : z_St := z_mkS v (z_x_reg σ) (z_x_inn σ) (z_x_put σ) (z_x_sp σ) (z_x_pc σ) (z_x_ha σ) (z_x_it σ) (z_x_la σ) (z_x_wa σ) (z_x_sg σ) (z_x_ze σ) (z_x_au σ) (z_x_pa σ) (z_x_ca σ) (z_x_st σ) (z_x_th σ)
def z_s_reg (σ : z_St) (v : Nat → Nat) : z_St := z_mkS (z_x_mem σ) v (z_x_inn σ) (z_x_put σ) (z_x_sp σ) (z_x_pc σ) (z_x_ha σ) (z_x_it σ) (z_x_la σ) (z_x_wa σ) (z_x_sg σ) (z_x_ze σ) (z_x_au σ) (z_x_pa σ) (z_x_ca σ) (z_x_st σ) (z_x_th σ)
def z_s_inn (σ : z_St) (v : Nat → Nat) : z_St := z_mkS (z_x_mem σ) (z_x_reg σ) v (z_x_put σ) (z_x_sp σ) (z_x_pc σ) (z_x_ha σ) (z_x_it σ) (z_x_la σ) (z_x_wa σ) (z_x_sg σ) (z_x_ze σ) (z_x_au σ) (z_x_pa σ) (z_x_ca σ) (z_x_st σ) (z_x_th σ)
def z_s_put (σ : z_St) (v : Nat → Nat) : z_St := z_mkS (z_x_mem σ) (z_x_reg σ) (z_x_inn σ) v (z_x_sp σ) (z_x_pc σ) (z_x_ha σ) (z_x_it σ) (z_x_la σ) (z_x_wa σ) (z_x_sg σ) (z_x_ze σ) (z_x_au σ) (z_x_pa σ) (z_x_ca σ) (z_x_st σ) (z_x_th σ)
def z_s_sp (σ : z_St) (v : Nat) : z_St := z_mkS (z_x_mem σ) (z_x_reg σ) (z_x_inn σ) (z_x_put σ) v (z_x_pc σ) (z_x_ha σ) (z_x_it σ) (z_x_la σ) (z_x_wa σ) (z_x_sg σ) (z_x_ze σ) (z_x_au σ) (z_x_pa σ) (z_x_ca σ) (z_x_st σ) (z_x_th σ)
def z_s_pc (σ : z_St) (v : Nat) : z_St := z_mkS (z_x_mem σ) (z_x_reg σ) (z_x_inn σ) (z_x_put σ) (z_x_sp σ) v (z_x_ha σ) (z_x_it σ) (z_x_la σ) (z_x_wa σ) (z_x_sg σ) (z_x_ze σ) (z_x_au σ) (z_x_pa σ) (z_x_ca σ) (z_x_st σ) (z_x_th σ)
def z_s_ha (σ : z_St) (v : Nat) : z_St := z_mkS (z_x_mem σ) (z_x_reg σ) (z_x_inn σ) (z_x_put σ) (z_x_sp σ) (z_x_pc σ) v (z_x_it σ) (z_x_la σ) (z_x_wa σ) (z_x_sg σ) (z_x_ze σ) (z_x_au σ) (z_x_pa σ) (z_x_ca σ) (z_x_st σ) (z_x_th σ)
def z_s_it (σ : z_St) (v : Nat) : z_St := z_mkS (z_x_mem σ) (z_x_reg σ) (z_x_inn σ) (z_x_put σ) (z_x_sp σ) (z_x_pc σ) (z_x_ha σ) v (z_x_la σ) (z_x_wa σ) (z_x_sg σ) (z_x_ze σ) (z_x_au σ) (z_x_pa σ) (z_x_ca σ) (z_x_st σ) (z_x_th σ)
def z_s_la (σ : z_St) (v : Nat) : z_St := z_mkS (z_x_mem σ) (z_x_reg σ) (z_x_inn σ) (z_x_put σ) (z_x_sp σ) (z_x_pc σ) (z_x_ha σ) (z_x_it σ) v (z_x_wa σ) (z_x_sg σ) (z_x_ze σ) (z_x_au σ) (z_x_pa σ) (z_x_ca σ) (z_x_st σ) (z_x_th σ)
def z_s_wa (σ : z_St) (v : Nat) : z_St := z_mkS (z_x_mem σ) (z_x_reg σ) (z_x_inn σ) (z_x_put σ) (z_x_sp σ) (z_x_pc σ) (z_x_ha σ) (z_x_it σ) (z_x_la σ) v (z_x_sg σ) (z_x_ze σ) (z_x_au σ) (z_x_pa σ) (z_x_ca σ) (z_x_st σ) (z_x_th σ)
def z_s_sg (σ : z_St) (v : Nat) : z_St := z_mkS (z_x_mem σ) (z_x_reg σ) (z_x_inn σ) (z_x_put σ) (z_x_sp σ) (z_x_pc σ) (z_x_ha σ) (z_x_it σ) (z_x_la σ) (z_x_wa σ) v (z_x_ze σ) (z_x_au σ) (z_x_pa σ) (z_x_ca σ) (z_x_st σ) (z_x_th σ)
def z_s_ze (σ : z_St) (v : Nat) : z_St := z_mkS (z_x_mem σ) (z_x_reg σ) (z_x_inn σ) (z_x_put σ) (z_x_sp σ) (z_x_pc σ) (z_x_ha σ) (z_x_it σ) (z_x_la σ) (z_x_wa σ) (z_x_sg σ) v (z_x_au σ) (z_x_pa σ) (z_x_ca σ) (z_x_st σ) (z_x_th σ)
def z_s_au (σ : z_St) (v : Nat) : z_St := z_mkS (z_x_mem σ) (z_x_reg σ) (z_x_inn σ) (z_x_put σ) (z_x_sp σ) (z_x_pc σ) (z_x_ha σ) (z_x_it σ) (z_x_la σ) (z_x_wa σ) (z_x_sg σ) (z_x_ze σ) v (z_x_pa σ) (z_x_ca σ) (z_x_st σ) (z_x_th σ)
def z_s_pa (σ : z_St) (v : Nat) : z_St := z_mkS (z_x_mem σ) (z_x_reg σ) (z_x_inn σ) (z_x_put σ) (z_x_sp σ) (z_x_pc σ) (z_x_ha σ) (z_x_it σ) (z_x_la σ) (z_x_wa σ) (z_x_sg σ) (z_x_ze σ) (z_x_au σ) v (z_x_ca σ) (z_x_st σ) (z_x_th σ)
def z_s_ca (σ : z_St) (v : Nat) : z_St := z_mkS (z_x_mem σ) (z_x_reg σ) (z_x_inn σ) (z_x_put σ) (z_x_sp σ) (z_x_pc σ) (z_x_ha σ) (z_x_it σ) (z_x_la σ) (z_x_wa σ) (z_x_sg σ) (z_x_ze σ) (z_x_au σ) (z_x_pa σ) v (z_x_st σ) (z_x_th σ)
def z_s_st (σ : z_St) (v : Nat) : z_St := z_mkS (z_x_mem σ) (z_x_reg σ) (z_x_inn σ) (z_x_put σ) (z_x_sp σ) (z_x_pc σ) (z_x_ha σ) (z_x_it σ) (z_x_la σ) (z_x_wa σ) (z_x_sg σ) (z_x_ze σ) (z_x_au σ) (z_x_pa σ) (z_x_ca σ) v (z_x_th σ)
def z_s_th (σ : z_St) (v : Nat) : z_St := z_mkS (z_x_mem σ) (z_x_reg σ) (z_x_inn σ) (z_x_put σ) (z_x_sp σ) (z_x_pc σ) (z_x_ha σ) (z_x_it σ) (z_x_la σ) (z_x_wa σ) (z_x_sg σ) (z_x_ze σ) (z_x_au σ) (z_x_pa σ) (z_x_ca σ) (z_x_st σ) v
/-- a function with one place set -/
def z_fs (f : Nat → Nat) (k v : Nat) : Nat → Nat := fun j => if j = k then v else f j
/-- what holds of every state that is reached -/
def z_Ok (σ : z_St) : Prop := (∀ k, z_x_mem σ k < 256) ∧ (∀ k, z_x_reg σ k < 256) ∧ (∀ k, z_x_inn σ k < 256) ∧ (∀ k, z_x_put σ k < 257) ∧ z_x_sp σ < 65536 ∧ z_x_pc σ < 65536 ∧ z_x_ha σ < 2 ∧ z_x_it σ < 2 ∧ z_x_la σ < 2 ∧ z_x_wa σ < 9 ∧ z_x_sg σ < 2 ∧ z_x_ze σ < 2 ∧ z_x_au σ < 2 ∧ z_x_pa σ < 2 ∧ z_x_ca σ < 2
-- memory, pairs, registers
def z_rd (σ : z_St) (a : Nat) : Nat := if a < 1024 then z_x_mem σ a else 255
def z_fw (f : Nat → Nat) (a v : Nat) : Nat → Nat := if a < 1024 then z_fs f a v else f
def z_wr (σ : z_St) (a v : Nat) : z_St := z_s_mem σ (z_fw (z_x_mem σ) a v)
def z_pg (σ : z_St) (k : Nat) : Nat := if k = 3 then z_x_sp σ else z_x_reg σ (2 * k) * 256 + z_x_reg σ (2 * k + 1)
def z_ps (σ : z_St) (k v : Nat) : z_St := z_s_reg (z_s_sp σ (if k = 3 then v else z_x_sp σ)) (if k = 3 then z_x_reg σ else z_fs (z_fs (z_x_reg σ) (2 * k) (v / 256)) (2 * k + 1) (v % 256))
def z_rg (σ : z_St) (r : Nat) : Nat := if r = 6 then z_rd σ (z_pg σ 2) else z_x_reg σ r
def z_rs (σ : z_St) (r v : Nat) : z_St := z_s_mem (z_s_reg σ (if r = 6 then z_x_reg σ else z_fs (z_x_reg σ) r v)) (if r = 6 then z_fw (z_x_mem σ) (z_pg σ 2) v else z_x_mem σ)
-- the next byte, the next two, push, pop
def z_nb (σ : z_St) : Nat := z_rd σ (z_x_pc σ)
def z_nx (σ : z_St) : z_St := z_s_pc σ ((z_x_pc σ + 1) % 65536)
def z_nw (σ : z_St) : Nat := z_nb (z_nx σ) * 256 + z_nb σ
def z_nn (σ : z_St) : z_St := z_nx (z_nx σ)
def z_p1 (σ : z_St) (v : Nat) : z_St := z_wr (z_s_sp σ ((z_x_sp σ + 65535) % 65536)) ((z_x_sp σ + 65535) % 65536) v
def z_pu (σ : z_St) (v : Nat) : z_St := z_p1 (z_p1 σ (v / 256)) (v % 256)
def z_pv (σ : z_St) : Nat := z_rd σ ((z_x_sp σ + 1) % 65536) * 256 + z_rd σ (z_x_sp σ)
def z_po (σ : z_St) : z_St := z_s_sp σ ((z_x_sp σ + 2) % 65536)
def z_ct (σ : z_St) (a : Nat) : z_St := z_s_pc (z_pu σ (z_x_pc σ)) a
-- flags
def z_fb (σ : z_St) : Nat := 128 * z_x_sg σ + 64 * z_x_ze σ + 16 * z_x_au σ + 4 * z_x_pa σ + 2 + z_x_ca σ
def z_ff (σ : z_St) (v : Nat) : z_St := z_s_ca (z_s_pa (z_s_au (z_s_ze (z_s_sg σ (v / 128 % 2)) (v / 64 % 2)) (v / 16 % 2)) (v / 4 % 2)) (v % 2)
def z_par (v : Nat) : Nat := (1 + v % 2 + v / 2 % 2 + v / 4 % 2 + v / 8 % 2 + v / 16 % 2 + v / 32 % 2 + v / 64 % 2 + v / 128 % 2) % 2
def z_jd (σ : z_St) (v : Nat) : z_St := z_s_pa (z_s_ze (z_s_sg σ (v / 128)) (if v = 0 then 1 else 0)) (z_par v)
def z_fo (σ : z_St) (j : Nat) : Nat := if j = 0 then z_x_ze σ else if j = 1 then z_x_ca σ else if j = 2 then z_x_pa σ else z_x_sg σ
def z_hold (σ : z_St) (k : Nat) : Nat := if z_fo σ (k / 2) = k % 2 then 1 else 0
-- calculations: the state with its flags (not judged), the result
def z_cr (σ : z_St) (k a b : Nat) : Nat := if k = 0 then (a + b) % 256 else if k = 1 then (a + b + z_x_ca σ) % 256 else if k = 3 then (a + (255 - b) + (1 - z_x_ca σ)) % 256 else if k = 4 then a &&& b else if k = 5 then a ^^^ b else if k = 6 then a ||| b else (a + (255 - b) + 1) % 256
def z_g1 (a b c : Nat) : Nat := if 15 < a % 16 + b % 16 + c then 1 else 0
def z_g2 (a b c : Nat) : Nat := if 255 < a + b + c then 1 else 0
def z_ch (σ : z_St) (k a b : Nat) : Nat := if k = 0 then z_g1 a b 0 else if k = 1 then z_g1 a b (z_x_ca σ) else if k = 3 then z_g1 a (255 - b) (1 - z_x_ca σ) else if k = 4 then (if a / 8 % 2 = 1 ∨ b / 8 % 2 = 1 then 1 else 0) else if k = 5 then 0 else if k = 6 then 0 else z_g1 a (255 - b) 1
def z_cc_ (σ : z_St) (k a b : Nat) : Nat := if k = 0 then z_g2 a b 0 else if k = 1 then z_g2 a b (z_x_ca σ) else if k = 3 then 1 - z_g2 a (255 - b) (1 - z_x_ca σ) else if k = 4 then 0 else if k = 5 then 0 else if k = 6 then 0 else 1 - z_g2 a (255 - b) 1
def z_cs (σ : z_St) (k a b : Nat) : z_St := z_s_ca (z_s_au σ (z_ch σ k a b)) (z_cc_ σ k a b)
def z_cm (σ : z_St) (k a b : Nat) : z_St := z_jd (z_cs σ k a b) (z_cr σ k a b)
def z_cv (σ : z_St) (k a b : Nat) : Nat := if k = 7 then a else z_cr σ k a b
/-- calculation k with A and b: the whole of it -/
def z_rk (σ : z_St) (k b : Nat) : z_St := z_s_reg (z_cm σ k (z_x_reg σ 7) b) (z_fs (z_x_reg σ) 7 (z_cv σ k (z_x_reg σ 7) b))
def z_up (σ : z_St) (v : Nat) : z_St := z_jd (z_s_au σ (if (v + 1) % 256 % 16 = 0 then 1 else 0)) ((v + 1) % 256)
def z_dn (σ : z_St) (v : Nat) : z_St := z_jd (z_s_au σ (if (v + 255) % 256 % 16 = 15 then 0 else 1)) ((v + 255) % 256)
def z_dl (σ : z_St) (v : Nat) : Nat := if 9 < v % 16 ∨ z_x_au σ = 1 then 1 else 0
def z_d6 (σ : z_St) (v : Nat) : Nat := if 9 < v % 16 ∨ z_x_au σ = 1 then v + 6 else v
def z_dh (σ : z_St) (v : Nat) : Nat := if 159 < z_d6 σ v ∨ z_x_ca σ = 1 then 1 else 0
def z_dv (σ : z_St) (v : Nat) : Nat := (z_d6 σ v + 96 * z_dh σ v) % 256
def z_dd (σ : z_St) (v : Nat) : z_St := z_jd (z_s_ca (z_s_au σ (if 9 < v % 16 then 1 else 0)) (z_dh σ v)) (z_dv σ v)
-- the instructions by their quarters: the state, the states that it takes
def z_A7 (σ : z_St) (v : Nat) : z_St := z_s_reg σ (z_fs (z_x_reg σ) 7 v)
def z_e2 (σ : z_St) (k : Nat) : z_St := if k = 0 then z_wr σ (z_pg σ 0) (z_x_reg σ 7) else if k = 1 then z_A7 σ (z_rd σ (z_pg σ 0)) else if k = 2 then z_wr σ (z_pg σ 1) (z_x_reg σ 7) else if k = 3 then z_A7 σ (z_rd σ (z_pg σ 1)) else if k = 4 then z_wr (z_wr (z_nn σ) (z_nw σ) (z_x_reg σ 5)) ((z_nw σ + 1) % 65536) (z_x_reg σ 4) else if k = 5 then z_s_reg (z_nn σ) (z_fs (z_fs (z_x_reg σ) 5 (z_rd σ (z_nw σ))) 4 (z_rd σ ((z_nw σ + 1) % 65536))) else if k = 6 then z_wr (z_nn σ) (z_nw σ) (z_x_reg σ 7) else z_A7 (z_nn σ) (z_rd σ (z_nw σ))
def z_t2 (k : Nat) : Nat := if k < 4 then 7 else if k < 6 then 16 else 13
def z_e7 (σ : z_St) (k : Nat) : z_St := if k = 0 then z_A7 (z_s_ca σ (z_x_reg σ 7 / 128)) (z_x_reg σ 7 % 128 * 2 + z_x_reg σ 7 / 128) else if k = 1 then z_A7 (z_s_ca σ (z_x_reg σ 7 % 2)) (z_x_reg σ 7 / 2 + z_x_reg σ 7 % 2 * 128) else if k = 2 then z_A7 (z_s_ca σ (z_x_reg σ 7 / 128)) (z_x_reg σ 7 % 128 * 2 + z_x_ca σ) else if k = 3 then z_A7 (z_s_ca σ (z_x_reg σ 7 % 2)) (z_x_reg σ 7 / 2 + z_x_ca σ * 128) else if k = 4 then z_A7 (z_dd σ (z_x_reg σ 7)) (z_dv σ (z_x_reg σ 7)) else if k = 5 then z_A7 σ (255 - z_x_reg σ 7) else if k = 6 then z_s_ca σ 1 else z_s_ca σ (1 - z_x_ca σ)
def z_ad (σ : z_St) (k : Nat) : z_St := z_ps (z_s_ca σ ((z_pg σ 2 + z_pg σ k) / 65536)) 2 ((z_pg σ 2 + z_pg σ k) % 65536)
def z_ea (σ : z_St) (b : Nat) : z_St := if b % 8 = 0 then σ else if b % 8 = 1 then (if b / 8 % 2 = 0 then z_ps (z_nn σ) (b / 16 % 4) (z_nw σ) else z_ad σ (b / 16 % 4)) else if b % 8 = 2 then z_e2 σ (b / 8) else if b % 8 = 3 then z_ps σ (b / 16 % 4) ((z_pg σ (b / 16 % 4) + (if b / 8 % 2 = 0 then 1 else 65535)) % 65536) else if b % 8 = 4 then z_rs (z_up σ (z_rg σ (b / 8 % 8))) (b / 8 % 8) ((z_rg σ (b / 8 % 8) + 1) % 256) else if b % 8 = 5 then z_rs (z_dn σ (z_rg σ (b / 8 % 8))) (b / 8 % 8) ((z_rg σ (b / 8 % 8) + 255) % 256) else if b % 8 = 6 then z_rs (z_nx σ) (b / 8 % 8) (z_nb σ) else z_e7 σ (b / 8)
def z_ta (b : Nat) : Nat := if b % 8 = 0 then 4 else if b % 8 = 1 then 10 else if b % 8 = 2 then z_t2 (b / 8) else if b % 8 = 3 then 5 else if b % 8 = 4 then (if b / 8 % 8 = 6 then 10 else 5) else if b % 8 = 5 then (if b / 8 % 8 = 6 then 10 else 5) else if b % 8 = 6 then (if b / 8 % 8 = 6 then 10 else 7) else 4
def z_eb (σ : z_St) (b : Nat) : z_St := if b = 118 then z_s_ha σ 1 else z_rs σ (b / 8 % 8) (z_rg σ (b % 8))
def z_tb (b : Nat) : Nat := if b = 118 then 7 else if b / 8 % 8 = 6 ∨ b % 8 = 6 then 7 else 5
def z_ec (σ : z_St) (b : Nat) : z_St := z_rk σ (b / 8 % 8) (z_rg σ (b % 8))
def z_tc (b : Nat) : Nat := if b % 8 = 6 then 7 else 4
def z_rt (σ : z_St) : z_St := z_s_pc (z_po σ) (z_pv σ)
def z_pp (σ : z_St) (k : Nat) : z_St := if k = 3 then z_ff (z_A7 (z_po σ) (z_pv σ / 256)) (z_pv σ % 256) else z_ps (z_po σ) k (z_pv σ)
def z_xs (σ : z_St) : z_St := z_s_reg (z_wr (z_wr σ (z_x_sp σ) (z_x_reg σ 5)) ((z_x_sp σ + 1) % 65536) (z_x_reg σ 4)) (z_fs (z_fs (z_x_reg σ) 5 (z_rd σ (z_x_sp σ))) 4 (z_rd σ ((z_x_sp σ + 1) % 65536)))
def z_xd (σ : z_St) : z_St := z_ps (z_ps σ 2 (z_pg σ 1)) 1 (z_pg σ 2)
def z_e3 (σ : z_St) (r : Nat) : z_St := if r = 2 then z_s_put (z_nx σ) (z_fs (z_x_put σ) (z_nb σ) (z_x_reg σ 7 + 1)) else if r = 3 then z_A7 (z_nx σ) (z_x_inn σ (z_nb σ)) else if r = 4 then z_xs σ else if r = 5 then z_xd σ else if r = 6 then z_s_it σ 0 else if r = 7 then z_s_it σ 1 else z_s_pc (z_nn σ) (z_nw σ)
def z_t3 (r : Nat) : Nat := if r < 4 then 10 else if r = 4 then 18 else 4
def z_pq (σ : z_St) (k : Nat) : Nat := if k = 3 then z_x_reg σ 7 * 256 + z_fb σ else z_pg σ k
def z_ed (σ : z_St) (b : Nat) : z_St := if b % 8 = 0 then (if z_hold σ (b / 8 % 8) = 1 then z_rt σ else σ) else if b % 8 = 1 then (if b / 8 % 2 = 0 then z_pp σ (b / 16 % 4) else if b / 16 % 4 = 2 then z_s_pc σ (z_pg σ 2) else if b / 16 % 4 = 3 then z_s_sp σ (z_pg σ 2) else z_rt σ) else if b % 8 = 2 then (if z_hold σ (b / 8 % 8) = 1 then z_s_pc (z_nn σ) (z_nw σ) else z_nn σ) else if b % 8 = 3 then z_e3 σ (b / 8 % 8) else if b % 8 = 4 then (if z_hold σ (b / 8 % 8) = 1 then z_ct (z_nn σ) (z_nw σ) else z_nn σ) else if b % 8 = 5 then (if b / 8 % 2 = 0 then z_pu σ (z_pq σ (b / 16 % 4)) else z_ct (z_nn σ) (z_nw σ)) else if b % 8 = 6 then z_rk (z_nx σ) (b / 8 % 8) (z_nb σ) else z_ct σ (8 * (b / 8 % 8))
def z_td (σ : z_St) (b : Nat) : Nat := if b % 8 = 0 then (if z_hold σ (b / 8 % 8) = 1 then 11 else 5) else if b % 8 = 1 then (if b / 8 % 2 = 0 then 10 else if b / 16 % 4 = 2 then 5 else if b / 16 % 4 = 3 then 5 else 10) else if b % 8 = 2 then 10 else if b % 8 = 3 then z_t3 (b / 8 % 8) else if b % 8 = 4 then (if z_hold σ (b / 8 % 8) = 1 then 17 else 11) else if b % 8 = 5 then (if b / 8 % 2 = 0 then 11 else 17) else if b % 8 = 6 then 7 else 11
def z_ex (σ : z_St) (b : Nat) : z_St := if b < 64 then z_ea σ b else if b < 128 then z_eb σ b else if b < 192 then z_ec σ b else z_ed σ b
def z_tm (σ : z_St) (b : Nat) : Nat := if b < 64 then z_ta b else if b < 128 then z_tb b else if b < 192 then z_tc b else z_td σ b
-- a step: the state, whether it counts
def z_li (σ : z_St) : z_St := z_s_wa (z_ct (z_s_ha (z_s_it σ 0) 0) (8 * (z_x_wa σ - 1))) 0
def z_go (σ : z_St) : z_St := z_s_la (z_nx σ) (if z_nb σ = 251 then 1 else 0)
def z_sx (σ : z_St) : z_St := if z_x_wa σ ≠ 0 ∧ z_x_it σ = 1 ∧ z_x_la σ = 0 then z_s_st (z_li σ) (z_x_st σ + 11) else if z_x_ha σ = 1 then z_s_st σ (z_x_st σ + 4) else z_s_st (z_ex (z_go σ) (z_nb σ)) (z_x_st σ + z_tm (z_go σ) (z_nb σ))
def z_sv (σ : z_St) : Nat := if z_x_wa σ ≠ 0 ∧ z_x_it σ = 1 ∧ z_x_la σ = 0 then 1 else if z_x_ha σ = 1 then 0 else 1
-- n steps
def z_rx : Nat → z_St → z_St
  | 0, σ => σ
  | n + 1, σ => z_rx n (z_sx σ)
def z_rv : Nat → z_St → Nat
  | 0, _ => 0
  | n + 1, σ => z_sv σ + z_rv n (z_sx σ)
-- what a setter keeps
theorem z_ok_mem {σ : z_St} {v : Nat → Nat} (h : z_Ok σ) (hv : ∀ k, v k < 256) : z_Ok (z_s_mem σ v) := ⟨hv, h.2.1, h.2.2.1, h.2.2.2.1, h.2.2.2.2.1, h.2.2.2.2.2.1, h.2.2.2.2.2.2.1, h.2.2.2.2.2.2.2.1, h.2.2.2.2.2.2.2.2.1, h.2.2.2.2.2.2.2.2.2.1, h.2.2.2.2.2.2.2.2.2.2.1, h.2.2.2.2.2.2.2.2.2.2.2.1, h.2.2.2.2.2.2.2.2.2.2.2.2.1, h.2.2.2.2.2.2.2.2.2.2.2.2.2.1, h.2.2.2.2.2.2.2.2.2.2.2.2.2.2⟩
theorem z_k_mem {σ : z_St} (h : z_Ok σ) (k : Nat) : z_x_mem σ k < 256 := h.1 k
theorem z_ok_reg {σ : z_St} {v : Nat → Nat} (h : z_Ok σ) (hv : ∀ k, v k < 256) : z_Ok (z_s_reg σ v) := ⟨h.1, hv, h.2.2.1, h.2.2.2.1, h.2.2.2.2.1, h.2.2.2.2.2.1, h.2.2.2.2.2.2.1, h.2.2.2.2.2.2.2.1, h.2.2.2.2.2.2.2.2.1, h.2.2.2.2.2.2.2.2.2.1, h.2.2.2.2.2.2.2.2.2.2.1, h.2.2.2.2.2.2.2.2.2.2.2.1, h.2.2.2.2.2.2.2.2.2.2.2.2.1, h.2.2.2.2.2.2.2.2.2.2.2.2.2.1, h.2.2.2.2.2.2.2.2.2.2.2.2.2.2⟩
theorem z_k_reg {σ : z_St} (h : z_Ok σ) (k : Nat) : z_x_reg σ k < 256 := h.2.1 k
theorem z_ok_inn {σ : z_St} {v : Nat → Nat} (h : z_Ok σ) (hv : ∀ k, v k < 256) : z_Ok (z_s_inn σ v) := ⟨h.1, h.2.1, hv, h.2.2.2.1, h.2.2.2.2.1, h.2.2.2.2.2.1, h.2.2.2.2.2.2.1, h.2.2.2.2.2.2.2.1, h.2.2.2.2.2.2.2.2.1, h.2.2.2.2.2.2.2.2.2.1, h.2.2.2.2.2.2.2.2.2.2.1, h.2.2.2.2.2.2.2.2.2.2.2.1, h.2.2.2.2.2.2.2.2.2.2.2.2.1, h.2.2.2.2.2.2.2.2.2.2.2.2.2.1, h.2.2.2.2.2.2.2.2.2.2.2.2.2.2⟩
theorem z_k_inn {σ : z_St} (h : z_Ok σ) (k : Nat) : z_x_inn σ k < 256 := h.2.2.1 k
theorem z_ok_put {σ : z_St} {v : Nat → Nat} (h : z_Ok σ) (hv : ∀ k, v k < 257) : z_Ok (z_s_put σ v) := ⟨h.1, h.2.1, h.2.2.1, hv, h.2.2.2.2.1, h.2.2.2.2.2.1, h.2.2.2.2.2.2.1, h.2.2.2.2.2.2.2.1, h.2.2.2.2.2.2.2.2.1, h.2.2.2.2.2.2.2.2.2.1, h.2.2.2.2.2.2.2.2.2.2.1, h.2.2.2.2.2.2.2.2.2.2.2.1, h.2.2.2.2.2.2.2.2.2.2.2.2.1, h.2.2.2.2.2.2.2.2.2.2.2.2.2.1, h.2.2.2.2.2.2.2.2.2.2.2.2.2.2⟩
theorem z_k_put {σ : z_St} (h : z_Ok σ) (k : Nat) : z_x_put σ k < 257 := h.2.2.2.1 k
theorem z_ok_sp {σ : z_St} {v : Nat} (h : z_Ok σ) (hv : v < 65536) : z_Ok (z_s_sp σ v) := ⟨h.1, h.2.1, h.2.2.1, h.2.2.2.1, hv, h.2.2.2.2.2.1, h.2.2.2.2.2.2.1, h.2.2.2.2.2.2.2.1, h.2.2.2.2.2.2.2.2.1, h.2.2.2.2.2.2.2.2.2.1, h.2.2.2.2.2.2.2.2.2.2.1, h.2.2.2.2.2.2.2.2.2.2.2.1, h.2.2.2.2.2.2.2.2.2.2.2.2.1, h.2.2.2.2.2.2.2.2.2.2.2.2.2.1, h.2.2.2.2.2.2.2.2.2.2.2.2.2.2⟩
theorem z_k_sp {σ : z_St} (h : z_Ok σ) : z_x_sp σ < 65536 := h.2.2.2.2.1
theorem z_ok_pc {σ : z_St} {v : Nat} (h : z_Ok σ) (hv : v < 65536) : z_Ok (z_s_pc σ v) := ⟨h.1, h.2.1, h.2.2.1, h.2.2.2.1, h.2.2.2.2.1, hv, h.2.2.2.2.2.2.1, h.2.2.2.2.2.2.2.1, h.2.2.2.2.2.2.2.2.1, h.2.2.2.2.2.2.2.2.2.1, h.2.2.2.2.2.2.2.2.2.2.1, h.2.2.2.2.2.2.2.2.2.2.2.1, h.2.2.2.2.2.2.2.2.2.2.2.2.1, h.2.2.2.2.2.2.2.2.2.2.2.2.2.1, h.2.2.2.2.2.2.2.2.2.2.2.2.2.2⟩
theorem z_k_pc {σ : z_St} (h : z_Ok σ) : z_x_pc σ < 65536 := h.2.2.2.2.2.1
theorem z_ok_ha {σ : z_St} {v : Nat} (h : z_Ok σ) (hv : v < 2) : z_Ok (z_s_ha σ v) := ⟨h.1, h.2.1, h.2.2.1, h.2.2.2.1, h.2.2.2.2.1, h.2.2.2.2.2.1, hv, h.2.2.2.2.2.2.2.1, h.2.2.2.2.2.2.2.2.1, h.2.2.2.2.2.2.2.2.2.1, h.2.2.2.2.2.2.2.2.2.2.1, h.2.2.2.2.2.2.2.2.2.2.2.1, h.2.2.2.2.2.2.2.2.2.2.2.2.1, h.2.2.2.2.2.2.2.2.2.2.2.2.2.1, h.2.2.2.2.2.2.2.2.2.2.2.2.2.2⟩
theorem z_k_ha {σ : z_St} (h : z_Ok σ) : z_x_ha σ < 2 := h.2.2.2.2.2.2.1
theorem z_ok_it {σ : z_St} {v : Nat} (h : z_Ok σ) (hv : v < 2) : z_Ok (z_s_it σ v) := ⟨h.1, h.2.1, h.2.2.1, h.2.2.2.1, h.2.2.2.2.1, h.2.2.2.2.2.1, h.2.2.2.2.2.2.1, hv, h.2.2.2.2.2.2.2.2.1, h.2.2.2.2.2.2.2.2.2.1, h.2.2.2.2.2.2.2.2.2.2.1, h.2.2.2.2.2.2.2.2.2.2.2.1, h.2.2.2.2.2.2.2.2.2.2.2.2.1, h.2.2.2.2.2.2.2.2.2.2.2.2.2.1, h.2.2.2.2.2.2.2.2.2.2.2.2.2.2⟩
theorem z_k_it {σ : z_St} (h : z_Ok σ) : z_x_it σ < 2 := h.2.2.2.2.2.2.2.1
theorem z_ok_la {σ : z_St} {v : Nat} (h : z_Ok σ) (hv : v < 2) : z_Ok (z_s_la σ v) := ⟨h.1, h.2.1, h.2.2.1, h.2.2.2.1, h.2.2.2.2.1, h.2.2.2.2.2.1, h.2.2.2.2.2.2.1, h.2.2.2.2.2.2.2.1, hv, h.2.2.2.2.2.2.2.2.2.1, h.2.2.2.2.2.2.2.2.2.2.1, h.2.2.2.2.2.2.2.2.2.2.2.1, h.2.2.2.2.2.2.2.2.2.2.2.2.1, h.2.2.2.2.2.2.2.2.2.2.2.2.2.1, h.2.2.2.2.2.2.2.2.2.2.2.2.2.2⟩
theorem z_k_la {σ : z_St} (h : z_Ok σ) : z_x_la σ < 2 := h.2.2.2.2.2.2.2.2.1
theorem z_ok_wa {σ : z_St} {v : Nat} (h : z_Ok σ) (hv : v < 9) : z_Ok (z_s_wa σ v) := ⟨h.1, h.2.1, h.2.2.1, h.2.2.2.1, h.2.2.2.2.1, h.2.2.2.2.2.1, h.2.2.2.2.2.2.1, h.2.2.2.2.2.2.2.1, h.2.2.2.2.2.2.2.2.1, hv, h.2.2.2.2.2.2.2.2.2.2.1, h.2.2.2.2.2.2.2.2.2.2.2.1, h.2.2.2.2.2.2.2.2.2.2.2.2.1, h.2.2.2.2.2.2.2.2.2.2.2.2.2.1, h.2.2.2.2.2.2.2.2.2.2.2.2.2.2⟩
theorem z_k_wa {σ : z_St} (h : z_Ok σ) : z_x_wa σ < 9 := h.2.2.2.2.2.2.2.2.2.1
theorem z_ok_sg {σ : z_St} {v : Nat} (h : z_Ok σ) (hv : v < 2) : z_Ok (z_s_sg σ v) := ⟨h.1, h.2.1, h.2.2.1, h.2.2.2.1, h.2.2.2.2.1, h.2.2.2.2.2.1, h.2.2.2.2.2.2.1, h.2.2.2.2.2.2.2.1, h.2.2.2.2.2.2.2.2.1, h.2.2.2.2.2.2.2.2.2.1, hv, h.2.2.2.2.2.2.2.2.2.2.2.1, h.2.2.2.2.2.2.2.2.2.2.2.2.1, h.2.2.2.2.2.2.2.2.2.2.2.2.2.1, h.2.2.2.2.2.2.2.2.2.2.2.2.2.2⟩
theorem z_k_sg {σ : z_St} (h : z_Ok σ) : z_x_sg σ < 2 := h.2.2.2.2.2.2.2.2.2.2.1
theorem z_ok_ze {σ : z_St} {v : Nat} (h : z_Ok σ) (hv : v < 2) : z_Ok (z_s_ze σ v) := ⟨h.1, h.2.1, h.2.2.1, h.2.2.2.1, h.2.2.2.2.1, h.2.2.2.2.2.1, h.2.2.2.2.2.2.1, h.2.2.2.2.2.2.2.1, h.2.2.2.2.2.2.2.2.1, h.2.2.2.2.2.2.2.2.2.1, h.2.2.2.2.2.2.2.2.2.2.1, hv, h.2.2.2.2.2.2.2.2.2.2.2.2.1, h.2.2.2.2.2.2.2.2.2.2.2.2.2.1, h.2.2.2.2.2.2.2.2.2.2.2.2.2.2⟩
theorem z_k_ze {σ : z_St} (h : z_Ok σ) : z_x_ze σ < 2 := h.2.2.2.2.2.2.2.2.2.2.2.1
theorem z_ok_au {σ : z_St} {v : Nat} (h : z_Ok σ) (hv : v < 2) : z_Ok (z_s_au σ v) := ⟨h.1, h.2.1, h.2.2.1, h.2.2.2.1, h.2.2.2.2.1, h.2.2.2.2.2.1, h.2.2.2.2.2.2.1, h.2.2.2.2.2.2.2.1, h.2.2.2.2.2.2.2.2.1, h.2.2.2.2.2.2.2.2.2.1, h.2.2.2.2.2.2.2.2.2.2.1, h.2.2.2.2.2.2.2.2.2.2.2.1, hv, h.2.2.2.2.2.2.2.2.2.2.2.2.2.1, h.2.2.2.2.2.2.2.2.2.2.2.2.2.2⟩
theorem z_k_au {σ : z_St} (h : z_Ok σ) : z_x_au σ < 2 := h.2.2.2.2.2.2.2.2.2.2.2.2.1
theorem z_ok_pa {σ : z_St} {v : Nat} (h : z_Ok σ) (hv : v < 2) : z_Ok (z_s_pa σ v) := ⟨h.1, h.2.1, h.2.2.1, h.2.2.2.1, h.2.2.2.2.1, h.2.2.2.2.2.1, h.2.2.2.2.2.2.1, h.2.2.2.2.2.2.2.1, h.2.2.2.2.2.2.2.2.1, h.2.2.2.2.2.2.2.2.2.1, h.2.2.2.2.2.2.2.2.2.2.1, h.2.2.2.2.2.2.2.2.2.2.2.1, h.2.2.2.2.2.2.2.2.2.2.2.2.1, hv, h.2.2.2.2.2.2.2.2.2.2.2.2.2.2⟩
theorem z_k_pa {σ : z_St} (h : z_Ok σ) : z_x_pa σ < 2 := h.2.2.2.2.2.2.2.2.2.2.2.2.2.1
theorem z_ok_ca {σ : z_St} {v : Nat} (h : z_Ok σ) (hv : v < 2) : z_Ok (z_s_ca σ v) := ⟨h.1, h.2.1, h.2.2.1, h.2.2.2.1, h.2.2.2.2.1, h.2.2.2.2.2.1, h.2.2.2.2.2.2.1, h.2.2.2.2.2.2.2.1, h.2.2.2.2.2.2.2.2.1, h.2.2.2.2.2.2.2.2.2.1, h.2.2.2.2.2.2.2.2.2.2.1, h.2.2.2.2.2.2.2.2.2.2.2.1, h.2.2.2.2.2.2.2.2.2.2.2.2.1, h.2.2.2.2.2.2.2.2.2.2.2.2.2.1, hv⟩
theorem z_k_ca {σ : z_St} (h : z_Ok σ) : z_x_ca σ < 2 := h.2.2.2.2.2.2.2.2.2.2.2.2.2.2
theorem z_ok_st {σ : z_St} {v : Nat} (h : z_Ok σ) : z_Ok (z_s_st σ v) := h
theorem z_ok_th {σ : z_St} {v : Nat} (h : z_Ok σ) : z_Ok (z_s_th σ v) := h
theorem z_fs_lt {f : Nat → Nat} {B k v : Nat} (h : ∀ j, f j < B) (hv : v < B) : ∀ j, z_fs f k v j < B := fun j => by
  unfold z_fs
  split
  · exact hv
  · exact h j
theorem z_rd_lt {σ : z_St} (h : z_Ok σ) (a : Nat) : z_rd σ a < 256 := by
  unfold z_rd
  split
  · exact z_k_mem h a
  · omega
theorem z_fw_lt {f : Nat → Nat} {B k v : Nat} (h : ∀ j, f j < B) (hv : v < B) : ∀ j, z_fw f k v j < B := by
  unfold z_fw
  split
  · exact z_fs_lt h hv
  · exact h
theorem z_ok_wr {σ : z_St} (h : z_Ok σ) (a : Nat) {v : Nat} (hv : v < 256) : z_Ok (z_wr σ a v) := z_ok_mem h (z_fw_lt (z_k_mem h) hv)
theorem z_pg_lt {σ : z_St} (h : z_Ok σ) (k : Nat) : z_pg σ k < 65536 := by
  unfold z_pg
  have h1 := z_k_reg h (2 * k)
  have h2 := z_k_reg h (2 * k + 1)
  have h3 := z_k_sp h
  split <;> omega
theorem z_ok_A7 {σ : z_St} (h : z_Ok σ) {v : Nat} (hv : v < 256) : z_Ok (z_A7 σ v) := z_ok_reg h (z_fs_lt (z_k_reg h) hv)
theorem z_ok_ps {σ : z_St} (h : z_Ok σ) (k : Nat) {v : Nat} (hv : v < 65536) : z_Ok (z_ps σ k v) := by
  refine z_ok_reg (z_ok_sp h ?_) ?_
  · split
    · exact hv
    · exact z_k_sp h
  · split
    · exact z_k_reg h
    · exact z_fs_lt (z_fs_lt (z_k_reg h) (by omega)) (by omega)
theorem z_rg_lt {σ : z_St} (h : z_Ok σ) (r : Nat) : z_rg σ r < 256 := by
  unfold z_rg
  split
  · exact z_rd_lt h _
  · exact z_k_reg h r
theorem z_ok_rs {σ : z_St} (h : z_Ok σ) (r : Nat) {v : Nat} (hv : v < 256) : z_Ok (z_rs σ r v) := by
  refine z_ok_mem (z_ok_reg h ?_) ?_
  · split
    · exact z_k_reg h
    · exact z_fs_lt (z_k_reg h) hv
  · split
    · exact z_fw_lt (z_k_mem h) hv
    · exact z_k_mem h
theorem z_nb_lt {σ : z_St} (h : z_Ok σ) : z_nb σ < 256 := z_rd_lt h _
theorem z_ok_nx {σ : z_St} (h : z_Ok σ) : z_Ok (z_nx σ) := z_ok_pc h (by omega)
theorem z_nw_lt {σ : z_St} (h : z_Ok σ) : z_nw σ < 65536 := by
  have h1 := z_nb_lt h
  have h2 := z_nb_lt (z_ok_nx h)
  unfold z_nw
  omega
theorem z_ok_nn {σ : z_St} (h : z_Ok σ) : z_Ok (z_nn σ) := z_ok_nx (z_ok_nx h)
theorem z_ok_p1 {σ : z_St} (h : z_Ok σ) {v : Nat} (hv : v < 256) : z_Ok (z_p1 σ v) := z_ok_wr (z_ok_sp h (by omega)) _ hv
theorem z_ok_pu {σ : z_St} (h : z_Ok σ) {v : Nat} (hv : v < 65536) : z_Ok (z_pu σ v) := z_ok_p1 (z_ok_p1 h (by omega)) (by omega)
theorem z_pv_lt {σ : z_St} (h : z_Ok σ) : z_pv σ < 65536 := by
  have h1 := z_rd_lt h (z_x_sp σ)
  have h2 := z_rd_lt h ((z_x_sp σ + 1) % 65536)
  unfold z_pv
  omega
theorem z_ok_po {σ : z_St} (h : z_Ok σ) : z_Ok (z_po σ) := z_ok_sp h (by omega)
theorem z_ok_ct {σ : z_St} (h : z_Ok σ) {a : Nat} (ha : a < 65536) : z_Ok (z_ct σ a) := z_ok_pc (z_ok_pu h (z_k_pc h)) ha
theorem z_fb_lt {σ : z_St} (h : z_Ok σ) : z_fb σ < 256 := by
  have h1 := z_k_sg h
  have h2 := z_k_ze h
  have h3 := z_k_au h
  have h4 := z_k_pa h
  have h5 := z_k_ca h
  unfold z_fb
  omega
theorem z_ok_ff {σ : z_St} (h : z_Ok σ) (v : Nat) : z_Ok (z_ff σ v) := z_ok_ca (z_ok_pa (z_ok_au (z_ok_ze (z_ok_sg h (by omega)) (by omega)) (by omega)) (by omega)) (by omega)
theorem z_par_lt (v : Nat) : z_par v < 2 := by
  unfold z_par
  omega
theorem z_ite_lt2 {c : Prop} {x y : Nat} (d : Decidable c) (hx : x < 2) (hy : y < 2) : (if c then x else y) < 2 := by
  split
  · exact hx
  · exact hy
theorem z_ok_jd {σ : z_St} (h : z_Ok σ) {v : Nat} (hv : v < 256) : z_Ok (z_jd σ v) := z_ok_pa (z_ok_ze (z_ok_sg h (by omega)) (z_ite_lt2 _ (by omega) (by omega))) (z_par_lt v)
theorem z_hold_lt (σ : z_St) (k : Nat) : z_hold σ k < 2 := z_ite_lt2 _ (by omega) (by omega)
theorem z_g1_lt (a b c : Nat) : z_g1 a b c < 2 := z_ite_lt2 _ (by omega) (by omega)
theorem z_g2_lt (a b c : Nat) : z_g2 a b c < 2 := z_ite_lt2 _ (by omega) (by omega)
theorem z_ch_lt (σ : z_St) (k a b : Nat) : z_ch σ k a b < 2 := by
  unfold z_ch
  repeat' split
  all_goals first | exact z_g1_lt _ _ _ | omega
theorem z_cc_lt (σ : z_St) (k a b : Nat) : z_cc_ σ k a b < 2 := by
  unfold z_cc_
  repeat' split
  all_goals first | exact z_g2_lt _ _ _ | omega
theorem z_bit_lt {a b : Nat} (ha : a < 256) (hb : b < 256) : a &&& b < 256 ∧ a ^^^ b < 256 ∧ a ||| b < 256 := ⟨Nat.and_lt_two_pow (n := 8) a hb, Nat.xor_lt_two_pow (n := 8) ha hb, Nat.or_lt_two_pow (n := 8) ha hb⟩
theorem z_cr_lt (σ : z_St) (k : Nat) {a b : Nat} (ha : a < 256) (hb : b < 256) : z_cr σ k a b < 256 := by
  obtain ⟨h1, h2, h3⟩ := z_bit_lt ha hb
  unfold z_cr
  repeat' split
  all_goals omega
theorem z_ok_cs {σ : z_St} (h : z_Ok σ) (k a b : Nat) : z_Ok (z_cs σ k a b) := z_ok_ca (z_ok_au h (z_ch_lt σ k a b)) (z_cc_lt σ k a b)
theorem z_ok_cm {σ : z_St} (h : z_Ok σ) (k : Nat) {a b : Nat} (ha : a < 256) (hb : b < 256) : z_Ok (z_cm σ k a b) := z_ok_jd (z_ok_cs h k a b) (z_cr_lt σ k ha hb)
theorem z_cv_lt (σ : z_St) (k : Nat) {a b : Nat} (ha : a < 256) (hb : b < 256) : z_cv σ k a b < 256 := by
  unfold z_cv
  split
  · exact ha
  · exact z_cr_lt σ k ha hb
theorem z_ok_rk {σ : z_St} (h : z_Ok σ) (k : Nat) {b : Nat} (hb : b < 256) : z_Ok (z_rk σ k b) := z_ok_reg (z_ok_cm h k (z_k_reg h 7) hb) (z_fs_lt (z_k_reg h) (z_cv_lt σ k (z_k_reg h 7) hb))
theorem z_ok_up {σ : z_St} (h : z_Ok σ) (v : Nat) : z_Ok (z_up σ v) := z_ok_jd (z_ok_au h (z_ite_lt2 _ (by omega) (by omega))) (by omega)
theorem z_ok_dn {σ : z_St} (h : z_Ok σ) (v : Nat) : z_Ok (z_dn σ v) := z_ok_jd (z_ok_au h (z_ite_lt2 _ (by omega) (by omega))) (by omega)
theorem z_dh_lt (σ : z_St) (v : Nat) : z_dh σ v < 2 := z_ite_lt2 _ (by omega) (by omega)
theorem z_dv_lt (σ : z_St) (v : Nat) : z_dv σ v < 256 := by
  unfold z_dv
  omega
theorem z_ok_dd {σ : z_St} (h : z_Ok σ) (v : Nat) : z_Ok (z_dd σ v) := z_ok_jd (z_ok_ca (z_ok_au h (z_ite_lt2 _ (by omega) (by omega))) (z_dh_lt σ v)) (z_dv_lt σ v)
theorem z_ok_e2 {σ : z_St} (h : z_Ok σ) (k : Nat) : z_Ok (z_e2 σ k) := by
  unfold z_e2
  repeat' split
  · exact z_ok_wr h _ (z_k_reg h 7)
  · exact z_ok_A7 h (z_rd_lt h _)
  · exact z_ok_wr h _ (z_k_reg h 7)
  · exact z_ok_A7 h (z_rd_lt h _)
  · exact z_ok_wr (z_ok_wr (z_ok_nn h) _ (z_k_reg h 5)) _ (z_k_reg h 4)
  · exact z_ok_reg (z_ok_nn h) (z_fs_lt (z_fs_lt (z_k_reg h) (z_rd_lt h _)) (z_rd_lt h _))
  · exact z_ok_wr (z_ok_nn h) _ (z_k_reg h 7)
  · exact z_ok_A7 (z_ok_nn h) (z_rd_lt h _)
theorem z_ok_e7 {σ : z_St} (h : z_Ok σ) (k : Nat) : z_Ok (z_e7 σ k) := by
  have h7 := z_k_reg h 7
  have hc := z_k_ca h
  unfold z_e7
  repeat' split
  · exact z_ok_A7 (z_ok_ca h (by omega)) (by omega)
  · exact z_ok_A7 (z_ok_ca h (by omega)) (by omega)
  · exact z_ok_A7 (z_ok_ca h (by omega)) (by omega)
  · exact z_ok_A7 (z_ok_ca h (by omega)) (by omega)
  · exact z_ok_A7 (z_ok_dd h _) (z_dv_lt σ _)
  · exact z_ok_A7 h (by omega)
  · exact z_ok_ca h (by omega)
  · exact z_ok_ca h (by omega)
theorem z_ok_ad {σ : z_St} (h : z_Ok σ) (k : Nat) : z_Ok (z_ad σ k) := by
  have h1 := z_pg_lt h 2
  have h2 := z_pg_lt h k
  exact z_ok_ps (z_ok_ca h (by omega)) _ (by omega)
theorem z_ok_ite {c : Prop} {x y : z_St} (d : Decidable c) (hx : z_Ok x) (hy : z_Ok y) : z_Ok (if c then x else y) := by
  split
  · exact hx
  · exact hy
theorem z_ok_ea {σ : z_St} (h : z_Ok σ) (b : Nat) : z_Ok (z_ea σ b) := by
  unfold z_ea
  exact z_ok_ite _ h (z_ok_ite _ (z_ok_ite _ (z_ok_ps (z_ok_nn h) _ (z_nw_lt h)) (z_ok_ad h _)) (z_ok_ite _ (z_ok_e2 h _) (z_ok_ite _ (z_ok_ps h _ (by omega)) (z_ok_ite _ (z_ok_rs (z_ok_up h _) _ (by omega)) (z_ok_ite _ (z_ok_rs (z_ok_dn h _) _ (by omega)) (z_ok_ite _ (z_ok_rs (z_ok_nx h) _ (z_nb_lt h)) (z_ok_e7 h _)))))))
theorem z_ok_eb {σ : z_St} (h : z_Ok σ) (b : Nat) : z_Ok (z_eb σ b) := by
  unfold z_eb
  split
  · exact z_ok_ha h (by omega)
  · exact z_ok_rs h _ (z_rg_lt h _)
theorem z_ok_ec {σ : z_St} (h : z_Ok σ) (b : Nat) : z_Ok (z_ec σ b) := z_ok_rk h _ (z_rg_lt h _)
theorem z_ok_rt {σ : z_St} (h : z_Ok σ) : z_Ok (z_rt σ) := z_ok_pc (z_ok_po h) (z_pv_lt h)
theorem z_ok_pp {σ : z_St} (h : z_Ok σ) (k : Nat) : z_Ok (z_pp σ k) := by
  have h1 := z_pv_lt h
  unfold z_pp
  split
  · exact z_ok_ff (z_ok_A7 (z_ok_po h) (by omega)) _
  · exact z_ok_ps (z_ok_po h) _ h1
theorem z_ok_xs {σ : z_St} (h : z_Ok σ) : z_Ok (z_xs σ) := z_ok_reg (z_ok_wr (z_ok_wr h _ (z_k_reg h 5)) _ (z_k_reg h 4)) (z_fs_lt (z_fs_lt (z_k_reg h) (z_rd_lt h _)) (z_rd_lt h _))
theorem z_ok_xd {σ : z_St} (h : z_Ok σ) : z_Ok (z_xd σ) := z_ok_ps (z_ok_ps h _ (z_pg_lt h 1)) _ (z_pg_lt h 2)
theorem z_ok_e3 {σ : z_St} (h : z_Ok σ) (r : Nat) : z_Ok (z_e3 σ r) := by
  have h7 := z_k_reg h 7
  unfold z_e3
  repeat' split
  · exact z_ok_put (z_ok_nx h) (z_fs_lt (z_k_put h) (by omega))
  · exact z_ok_A7 (z_ok_nx h) (z_k_inn h _)
  · exact z_ok_xs h
  · exact z_ok_xd h
  · exact z_ok_it h (by omega)
  · exact z_ok_it h (by omega)
  · exact z_ok_pc (z_ok_nn h) (z_nw_lt h)
theorem z_pq_lt {σ : z_St} (h : z_Ok σ) (k : Nat) : z_pq σ k < 65536 := by
  have h7 := z_k_reg h 7
  have h8 := z_fb_lt h
  have h9 := z_pg_lt h k
  unfold z_pq
  split <;> omega
theorem z_ok_ed {σ : z_St} (h : z_Ok σ) (b : Nat) : z_Ok (z_ed σ b) := by
  unfold z_ed
  exact z_ok_ite _ (z_ok_ite _ (z_ok_rt h) h) (z_ok_ite _ (z_ok_ite _ (z_ok_pp h _) (z_ok_ite _ (z_ok_pc h (z_pg_lt h 2)) (z_ok_ite _ (z_ok_sp h (z_pg_lt h 2)) (z_ok_rt h)))) (z_ok_ite _ (z_ok_ite _ (z_ok_pc (z_ok_nn h) (z_nw_lt h)) (z_ok_nn h)) (z_ok_ite _ (z_ok_e3 h _) (z_ok_ite _ (z_ok_ite _ (z_ok_ct (z_ok_nn h) (z_nw_lt h)) (z_ok_nn h)) (z_ok_ite _ (z_ok_ite _ (z_ok_pu h (z_pq_lt h _)) (z_ok_ct (z_ok_nn h) (z_nw_lt h))) (z_ok_ite _ (z_ok_rk (z_ok_nx h) _ (z_nb_lt h)) (z_ok_ct h (by omega))))))))
theorem z_ok_ex {σ : z_St} (h : z_Ok σ) (b : Nat) : z_Ok (z_ex σ b) := by
  unfold z_ex
  repeat' split
  · exact z_ok_ea h b
  · exact z_ok_eb h b
  · exact z_ok_ec h b
  · exact z_ok_ed h b
theorem z_ok_li {σ : z_St} (h : z_Ok σ) : z_Ok (z_li σ) := by
  have h1 := z_k_wa h
  exact z_ok_wa (z_ok_ct (z_ok_ha (z_ok_it h (by omega)) (by omega)) (by omega)) (by omega)
theorem z_ok_go {σ : z_St} (h : z_Ok σ) : z_Ok (z_go σ) := z_ok_la (z_ok_nx h) (z_ite_lt2 _ (by omega) (by omega))
theorem z_ok_sx {σ : z_St} (h : z_Ok σ) : z_Ok (z_sx σ) := by
  unfold z_sx
  repeat' split
  · exact z_ok_st (z_ok_li h)
  · exact z_ok_st h
  · exact z_ok_st (z_ok_ex (z_ok_go h) _)
theorem z_sv_lt (σ : z_St) : z_sv σ < 2 := by
  unfold z_sv
  repeat' split
  all_goals omega
theorem z_ok_rx : ∀ (n : Nat) {σ : z_St}, z_Ok σ → z_Ok (z_rx n σ)
  | 0, _, h => h
  | n + 1, _, h => z_ok_rx n (z_ok_sx h)
theorem z_rv_le : ∀ (n : Nat) (σ : z_St), z_rv n σ ≤ n
  | 0, _ => Nat.le_refl 0
  | n + 1, σ => by
    have h1 := z_sv_lt σ
    have h2 := z_rv_le n (z_sx σ)
    show z_sv σ + z_rv n (z_sx σ) ≤ n + 1
    omega
theorem z_fo_lt {σ : z_St} (h : z_Ok σ) (j : Nat) : z_fo σ j < 2 := by
  unfold z_fo
  have h1 := z_k_ze h
  have h2 := z_k_ca h
  have h3 := z_k_pa h
  have h4 := z_k_sg h
  repeat' split
  all_goals assumption
theorem z_t2_lt (k : Nat) : z_t2 k < 17 := by
  unfold z_t2
  repeat' split
  all_goals omega
theorem z_ta_lt (b : Nat) : z_ta b < 17 := by
  have h := z_t2_lt (b / 8)
  unfold z_ta
  repeat' split
  all_goals omega
theorem z_tb_lt (b : Nat) : z_tb b < 8 := by
  unfold z_tb
  repeat' split
  all_goals omega
theorem z_tc_lt (b : Nat) : z_tc b < 8 := by
  unfold z_tc
  repeat' split
  all_goals omega
theorem z_t3_lt (r : Nat) : z_t3 r < 19 := by
  unfold z_t3
  repeat' split
  all_goals omega
theorem z_td_lt (σ : z_St) (b : Nat) : z_td σ b < 19 := by
  have h := z_t3_lt (b / 8 % 8)
  unfold z_td
  repeat' split
  all_goals omega
theorem z_ok_j1 {σ : z_St} (h : z_Ok σ) (k : Nat) : z_Ok (if z_hold σ k = 1 then z_s_pc (z_nn σ) (z_nw σ) else z_nn σ) := by
  split
  · exact z_ok_pc (z_ok_nn h) (z_nw_lt h)
  · exact z_ok_nn h
theorem z_ok_j2 {σ : z_St} (h : z_Ok σ) (k : Nat) : z_Ok (if z_hold σ k = 1 then z_ct (z_nn σ) (z_nw σ) else z_nn σ) := by
  split
  · exact z_ok_ct (z_ok_nn h) (z_nw_lt h)
  · exact z_ok_nn h
theorem z_ok_j3 {σ : z_St} (h : z_Ok σ) (k : Nat) : z_Ok (if z_hold σ k = 1 then z_rt σ else σ) := by
  split
  · exact z_ok_rt h
  · exact h
theorem z_ok_j4 {σ : z_St} (h : z_Ok σ) (k : Nat) : z_Ok (if k = 2 then z_s_pc σ (z_pg σ 2) else if k = 3 then z_s_sp σ (z_pg σ 2) else z_rt σ) := by
  repeat' split
  · exact z_ok_pc h (z_pg_lt h 2)
  · exact z_ok_sp h (z_pg_lt h 2)
  · exact z_ok_rt h

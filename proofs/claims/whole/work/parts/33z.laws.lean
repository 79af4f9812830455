-- the reference's parity loop, by fuel
def z_pl : Nat → Nat → Nat → Nat
  | 0, _, q => q
  | n + 1, k, q => if k = 0 then q else z_pl n (k / 2) (if k % 2 = 1 then 1 - q else q)
theorem z_pl_par : ∀ v, v < 256 → z_pl 8 v 1 = z_par v := by decide +kernel
theorem z_pl_0 : ∀ (n q : Nat), z_pl n 0 q = q
  | 0, _ => rfl
  | _ + 1, _ => rfl
theorem z_pl_s {n k q : Nat} (h : ¬ k = 0) : z_pl (n + 1) k q = z_pl n (k / 2) (if k % 2 = 1 then 1 - q else q) := if_neg h
-- popped and single, as the reference has them
def z_pd (σ : z_St) (r : Nat) : z_St := if r = 5 then z_s_pc σ (z_pg σ 2) else if r = 7 then z_s_sp σ (z_pg σ 2) else if r = 1 then z_rt σ else if r = 3 then z_rt σ else if r = 6 then z_ff (z_A7 (z_po σ) (z_pv σ / 256)) (z_pv σ % 256) else z_ps (z_po σ) (r / 2) (z_pv σ)
def z_pdt (r : Nat) : Nat := if r = 5 then 5 else if r = 7 then 5 else 10
def z_sg_ (σ : z_St) (r : Nat) : z_St := if r = 2 then z_s_put (z_nx σ) (z_fs (z_x_put σ) (z_nb σ) (z_x_reg σ 7 + 1)) else if r = 3 then z_A7 (z_nx σ) (z_x_inn σ (z_nb σ)) else if r = 4 then z_xs σ else if r = 5 then z_xd σ else if r = 6 then z_s_la (z_s_it σ 0) 0 else z_s_la (z_s_it σ 1) 1
theorem z_pdt_lt (r : Nat) : z_pdt r < 11 := by
  unfold z_pdt
  repeat' split
  all_goals omega
theorem z_ok_pd {σ : z_St} (h : z_Ok σ) (r : Nat) : z_Ok (z_pd σ r) := by
  have h1 := z_pv_lt h
  unfold z_pd
  exact z_ok_ite _ (z_ok_pc h (z_pg_lt h 2)) (z_ok_ite _ (z_ok_sp h (z_pg_lt h 2)) (z_ok_ite _ (z_ok_rt h) (z_ok_ite _ (z_ok_rt h) (z_ok_ite _ (z_ok_ff (z_ok_A7 (z_ok_po h) (by omega)) _) (z_ok_ps (z_ok_po h) _ h1)))))
theorem z_ok_sgl {σ : z_St} (h : z_Ok σ) (r : Nat) : z_Ok (z_sg_ σ r) := by
  have h7 := z_k_reg h 7
  unfold z_sg_
  exact z_ok_ite _ (z_ok_put (z_ok_nx h) (z_fs_lt (z_k_put h) (by omega))) (z_ok_ite _ (z_ok_A7 (z_ok_nx h) (z_k_inn h _)) (z_ok_ite _ (z_ok_xs h) (z_ok_ite _ (z_ok_xd h) (z_ok_ite _ (z_ok_la (z_ok_it h (by omega)) (by omega)) (z_ok_la (z_ok_it h (by omega)) (by omega))))))

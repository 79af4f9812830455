theorem z_tm_lt (σ : z_St) (b : Nat) : z_tm σ b < 19 := by
  have h1 := z_ta_lt b
  have h2 := z_tb_lt b
  have h3 := z_tc_lt b
  have h4 := z_td_lt σ b
  unfold z_tm
  repeat' split
  all_goals omega
theorem z_ok_exr {σ : z_St} (h : z_Ok σ) (b : Nat) : z_Ok (if b = 251 then z_s_la (z_s_it σ 1) 1 else z_ex σ b) := z_ok_ite _ (z_ok_la (z_ok_it h (by omega)) (by omega)) (z_ok_ex h b)

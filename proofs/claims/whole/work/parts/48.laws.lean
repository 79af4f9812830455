theorem la_same {σ : z_St} (h : z_x_la σ = 0) : z_s_la (z_s_it σ 0) 0 = z_s_it σ 0 := by
  have e := sx_la (z_s_it σ 0)
  have e0 : z_x_la (z_s_it σ 0) = 0 := h
  rw [e0] at e
  exact e
theorem z_ok_edr {σ : z_St} (h : z_Ok σ) (b : Nat) : z_Ok (if b = 251 then z_s_la (z_s_it σ 1) 1 else z_ed σ b) := z_ok_ite _ (z_ok_la (z_ok_it h (by omega)) (by omega)) (z_ok_ed h b)

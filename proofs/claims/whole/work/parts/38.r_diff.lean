set_option maxHeartbeats 4000000 in
set_option maxRecDepth 100000 in
theorem r_difference {σ : z_St} {x y z : Nat} (l : Launch) (D : va_G) (cI : ClassId) (a : qAd) (hO : z_Ok σ) (hx : x < 256) (hy : y < 256) (hz : z < 2) : qCi l y_R_difference w_R_difference 2 49 D cI a [.ref a.1, .int (nI x), .int (nI y), .int (nI z)] σ (z_jd (z_s_ca (z_s_au σ (z_g1 x (255 - y) (1 - z))) (1 - z_g2 x (255 - y) (1 - z))) ((x + (255 - y) + (1 - z)) % 256)) (nI ((x + (255 - y) + (1 - z)) % 256)) := by
  refine qci_of (cc := b_R_difference) (maxL := 5) (ret := (some .int)) (by decide) rfl (Nat.le_of_ble_eq_true rfl) ?_
  intro p e s m below meth c ls K hr hlk hl hw
  have K : CallFix p m c b_R_difference 5 s _ (_ :: T0) "PortProcessorModel" := K
  have hl : lv_has ls 5 [(0, .ref a.1), (1, .int (nI x)), (2, .int (nI y)), (3, .int (nI z))] := hl
  refine lv_aload_n K.1 K.2.1 d_R_difference_0 rfl (lv_at hl 0 rfl) ?_
  refine lv_iload_n K.1 K.2.1 d_R_difference_1 rfl (lv_at hl 1 rfl) ?_
  refine nv_sipush (v := 255) K d_R_difference_2 (by decide) ?_
  refine lv_iload_n K.1 K.2.1 d_R_difference_5 rfl (lv_at hl 2 rfl) ?_
  refine nv_isub K (by omega) d_R_difference_6 ?_
  refine nv_iconst (v := 1) K d_R_difference_7 (by decide) ?_
  refine lv_iload_n K.1 K.2.1 d_R_difference_8 rfl (lv_at hl 3 rfl) ?_
  refine nv_isub K (by omega) d_R_difference_9 ?_
  refine qki K (r_sum (σ := σ) (x := x) (y := 255 - y) (z := 1 - z) l D cI a hO (by omega) (by omega) (by omega)) (cw_R_71 K (Nat.le_of_ble_eq_true rfl) (Nat.le_of_ble_eq_true rfl)) hw (va_recv (ci := 3) (q0 := 0) hw.2.2.2.1 hw.1 rfl rfl) rfl hl.1 rfl (Nat.le_of_ble_eq_true rfl) d_R_difference_10 ⟨Nat.zero_le _, Nat.zero_le _⟩ (fun H locs hw => ?_)
  have hO1 : z_Ok (z_jd (z_s_ca (z_s_au σ (z_g1 x (255 - y) (1 - z))) (z_g2 x (255 - y) (1 - z))) ((x + (255 - y) + (1 - z)) % 256)) := z_ok_jd (z_ok_ca (z_ok_au hO (z_g1_lt _ _ _)) (z_g2_lt _ _ _)) (by omega)
  refine lv_istore (lv' := [(4, .int (nI ((x + (255 - y) + (1 - z)) % 256))), (0, .ref a.1), (1, .int (nI x)), (2, .int (nI y)), (3, .int (nI z))]) K.1 K.2.1 d_R_difference_13 hl (by decide) rfl (fun ls hl => ?_)
  refine lv_aload_n K.1 K.2.1 d_R_difference_15 rfl (lv_at hl 1 rfl) ?_
  refine nv_iconst (v := 1) K d_R_difference_16 (by decide) ?_
  refine lv_aload_n K.1 K.2.1 d_R_difference_17 rfl (lv_at hl 1 rfl) ?_
  refine qg_c (v := z_g2 x (255 - y) (1 - z)) K hw rfl d_R_difference_18 ?_
  have hb2 : z_g2 x (255 - y) (1 - z) < 2 := z_k_ca hO1
  refine nv_isub K (by omega) d_R_difference_21 ?_
  refine qp_c (v := 1 - (z_g2 x (255 - y) (1 - z))) K hw d_R_difference_22 (fun H locs hw => ?_)
  have hO3 : z_Ok (z_s_ca (z_jd (z_s_ca (z_s_au σ (z_g1 x (255 - y) (1 - z))) (z_g2 x (255 - y) (1 - z))) ((x + (255 - y) + (1 - z)) % 256)) (1 - (z_g2 x (255 - y) (1 - z)))) := z_ok_ca hO1 (by omega)
  refine lv_iload K.1 K.2.1 d_R_difference_25 (lv_at hl 0 rfl) ?_
  exact qri K hr hlk hw (by unfold z_jd; simp only [z_mkS, z_x_mem, z_x_reg, z_x_inn, z_x_put, z_x_sp, z_x_pc, z_x_ha, z_x_it, z_x_la, z_x_wa, z_x_sg, z_x_ze, z_x_au, z_x_pa, z_x_ca, z_x_st, z_x_th, z_s_mem, z_s_reg, z_s_inn, z_s_put, z_s_sp, z_s_pc, z_s_ha, z_s_it, z_s_la, z_s_wa, z_s_sg, z_s_ze, z_s_au, z_s_pa, z_s_ca, z_s_st, z_s_th]) (by first | rfl | (simp; done) | (congr 1; omega) | (simp; omega)) d_R_difference_27

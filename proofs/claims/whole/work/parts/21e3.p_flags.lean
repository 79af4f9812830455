set_option maxHeartbeats 4000000 in
set_option maxRecDepth 100000 in
theorem c_difference {σ : z_St} {x y z : Nat} (l : Launch) (D : va_G) (cI : ClassId) (a : pAd) (hO : z_Ok σ) (hx : x < 256) (hy : y < 256) (hz : z < 2) : pCi l y_F_difference w_F_difference 1 24 D cI a [.ref a.2.2.1, .int (nI x), .int (nI y), .int (nI z)] σ (z_s_ca (z_s_au σ (z_g1 x (255 - y) (1 - z))) (1 - z_g2 x (255 - y) (1 - z))) (nI ((x + (255 - y) + (1 - z)) % 256)) := by
  refine pci_of (cc := b_F_difference) (maxL := 5) (ret := (some .int)) (by decide) rfl (Nat.le_of_ble_eq_true rfl) ?_
  intro p e s m below meth c ls K hr hlk hl hw
  have K : CallFix p m c b_F_difference 5 s _ (_ :: T0) "PortProcessor$Flags" := K
  have hl : lv_has ls 5 [(0, .ref a.2.2.1), (1, .int (nI x)), (2, .int (nI y)), (3, .int (nI z))] := hl
  refine lv_aload_n K.1 K.2.1 d_F_difference_0 rfl (lv_at hl 0 rfl) ?_
  refine lv_iload_n K.1 K.2.1 d_F_difference_1 rfl (lv_at hl 1 rfl) ?_
  refine nv_sipush (v := 255) K d_F_difference_2 (by decide) ?_
  refine lv_iload_n K.1 K.2.1 d_F_difference_5 rfl (lv_at hl 2 rfl) ?_
  refine nv_isub K (by omega) d_F_difference_6 ?_
  refine nv_iconst (v := 1) K d_F_difference_7 (by decide) ?_
  refine lv_iload_n K.1 K.2.1 d_F_difference_8 rfl (lv_at hl 3 rfl) ?_
  refine nv_isub K (by omega) d_F_difference_9 ?_
  refine pki K (c_sum (σ := σ) (x := x) (y := 255 - y) (z := 1 - z) l D cI a hO (by omega) (by omega) (by omega)) (cw_F_31 K (Nat.le_of_ble_eq_true rfl) (Nat.le_of_ble_eq_true rfl)) hw (va_recv (ci := 2) (q0 := 2) hw.2.2.2.1 hw.1 rfl rfl) rfl hl.1 rfl (Nat.le_of_ble_eq_true rfl) d_F_difference_10 ⟨Nat.zero_le _, Nat.zero_le _⟩ (fun H locs hw => ?_)
  have hO1 : z_Ok (z_s_ca (z_s_au σ (z_g1 x (255 - y) (1 - z))) (z_g2 x (255 - y) (1 - z))) := z_ok_ca (z_ok_au hO (z_g1_lt _ _ _)) (z_g2_lt _ _ _)
  refine lv_istore (lv' := [(4, .int (nI ((x + (255 - y) + (1 - z)) % 256))), (0, .ref a.2.2.1), (1, .int (nI x)), (2, .int (nI y)), (3, .int (nI z))]) K.1 K.2.1 d_F_difference_13 hl (by decide) rfl (fun ls hl => ?_)
  refine lv_aload_n K.1 K.2.1 d_F_difference_15 rfl (lv_at hl 1 rfl) ?_
  refine lv_aload_n K.1 K.2.1 d_F_difference_16 rfl (lv_at hl 1 rfl) ?_
  refine pg_F_carry (v := z_g2 x (255 - y) (1 - z)) K hw rfl d_F_difference_17 ?_
  have hb2 : z_g2 x (255 - y) (1 - z) < 2 := z_k_ca hO1
  refine nf_if_ne (u := 0) (v := 1) (Y := 28) K (by omega) d_F_difference_20 rfl (fun _ k => nv_iconst (v := 0) K d_F_difference_27 (by decide) k) (fun _ k => nv_iconst (v := 1) K d_F_difference_23 (by decide) (lv_goto K.1 K.2.1 d_F_difference_24 rfl k)) ?_
  have hb3 : (if (z_g2 x (255 - y) (1 - z)) = 0 then 1 else 0) < 2 := z_ite_ltB _ (by omega) (by omega)
  refine pp_F_carry (v := (if (z_g2 x (255 - y) (1 - z)) = 0 then 1 else 0)) K hw (by omega) d_F_difference_28 (fun H locs hw => ?_)
  have hO4 : z_Ok (z_s_ca (z_s_ca (z_s_au σ (z_g1 x (255 - y) (1 - z))) (z_g2 x (255 - y) (1 - z))) (if (z_g2 x (255 - y) (1 - z)) = 0 then 1 else 0)) := z_ok_ca hO1 (by omega)
  refine lv_iload K.1 K.2.1 d_F_difference_31 (lv_at hl 0 rfl) ?_
  exact pri K hr hlk hw (by rw [nz_not (z_g2_lt _ _ _), ss_ca]) (by first | rfl | (simp; done) | (congr 1; omega) | (simp; omega)) d_F_difference_33

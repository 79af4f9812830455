set_option maxHeartbeats 4000000 in
set_option maxRecDepth 100000 in
theorem c_logical {σ : z_St} {x z : Nat} (l : Launch) (D : va_G) (cI : ClassId) (a : pAd) (hO : z_Ok σ) (hx : x < 256) (hz : z < 2) : pCi l y_F_logical w_F_logical 0 0 D cI a [.ref a.2.2.1, .int (nI x), .int (nI z)] σ (z_s_ca (z_s_au σ z) 0) (nI x) := by
  refine pci_of (cc := b_F_logical) (maxL := 3) (ret := (some .int)) (by decide) rfl (Nat.le_of_ble_eq_true rfl) ?_
  intro p e s m below meth c ls K hr hlk hl hw
  have K : CallFix p m c b_F_logical 3 s _ (_ :: T0) "PortProcessor$Flags" := K
  have hl : lv_has ls 3 [(0, .ref a.2.2.1), (1, .int (nI x)), (2, .int (nI z))] := hl
  refine lv_aload_n K.1 K.2.1 d_F_logical_0 rfl (lv_at hl 0 rfl) ?_
  refine lv_iload_n K.1 K.2.1 d_F_logical_1 rfl (lv_at hl 2 rfl) ?_
  refine pp_F_auxiliary (v := z) K hw (by omega) d_F_logical_2 (fun H locs hw => ?_)
  have hO1 : z_Ok (z_s_au σ z) := z_ok_au hO (by omega)
  refine lv_aload_n K.1 K.2.1 d_F_logical_5 rfl (lv_at hl 0 rfl) ?_
  refine nv_iconst (v := 0) K d_F_logical_6 (by decide) ?_
  refine pp_F_carry (v := 0) K hw (by omega) d_F_logical_7 (fun H locs hw => ?_)
  have hO2 : z_Ok (z_s_ca (z_s_au σ z) 0) := z_ok_ca hO1 (by omega)
  refine lv_iload_n K.1 K.2.1 d_F_logical_10 rfl (lv_at hl 1 rfl) ?_
  exact pri K hr hlk hw (by first | rfl | (simp; done) | (skip; rfl)) (by first | rfl | (simp; done) | (congr 1; omega) | (simp; omega)) d_F_logical_11

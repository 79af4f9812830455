set_option maxHeartbeats 4000000 in
set_option maxRecDepth 100000 in
theorem r_popped {σ : z_St} {r : Nat} (l : Launch) (D : va_G) (cI : ClassId) (a : qAd) (hO : z_Ok σ) (hr8 : r < 8) : qCi l y_R_popped w_R_popped 2 43 D cI a [.ref a.1, .int (nI r)] σ (z_pd σ r) (nI (z_pdt r)) := by
  refine qci_of (cc := b_R_popped) (maxL := 3) (ret := (some .int)) (by decide) rfl (Nat.le_of_ble_eq_true rfl) ?_
  intro p e s m below meth c ls K hr hlk hl hw
  have K : CallFix p m c b_R_popped 3 s _ (_ :: T0) "PortProcessorModel" := K
  have hl : lv_has ls 3 [(0, .ref a.1), (1, .int (nI r))] := hl
  rcases (by omega : r = 0 ∨ r = 1 ∨ r = 2 ∨ r = 3 ∨ r = 4 ∨ r = 5 ∨ r = 6 ∨ r = 7) with h1 | h1 | h1 | h1 | h1 | h1 | h1 | h1
  · subst h1
    refine lv_iload_n K.1 K.2.1 d_R_popped_0 rfl (lv_at hl 1 rfl) ?_
    refine nv_iconst (v := 5) K d_R_popped_1 (by decide) ?_
    refine nv_icmp_ne K (by omega) (by omega) d_R_popped_2 rfl (fun _ => ?_) (fun h => (by omega : False).elim)
    refine lv_iload_n K.1 K.2.1 d_R_popped_13 rfl (lv_at hl 1 rfl) ?_
    refine nv_bipush (v := 7) K d_R_popped_14 (by decide) ?_
    refine nv_icmp_ne K (by omega) (by omega) d_R_popped_16 rfl (fun _ => ?_) (fun h => (by omega : False).elim)
    refine lv_iload_n K.1 K.2.1 d_R_popped_27 rfl (lv_at hl 1 rfl) ?_
    refine nv_iconst (v := 5) K d_R_popped_28 (by decide) ?_
    refine nv_icmp_eq K (by omega) (by omega) d_R_popped_29 rfl (fun h => (by omega : False).elim) (fun _ => ?_)
    refine lv_iload_n K.1 K.2.1 d_R_popped_32 rfl (lv_at hl 1 rfl) ?_
    refine nv_bipush (v := 7) K d_R_popped_33 (by decide) ?_
    refine nv_icmp_ne K (by omega) (by omega) d_R_popped_35 rfl (fun _ => ?_) (fun h => (by omega : False).elim)
    refine lv_aload_n K.1 K.2.1 d_R_popped_40 rfl (lv_at hl 0 rfl) ?_
    refine qki K (r_pop (σ := σ) l D cI a hO) (cw_R_119 K (Nat.le_of_ble_eq_true rfl) (Nat.le_of_ble_eq_true rfl)) hw (va_recv (ci := 3) (q0 := 0) hw.2.2.2.1 hw.1 rfl rfl) rfl hl.1 rfl (Nat.le_of_ble_eq_true rfl) d_R_popped_41 ⟨Nat.zero_le _, Nat.zero_le _⟩ (fun H locs hw => ?_)
    have hO2 : z_Ok (z_po σ) := z_ok_po hO
    have hb3 : z_pv σ < 65536 := z_pv_lt hO
    refine lv_istore_n (lv' := [(2, .int (nI (z_pv σ))), (0, .ref a.1), (1, .int (nI 0))]) K.1 K.2.1 d_R_popped_44 rfl hl (by decide) rfl (fun ls hl => ?_)
    refine lv_iload_n K.1 K.2.1 d_R_popped_45 rfl (lv_at hl 2 rfl) ?_
    refine nv_iconst (v := 1) K d_R_popped_46 (by decide) ?_
    refine nv_icmp_eq K (by omega) (by omega) d_R_popped_47 rfl (fun h => (by omega : False).elim) (fun _ => ?_)
    refine lv_iload_n K.1 K.2.1 d_R_popped_50 rfl (lv_at hl 2 rfl) ?_
    refine nv_iconst (v := 3) K d_R_popped_51 (by decide) ?_
    refine nv_icmp_ne K (by omega) (by omega) d_R_popped_52 rfl (fun _ => ?_) (fun h => (by omega : False).elim)
    refine lv_iload_n K.1 K.2.1 d_R_popped_63 rfl (lv_at hl 2 rfl) ?_
    refine nv_bipush (v := 6) K d_R_popped_64 (by decide) ?_
    refine nv_icmp_ne K (by omega) (by omega) d_R_popped_66 rfl (fun _ => ?_) (fun h => (by omega : False).elim)
    refine lv_aload_n K.1 K.2.1 d_R_popped_93 rfl (lv_at hl 1 rfl) ?_
    refine lv_iload_n K.1 K.2.1 d_R_popped_94 rfl (lv_at hl 2 rfl) ?_
    refine nv_iconst (v := 2) K d_R_popped_95 (by decide) ?_
    refine nv_idiv K (by omega) (by omega) (by omega) d_R_popped_96 (nv_as K (y := nI 0) rfl ?_)
    refine lv_iload_n K.1 K.2.1 d_R_popped_97 rfl (lv_at hl 0 rfl) ?_
    refine qkv K (r_setPair (σ := z_po σ) (k := 0) (v := z_pv σ) l D cI a hO2 (by omega) (by omega)) (cw_R_100 K (Nat.le_of_ble_eq_true rfl) (Nat.le_of_ble_eq_true rfl)) hw (va_recv (ci := 3) (q0 := 0) hw.2.2.2.1 hw.1 rfl rfl) rfl hl.1 rfl (Nat.le_of_ble_eq_true rfl) d_R_popped_98 ⟨Nat.zero_le _, Nat.zero_le _⟩ (fun H locs hw => ?_)
    have hO4 : z_Ok (z_ps (z_po σ) 0 ((z_pv σ) % 65536)) := z_ok_ps hO2 _ (by omega)
    refine nv_bipush (v := 10) K d_R_popped_101 (by decide) ?_
    exact qri K hr hlk hw (by rw [Nat.mod_eq_of_lt (z_pv_lt hO)]; rfl) (by rfl) d_R_popped_103
  · subst h1
    refine lv_iload_n K.1 K.2.1 d_R_popped_0 rfl (lv_at hl 1 rfl) ?_
    refine nv_iconst (v := 5) K d_R_popped_1 (by decide) ?_
    refine nv_icmp_ne K (by omega) (by omega) d_R_popped_2 rfl (fun _ => ?_) (fun h => (by omega : False).elim)
    refine lv_iload_n K.1 K.2.1 d_R_popped_13 rfl (lv_at hl 1 rfl) ?_
    refine nv_bipush (v := 7) K d_R_popped_14 (by decide) ?_
    refine nv_icmp_ne K (by omega) (by omega) d_R_popped_16 rfl (fun _ => ?_) (fun h => (by omega : False).elim)
    refine lv_iload_n K.1 K.2.1 d_R_popped_27 rfl (lv_at hl 1 rfl) ?_
    refine nv_iconst (v := 5) K d_R_popped_28 (by decide) ?_
    refine nv_icmp_eq K (by omega) (by omega) d_R_popped_29 rfl (fun h => (by omega : False).elim) (fun _ => ?_)
    refine lv_iload_n K.1 K.2.1 d_R_popped_32 rfl (lv_at hl 1 rfl) ?_
    refine nv_bipush (v := 7) K d_R_popped_33 (by decide) ?_
    refine nv_icmp_ne K (by omega) (by omega) d_R_popped_35 rfl (fun _ => ?_) (fun h => (by omega : False).elim)
    refine lv_aload_n K.1 K.2.1 d_R_popped_40 rfl (lv_at hl 0 rfl) ?_
    refine qki K (r_pop (σ := σ) l D cI a hO) (cw_R_119 K (Nat.le_of_ble_eq_true rfl) (Nat.le_of_ble_eq_true rfl)) hw (va_recv (ci := 3) (q0 := 0) hw.2.2.2.1 hw.1 rfl rfl) rfl hl.1 rfl (Nat.le_of_ble_eq_true rfl) d_R_popped_41 ⟨Nat.zero_le _, Nat.zero_le _⟩ (fun H locs hw => ?_)
    have hO5 : z_Ok (z_po σ) := z_ok_po hO
    have hb6 : z_pv σ < 65536 := z_pv_lt hO
    refine lv_istore_n (lv' := [(2, .int (nI (z_pv σ))), (0, .ref a.1), (1, .int (nI 1))]) K.1 K.2.1 d_R_popped_44 rfl hl (by decide) rfl (fun ls hl => ?_)
    refine lv_iload_n K.1 K.2.1 d_R_popped_45 rfl (lv_at hl 2 rfl) ?_
    refine nv_iconst (v := 1) K d_R_popped_46 (by decide) ?_
    refine nv_icmp_eq K (by omega) (by omega) d_R_popped_47 rfl (fun _ => ?_) (fun h => (by omega : False).elim)
    refine lv_aload_n K.1 K.2.1 d_R_popped_55 rfl (lv_at hl 1 rfl) ?_
    refine lv_iload_n K.1 K.2.1 d_R_popped_56 rfl (lv_at hl 0 rfl) ?_
    refine qp_pc (v := z_pv σ) K hw d_R_popped_57 (fun H locs hw => ?_)
    have hO7 : z_Ok (z_s_pc (z_po σ) (z_pv σ)) := z_ok_pc hO5 (by omega)
    refine lv_goto K.1 K.2.1 d_R_popped_60 rfl ?_
    refine nv_bipush (v := 10) K d_R_popped_101 (by decide) ?_
    exact qri K hr hlk hw (by rfl) (by rfl) d_R_popped_103
  · subst h1
    refine lv_iload_n K.1 K.2.1 d_R_popped_0 rfl (lv_at hl 1 rfl) ?_
    refine nv_iconst (v := 5) K d_R_popped_1 (by decide) ?_
    refine nv_icmp_ne K (by omega) (by omega) d_R_popped_2 rfl (fun _ => ?_) (fun h => (by omega : False).elim)
    refine lv_iload_n K.1 K.2.1 d_R_popped_13 rfl (lv_at hl 1 rfl) ?_
    refine nv_bipush (v := 7) K d_R_popped_14 (by decide) ?_
    refine nv_icmp_ne K (by omega) (by omega) d_R_popped_16 rfl (fun _ => ?_) (fun h => (by omega : False).elim)
    refine lv_iload_n K.1 K.2.1 d_R_popped_27 rfl (lv_at hl 1 rfl) ?_
    refine nv_iconst (v := 5) K d_R_popped_28 (by decide) ?_
    refine nv_icmp_eq K (by omega) (by omega) d_R_popped_29 rfl (fun h => (by omega : False).elim) (fun _ => ?_)
    refine lv_iload_n K.1 K.2.1 d_R_popped_32 rfl (lv_at hl 1 rfl) ?_
    refine nv_bipush (v := 7) K d_R_popped_33 (by decide) ?_
    refine nv_icmp_ne K (by omega) (by omega) d_R_popped_35 rfl (fun _ => ?_) (fun h => (by omega : False).elim)
    refine lv_aload_n K.1 K.2.1 d_R_popped_40 rfl (lv_at hl 0 rfl) ?_
    refine qki K (r_pop (σ := σ) l D cI a hO) (cw_R_119 K (Nat.le_of_ble_eq_true rfl) (Nat.le_of_ble_eq_true rfl)) hw (va_recv (ci := 3) (q0 := 0) hw.2.2.2.1 hw.1 rfl rfl) rfl hl.1 rfl (Nat.le_of_ble_eq_true rfl) d_R_popped_41 ⟨Nat.zero_le _, Nat.zero_le _⟩ (fun H locs hw => ?_)
    have hO8 : z_Ok (z_po σ) := z_ok_po hO
    have hb9 : z_pv σ < 65536 := z_pv_lt hO
    refine lv_istore_n (lv' := [(2, .int (nI (z_pv σ))), (0, .ref a.1), (1, .int (nI 2))]) K.1 K.2.1 d_R_popped_44 rfl hl (by decide) rfl (fun ls hl => ?_)
    refine lv_iload_n K.1 K.2.1 d_R_popped_45 rfl (lv_at hl 2 rfl) ?_
    refine nv_iconst (v := 1) K d_R_popped_46 (by decide) ?_
    refine nv_icmp_eq K (by omega) (by omega) d_R_popped_47 rfl (fun h => (by omega : False).elim) (fun _ => ?_)
    refine lv_iload_n K.1 K.2.1 d_R_popped_50 rfl (lv_at hl 2 rfl) ?_
    refine nv_iconst (v := 3) K d_R_popped_51 (by decide) ?_
    refine nv_icmp_ne K (by omega) (by omega) d_R_popped_52 rfl (fun _ => ?_) (fun h => (by omega : False).elim)
    refine lv_iload_n K.1 K.2.1 d_R_popped_63 rfl (lv_at hl 2 rfl) ?_
    refine nv_bipush (v := 6) K d_R_popped_64 (by decide) ?_
    refine nv_icmp_ne K (by omega) (by omega) d_R_popped_66 rfl (fun _ => ?_) (fun h => (by omega : False).elim)
    refine lv_aload_n K.1 K.2.1 d_R_popped_93 rfl (lv_at hl 1 rfl) ?_
    refine lv_iload_n K.1 K.2.1 d_R_popped_94 rfl (lv_at hl 2 rfl) ?_
    refine nv_iconst (v := 2) K d_R_popped_95 (by decide) ?_
    refine nv_idiv K (by omega) (by omega) (by omega) d_R_popped_96 (nv_as K (y := nI 1) rfl ?_)
    refine lv_iload_n K.1 K.2.1 d_R_popped_97 rfl (lv_at hl 0 rfl) ?_
    refine qkv K (r_setPair (σ := z_po σ) (k := 1) (v := z_pv σ) l D cI a hO8 (by omega) (by omega)) (cw_R_100 K (Nat.le_of_ble_eq_true rfl) (Nat.le_of_ble_eq_true rfl)) hw (va_recv (ci := 3) (q0 := 0) hw.2.2.2.1 hw.1 rfl rfl) rfl hl.1 rfl (Nat.le_of_ble_eq_true rfl) d_R_popped_98 ⟨Nat.zero_le _, Nat.zero_le _⟩ (fun H locs hw => ?_)
    have hO10 : z_Ok (z_ps (z_po σ) 1 ((z_pv σ) % 65536)) := z_ok_ps hO8 _ (by omega)
    refine nv_bipush (v := 10) K d_R_popped_101 (by decide) ?_
    exact qri K hr hlk hw (by rw [Nat.mod_eq_of_lt (z_pv_lt hO)]; rfl) (by rfl) d_R_popped_103
  · subst h1
    refine lv_iload_n K.1 K.2.1 d_R_popped_0 rfl (lv_at hl 1 rfl) ?_
    refine nv_iconst (v := 5) K d_R_popped_1 (by decide) ?_
    refine nv_icmp_ne K (by omega) (by omega) d_R_popped_2 rfl (fun _ => ?_) (fun h => (by omega : False).elim)
    refine lv_iload_n K.1 K.2.1 d_R_popped_13 rfl (lv_at hl 1 rfl) ?_
    refine nv_bipush (v := 7) K d_R_popped_14 (by decide) ?_
    refine nv_icmp_ne K (by omega) (by omega) d_R_popped_16 rfl (fun _ => ?_) (fun h => (by omega : False).elim)
    refine lv_iload_n K.1 K.2.1 d_R_popped_27 rfl (lv_at hl 1 rfl) ?_
    refine nv_iconst (v := 5) K d_R_popped_28 (by decide) ?_
    refine nv_icmp_eq K (by omega) (by omega) d_R_popped_29 rfl (fun h => (by omega : False).elim) (fun _ => ?_)
    refine lv_iload_n K.1 K.2.1 d_R_popped_32 rfl (lv_at hl 1 rfl) ?_
    refine nv_bipush (v := 7) K d_R_popped_33 (by decide) ?_
    refine nv_icmp_ne K (by omega) (by omega) d_R_popped_35 rfl (fun _ => ?_) (fun h => (by omega : False).elim)
    refine lv_aload_n K.1 K.2.1 d_R_popped_40 rfl (lv_at hl 0 rfl) ?_
    refine qki K (r_pop (σ := σ) l D cI a hO) (cw_R_119 K (Nat.le_of_ble_eq_true rfl) (Nat.le_of_ble_eq_true rfl)) hw (va_recv (ci := 3) (q0 := 0) hw.2.2.2.1 hw.1 rfl rfl) rfl hl.1 rfl (Nat.le_of_ble_eq_true rfl) d_R_popped_41 ⟨Nat.zero_le _, Nat.zero_le _⟩ (fun H locs hw => ?_)
    have hO11 : z_Ok (z_po σ) := z_ok_po hO
    have hb12 : z_pv σ < 65536 := z_pv_lt hO
    refine lv_istore_n (lv' := [(2, .int (nI (z_pv σ))), (0, .ref a.1), (1, .int (nI 3))]) K.1 K.2.1 d_R_popped_44 rfl hl (by decide) rfl (fun ls hl => ?_)
    refine lv_iload_n K.1 K.2.1 d_R_popped_45 rfl (lv_at hl 2 rfl) ?_
    refine nv_iconst (v := 1) K d_R_popped_46 (by decide) ?_
    refine nv_icmp_eq K (by omega) (by omega) d_R_popped_47 rfl (fun h => (by omega : False).elim) (fun _ => ?_)
    refine lv_iload_n K.1 K.2.1 d_R_popped_50 rfl (lv_at hl 2 rfl) ?_
    refine nv_iconst (v := 3) K d_R_popped_51 (by decide) ?_
    refine nv_icmp_ne K (by omega) (by omega) d_R_popped_52 rfl (fun h => (by omega : False).elim) (fun _ => ?_)
    refine lv_aload_n K.1 K.2.1 d_R_popped_55 rfl (lv_at hl 1 rfl) ?_
    refine lv_iload_n K.1 K.2.1 d_R_popped_56 rfl (lv_at hl 0 rfl) ?_
    refine qp_pc (v := z_pv σ) K hw d_R_popped_57 (fun H locs hw => ?_)
    have hO13 : z_Ok (z_s_pc (z_po σ) (z_pv σ)) := z_ok_pc hO11 (by omega)
    refine lv_goto K.1 K.2.1 d_R_popped_60 rfl ?_
    refine nv_bipush (v := 10) K d_R_popped_101 (by decide) ?_
    exact qri K hr hlk hw (by rfl) (by rfl) d_R_popped_103
  · subst h1
    refine lv_iload_n K.1 K.2.1 d_R_popped_0 rfl (lv_at hl 1 rfl) ?_
    refine nv_iconst (v := 5) K d_R_popped_1 (by decide) ?_
    refine nv_icmp_ne K (by omega) (by omega) d_R_popped_2 rfl (fun _ => ?_) (fun h => (by omega : False).elim)
    refine lv_iload_n K.1 K.2.1 d_R_popped_13 rfl (lv_at hl 1 rfl) ?_
    refine nv_bipush (v := 7) K d_R_popped_14 (by decide) ?_
    refine nv_icmp_ne K (by omega) (by omega) d_R_popped_16 rfl (fun _ => ?_) (fun h => (by omega : False).elim)
    refine lv_iload_n K.1 K.2.1 d_R_popped_27 rfl (lv_at hl 1 rfl) ?_
    refine nv_iconst (v := 5) K d_R_popped_28 (by decide) ?_
    refine nv_icmp_eq K (by omega) (by omega) d_R_popped_29 rfl (fun h => (by omega : False).elim) (fun _ => ?_)
    refine lv_iload_n K.1 K.2.1 d_R_popped_32 rfl (lv_at hl 1 rfl) ?_
    refine nv_bipush (v := 7) K d_R_popped_33 (by decide) ?_
    refine nv_icmp_ne K (by omega) (by omega) d_R_popped_35 rfl (fun _ => ?_) (fun h => (by omega : False).elim)
    refine lv_aload_n K.1 K.2.1 d_R_popped_40 rfl (lv_at hl 0 rfl) ?_
    refine qki K (r_pop (σ := σ) l D cI a hO) (cw_R_119 K (Nat.le_of_ble_eq_true rfl) (Nat.le_of_ble_eq_true rfl)) hw (va_recv (ci := 3) (q0 := 0) hw.2.2.2.1 hw.1 rfl rfl) rfl hl.1 rfl (Nat.le_of_ble_eq_true rfl) d_R_popped_41 ⟨Nat.zero_le _, Nat.zero_le _⟩ (fun H locs hw => ?_)
    have hO14 : z_Ok (z_po σ) := z_ok_po hO
    have hb15 : z_pv σ < 65536 := z_pv_lt hO
    refine lv_istore_n (lv' := [(2, .int (nI (z_pv σ))), (0, .ref a.1), (1, .int (nI 4))]) K.1 K.2.1 d_R_popped_44 rfl hl (by decide) rfl (fun ls hl => ?_)
    refine lv_iload_n K.1 K.2.1 d_R_popped_45 rfl (lv_at hl 2 rfl) ?_
    refine nv_iconst (v := 1) K d_R_popped_46 (by decide) ?_
    refine nv_icmp_eq K (by omega) (by omega) d_R_popped_47 rfl (fun h => (by omega : False).elim) (fun _ => ?_)
    refine lv_iload_n K.1 K.2.1 d_R_popped_50 rfl (lv_at hl 2 rfl) ?_
    refine nv_iconst (v := 3) K d_R_popped_51 (by decide) ?_
    refine nv_icmp_ne K (by omega) (by omega) d_R_popped_52 rfl (fun _ => ?_) (fun h => (by omega : False).elim)
    refine lv_iload_n K.1 K.2.1 d_R_popped_63 rfl (lv_at hl 2 rfl) ?_
    refine nv_bipush (v := 6) K d_R_popped_64 (by decide) ?_
    refine nv_icmp_ne K (by omega) (by omega) d_R_popped_66 rfl (fun _ => ?_) (fun h => (by omega : False).elim)
    refine lv_aload_n K.1 K.2.1 d_R_popped_93 rfl (lv_at hl 1 rfl) ?_
    refine lv_iload_n K.1 K.2.1 d_R_popped_94 rfl (lv_at hl 2 rfl) ?_
    refine nv_iconst (v := 2) K d_R_popped_95 (by decide) ?_
    refine nv_idiv K (by omega) (by omega) (by omega) d_R_popped_96 (nv_as K (y := nI 2) rfl ?_)
    refine lv_iload_n K.1 K.2.1 d_R_popped_97 rfl (lv_at hl 0 rfl) ?_
    refine qkv K (r_setPair (σ := z_po σ) (k := 2) (v := z_pv σ) l D cI a hO14 (by omega) (by omega)) (cw_R_100 K (Nat.le_of_ble_eq_true rfl) (Nat.le_of_ble_eq_true rfl)) hw (va_recv (ci := 3) (q0 := 0) hw.2.2.2.1 hw.1 rfl rfl) rfl hl.1 rfl (Nat.le_of_ble_eq_true rfl) d_R_popped_98 ⟨Nat.zero_le _, Nat.zero_le _⟩ (fun H locs hw => ?_)
    have hO16 : z_Ok (z_ps (z_po σ) 2 ((z_pv σ) % 65536)) := z_ok_ps hO14 _ (by omega)
    refine nv_bipush (v := 10) K d_R_popped_101 (by decide) ?_
    exact qri K hr hlk hw (by rw [Nat.mod_eq_of_lt (z_pv_lt hO)]; rfl) (by rfl) d_R_popped_103
  · subst h1
    refine lv_iload_n K.1 K.2.1 d_R_popped_0 rfl (lv_at hl 1 rfl) ?_
    refine nv_iconst (v := 5) K d_R_popped_1 (by decide) ?_
    refine nv_icmp_ne K (by omega) (by omega) d_R_popped_2 rfl (fun h => (by omega : False).elim) (fun _ => ?_)
    refine lv_aload_n K.1 K.2.1 d_R_popped_5 rfl (lv_at hl 0 rfl) ?_
    refine lv_aload_n K.1 K.2.1 d_R_popped_6 rfl (lv_at hl 0 rfl) ?_
    refine qki K (r_hl (σ := σ) l D cI a hO) (cw_R_29 K (Nat.le_of_ble_eq_true rfl) (Nat.le_of_ble_eq_true rfl)) hw (va_recv (ci := 3) (q0 := 0) hw.2.2.2.1 hw.1 rfl rfl) rfl hl.1 rfl (Nat.le_of_ble_eq_true rfl) d_R_popped_7 ⟨Nat.zero_le _, Nat.zero_le _⟩ (fun H locs hw => ?_)
    have hb17 : z_pg σ 2 < 65536 := z_pg_lt hO _
    refine qp_pc (v := z_pg σ 2) K hw d_R_popped_10 (fun H locs hw => ?_)
    have hO18 : z_Ok (z_s_pc σ (z_pg σ 2)) := z_ok_pc hO (by omega)
    refine lv_iload_n K.1 K.2.1 d_R_popped_13 rfl (lv_at hl 1 rfl) ?_
    refine nv_bipush (v := 7) K d_R_popped_14 (by decide) ?_
    refine nv_icmp_ne K (by omega) (by omega) d_R_popped_16 rfl (fun _ => ?_) (fun h => (by omega : False).elim)
    refine lv_iload_n K.1 K.2.1 d_R_popped_27 rfl (lv_at hl 1 rfl) ?_
    refine nv_iconst (v := 5) K d_R_popped_28 (by decide) ?_
    refine nv_icmp_eq K (by omega) (by omega) d_R_popped_29 rfl (fun _ => ?_) (fun h => (by omega : False).elim)
    refine nv_iconst (v := 5) K d_R_popped_38 (by decide) ?_
    exact qri K hr hlk hw (by rfl) (by rfl) d_R_popped_39
  · subst h1
    refine lv_iload_n K.1 K.2.1 d_R_popped_0 rfl (lv_at hl 1 rfl) ?_
    refine nv_iconst (v := 5) K d_R_popped_1 (by decide) ?_
    refine nv_icmp_ne K (by omega) (by omega) d_R_popped_2 rfl (fun _ => ?_) (fun h => (by omega : False).elim)
    refine lv_iload_n K.1 K.2.1 d_R_popped_13 rfl (lv_at hl 1 rfl) ?_
    refine nv_bipush (v := 7) K d_R_popped_14 (by decide) ?_
    refine nv_icmp_ne K (by omega) (by omega) d_R_popped_16 rfl (fun _ => ?_) (fun h => (by omega : False).elim)
    refine lv_iload_n K.1 K.2.1 d_R_popped_27 rfl (lv_at hl 1 rfl) ?_
    refine nv_iconst (v := 5) K d_R_popped_28 (by decide) ?_
    refine nv_icmp_eq K (by omega) (by omega) d_R_popped_29 rfl (fun h => (by omega : False).elim) (fun _ => ?_)
    refine lv_iload_n K.1 K.2.1 d_R_popped_32 rfl (lv_at hl 1 rfl) ?_
    refine nv_bipush (v := 7) K d_R_popped_33 (by decide) ?_
    refine nv_icmp_ne K (by omega) (by omega) d_R_popped_35 rfl (fun _ => ?_) (fun h => (by omega : False).elim)
    refine lv_aload_n K.1 K.2.1 d_R_popped_40 rfl (lv_at hl 0 rfl) ?_
    refine qki K (r_pop (σ := σ) l D cI a hO) (cw_R_119 K (Nat.le_of_ble_eq_true rfl) (Nat.le_of_ble_eq_true rfl)) hw (va_recv (ci := 3) (q0 := 0) hw.2.2.2.1 hw.1 rfl rfl) rfl hl.1 rfl (Nat.le_of_ble_eq_true rfl) d_R_popped_41 ⟨Nat.zero_le _, Nat.zero_le _⟩ (fun H locs hw => ?_)
    have hO19 : z_Ok (z_po σ) := z_ok_po hO
    have hb20 : z_pv σ < 65536 := z_pv_lt hO
    refine lv_istore_n (lv' := [(2, .int (nI (z_pv σ))), (0, .ref a.1), (1, .int (nI 6))]) K.1 K.2.1 d_R_popped_44 rfl hl (by decide) rfl (fun ls hl => ?_)
    refine lv_iload_n K.1 K.2.1 d_R_popped_45 rfl (lv_at hl 2 rfl) ?_
    refine nv_iconst (v := 1) K d_R_popped_46 (by decide) ?_
    refine nv_icmp_eq K (by omega) (by omega) d_R_popped_47 rfl (fun h => (by omega : False).elim) (fun _ => ?_)
    refine lv_iload_n K.1 K.2.1 d_R_popped_50 rfl (lv_at hl 2 rfl) ?_
    refine nv_iconst (v := 3) K d_R_popped_51 (by decide) ?_
    refine nv_icmp_ne K (by omega) (by omega) d_R_popped_52 rfl (fun _ => ?_) (fun h => (by omega : False).elim)
    refine lv_iload_n K.1 K.2.1 d_R_popped_63 rfl (lv_at hl 2 rfl) ?_
    refine nv_bipush (v := 6) K d_R_popped_64 (by decide) ?_
    refine nv_icmp_ne K (by omega) (by omega) d_R_popped_66 rfl (fun h => (by omega : False).elim) (fun _ => ?_)
    refine lv_aload_n K.1 K.2.1 d_R_popped_69 rfl (lv_at hl 1 rfl) ?_
    refine qg_reg K hw d_R_popped_70 ?_
    refine nv_bipush (v := 7) K d_R_popped_73 (by decide) ?_
    refine lv_iload_n K.1 K.2.1 d_R_popped_75 rfl (lv_at hl 0 rfl) ?_
    refine nv_sipush (v := 256) K d_R_popped_76 (by decide) ?_
    refine nv_idiv K (by omega) (by omega) (by omega) d_R_popped_79 ?_
    refine qs_reg (i := 7) (v := (z_pv σ) / 256) K hw (by omega) d_R_popped_80 (fun H locs hw => ?_)
    have hO21 : z_Ok (z_s_reg (z_po σ) (z_fs (z_x_reg σ) 7 ((z_pv σ) / 256))) := z_ok_reg hO19 (z_fs_lt (z_k_reg hO) (by omega))
    refine lv_aload_n K.1 K.2.1 d_R_popped_81 rfl (lv_at hl 1 rfl) ?_
    refine lv_iload_n K.1 K.2.1 d_R_popped_82 rfl (lv_at hl 0 rfl) ?_
    refine nv_sipush (v := 256) K d_R_popped_83 (by decide) ?_
    refine nv_irem K (by omega) (by omega) (by omega) d_R_popped_86 ?_
    refine qkv K (r_setFlags (σ := z_s_reg (z_po σ) (z_fs (z_x_reg σ) 7 ((z_pv σ) / 256))) (v := (z_pv σ) % 256) l D cI a hO21 (by omega)) (cw_R_134 K (Nat.le_of_ble_eq_true rfl) (Nat.le_of_ble_eq_true rfl)) hw (va_recv (ci := 3) (q0 := 0) hw.2.2.2.1 hw.1 rfl rfl) rfl hl.1 rfl (Nat.le_of_ble_eq_true rfl) d_R_popped_87 ⟨Nat.zero_le _, Nat.zero_le _⟩ (fun H locs hw => ?_)
    have hO22 : z_Ok (z_ff (z_s_reg (z_po σ) (z_fs (z_x_reg σ) 7 ((z_pv σ) / 256))) ((z_pv σ) % 256)) := z_ok_ff hO21 _
    refine lv_goto K.1 K.2.1 d_R_popped_90 rfl ?_
    refine nv_bipush (v := 10) K d_R_popped_101 (by decide) ?_
    exact qri K hr hlk hw (by rfl) (by rfl) d_R_popped_103
  · subst h1
    refine lv_iload_n K.1 K.2.1 d_R_popped_0 rfl (lv_at hl 1 rfl) ?_
    refine nv_iconst (v := 5) K d_R_popped_1 (by decide) ?_
    refine nv_icmp_ne K (by omega) (by omega) d_R_popped_2 rfl (fun _ => ?_) (fun h => (by omega : False).elim)
    refine lv_iload_n K.1 K.2.1 d_R_popped_13 rfl (lv_at hl 1 rfl) ?_
    refine nv_bipush (v := 7) K d_R_popped_14 (by decide) ?_
    refine nv_icmp_ne K (by omega) (by omega) d_R_popped_16 rfl (fun h => (by omega : False).elim) (fun _ => ?_)
    refine lv_aload_n K.1 K.2.1 d_R_popped_19 rfl (lv_at hl 0 rfl) ?_
    refine lv_aload_n K.1 K.2.1 d_R_popped_20 rfl (lv_at hl 0 rfl) ?_
    refine qki K (r_hl (σ := σ) l D cI a hO) (cw_R_29 K (Nat.le_of_ble_eq_true rfl) (Nat.le_of_ble_eq_true rfl)) hw (va_recv (ci := 3) (q0 := 0) hw.2.2.2.1 hw.1 rfl rfl) rfl hl.1 rfl (Nat.le_of_ble_eq_true rfl) d_R_popped_21 ⟨Nat.zero_le _, Nat.zero_le _⟩ (fun H locs hw => ?_)
    have hb23 : z_pg σ 2 < 65536 := z_pg_lt hO _
    refine qp_sp (v := z_pg σ 2) K hw d_R_popped_24 (fun H locs hw => ?_)
    have hO24 : z_Ok (z_s_sp σ (z_pg σ 2)) := z_ok_sp hO (by omega)
    refine lv_iload_n K.1 K.2.1 d_R_popped_27 rfl (lv_at hl 1 rfl) ?_
    refine nv_iconst (v := 5) K d_R_popped_28 (by decide) ?_
    refine nv_icmp_eq K (by omega) (by omega) d_R_popped_29 rfl (fun h => (by omega : False).elim) (fun _ => ?_)
    refine lv_iload_n K.1 K.2.1 d_R_popped_32 rfl (lv_at hl 1 rfl) ?_
    refine nv_bipush (v := 7) K d_R_popped_33 (by decide) ?_
    refine nv_icmp_ne K (by omega) (by omega) d_R_popped_35 rfl (fun h => (by omega : False).elim) (fun _ => ?_)
    refine nv_iconst (v := 5) K d_R_popped_38 (by decide) ?_
    exact qri K hr hlk hw (by rfl) (by rfl) d_R_popped_39

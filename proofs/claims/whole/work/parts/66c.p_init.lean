-- PortProcessor(): six cells; every port has put nothing out
set_option maxHeartbeats 8000000 in
set_option maxRecDepth 100000 in
theorem p_init (l : Launch) (D : va_G) (h0 : Nat) : ∀ sz : Nat, Met l y_P_init w_P_init { frames := 2, cells := 6, slots := 1550, locals := 40 } (va_Pc [.ref h0] (fun U => (U.heap.size = sz ∧ va_P D vwCl [(h0, .inr (0, [.null, .null, .null, .null, .null, .int 0, .int 0, .int 0, .int 0, .int 0, .int 0, .long 0]))] U.heap ∧ va_K D vwCl [] U ∧ va_D (fun _ => True) [(h0, .inr (0, [.null, .null, .null, .null, .null, .int 0, .int 0, .int 0, .int 0, .int 0, .int 0, .long 0]))]) ∧ va_Nw (.methodLinkNest "PortProcessor" 9 y_M_init "PortProcessor") U ∧ va_Nw (.methodLinkNest "PortProcessor" 18 y_F_init "PortProcessor") U)) (va_Qv (fun u : ClassId × pAd => u.2.1 = h0) (fun u t => va_P D vwCl (pw u.1 u.2 z_0) t.heap ∧ va_K D vwCl [(u.1, .int)] t ∧ va_D (va_A [(h0, .inr (0, [.null, .null, .null, .null, .null, .int 0, .int 0, .int 0, .int 0, .int 0, .int 0, .long 0]))] sz) (pw u.1 u.2 z_0)) (va_A [(h0, .inr (0, [.null, .null, .null, .null, .null, .int 0, .int 0, .int 0, .int 0, .int 0, .int 0, .long 0]))] sz)) 6 1550 (va_A [(h0, .inr (0, [.null, .null, .null, .null, .null, .int 0, .int 0, .int 0, .int 0, .int 0, .int 0, .long 0]))] sz) := by
  intro sz
  refine Met.ofW (cc := b_P_init) (maxL := 2) (ret := none) (by decide) rfl ?_
  intro p e s m args below meth c s₁ B hml hv
  obtain ⟨rfl, ⟨hsz, hP, hK, hD0⟩, hNM, hNF⟩ := hv
  have hts := atoms_spec (ws := w_P_init) B.pre
  have hown : s.vm.findClass "PortProcessor" = some m.cls := findClass_of_methodNamed B.named
  have hin : meth.name = "<init>" := (name_of_methodNamed B.named B.method).1
  have hr := B.returns
  have hlk := B.notSynchronized
  subst hsz
  have K : CallFix p m c b_P_init 2 s _ (_ :: T0) "PortProcessor" := ⟨B.exec, B.bytes, hml, hown, hts⟩
  have hD := hD0.self (sz := s.heap.size)
  generalize hAe : va_A [(h0, .inr (0, [.null, .null, .null, .null, .null, .int 0, .int 0, .int 0, .int 0, .int 0, .int 0, .long 0]))] s.heap.size = A at hD ⊢
  have hA : ∀ q : Nat, s.heap.size ≤ q → A q := fun q h => by rw [← hAe]; exact Or.inr h
  have hS : va_S A s.heap s.heap [] := va_S.rf
  have hP : va_P D vwCl [(h0, .inr (0, [.null, .null, .null, .null, .null, .int 0, .int 0, .int 0, .int 0, .int 0, .int 0, .long 0]))] s.heap := hP
  have hl := lv_entry ([.ref h0]) (n := 2) (Nat.le_of_ble_eq_true rfl)
  rw [lg_entry_eq]
  generalize (lg_sl ([.ref h0]) ++ List.replicate (2 - (lg_sl ([.ref h0])).length) Slot.unset).toArray = ls at hl ⊢
  have hl : lv_has ls 2 [(0, .ref h0)] := hl
  refine lv_aload_n K.1 K.2.1 d_P_init_0 rfl (lv_at hl 0 rfl) ?_
  refine W.objInit K.1 K.2.1 hown (hts _ (List.mem_cons_of_mem _ m_obj_P)) (hts _ (List.mem_cons_of_mem _ m_objI)) (hts _ (List.mem_cons_of_mem _ m_objC)) rfl (by rw [hml]; exact hl.1) rfl d_P_init_1 (Nat.le_of_ble_eq_true rfl) (Nat.le_of_ble_eq_true rfl) ?_
  refine W.eq (g2 := F0 m 4 ls []) rfl ?_
  refine lv_aload_n K.1 K.2.1 d_P_init_4 rfl (lv_at hl 0 rfl) ?_
  refine va_new (ci := 1) (fs := [.null]) (C := "PortProcessor$Memory") (T := T_M) (N := 1) K.1 K.2.1 hts (fun w h => List.mem_cons_of_mem _ (in_M w h)) ty_M ok9_M hown (hts _ (List.mem_cons_of_mem _ m_new_M)) (hts _ (List.mem_cons_of_mem _ m_ins_M)) (hts _ (List.mem_cons_of_mem _ m_ini_M)) hK hP hD hS hA rfl (fun j hj => by rcases (by omega : j = 0) with rfl <;> rfl) (Nat.le_of_ble_eq_true rfl) (Nat.le_of_ble_eq_true rfl) d_P_init_5 (fun q1 H hP hD hS => ?_)
  have hP : va_P D vwCl [(h0, .inr (0, [.null, .null, .null, .null, .null, .int 0, .int 0, .int 0, .int 0, .int 0, .int 0, .long 0])), (q1, .inr (1, [.null]))] H := hP
  have hD : va_D A [(h0, .inr (0, [.null, .null, .null, .null, .null, .int 0, .int 0, .int 0, .int 0, .int 0, .int 0, .long 0])), (q1, .inr (1, [.null]))] := hD
  refine lv_dup K.1 K.2.1 d_P_init_8 rfl ?_
  have hPc := hP.sub (ws' := [(q1, .inr (1, [.null]))]) [1] rfl
  have hDc := hD.sub (ws' := [(q1, .inr (1, [.null]))]) [1] (by decide) rfl
  have hFc := va_free (wc := [(q1, .inr (1, [.null]))]) hD hS hA [1] rfl
  refine va_callv (va_runIN (As := []) (rest := [.ref q1, .ref h0]) K (m_init l D q1 H.size) ⟨va_cnB 0 hts (zz_gm m_code_M_init) rfl rfl rfl hNM (hts _ (List.mem_cons_of_mem _ m_ini_M)) ⟨by decide, by decide, by decide +kernel⟩ ⟨(Nat.le_of_ble_eq_true rfl), (Nat.le_of_ble_eq_true rfl)⟩, rfl, (hts _ (List.mem_cons_of_mem _ m_im_M))⟩ ⟨fun a U g mk q => by obtain ⟨q0, q1, qP, qK, qD⟩ := q; exact ⟨q0, q1, qP, va_K.moved (u := U) (U := U.calling g mk a) (Vm.Alike.refl U.vm) qK, qD⟩, fun U hU hW => ⟨rfl, by rw [hU], by rw [hU]; exact hPc, va_K.moved hW.alike hK, hDc.weaken (fun _ _ _ _ => trivial)⟩⟩ rfl rfl hl.1 rfl (lv_room (Nat.le_of_ble_eq_true rfl)) d_P_init_9 ⟨(Nat.le_of_ble_eq_true rfl), (Nat.le_of_ble_eq_true rfl)⟩) hS (fun q _ h => hFc q h) hFc (fun u t H1 locs ht hvm hu hB hz1 hk1 hS => ?_)
  obtain ⟨cA, qc⟩ := u
  obtain ⟨hP1, hK1, hD1⟩ := hB
  rw [ht] at hP1
  have hK := va_K.moved hvm.symm hK1
  obtain ⟨hP, hD⟩ := va_join (wr := [(h0, .inr (0, [.null, .null, .null, .null, .null, .int 0, .int 0, .int 0, .int 0, .int 0, .int 0, .long 0]))]) (w1 := [(q1, .inr (1, [.ref qc])), (qc, .inl (cA, 1024, .inl (fun _ => 0)))]) hP hD [1] [0] rfl rfl (by decide) (by decide) hk1 hFc hP1 hD1
  generalize H1 = H at hP hS ⊢
  have hK : va_K D vwCl [(cA, .int)] s := hK
  have hP : va_P D vwCl [(h0, .inr (0, [.null, .null, .null, .null, .null, .int 0, .int 0, .int 0, .int 0, .int 0, .int 0, .long 0])), (q1, .inr (1, [.ref qc])), (qc, .inl (cA, 1024, .inl (fun _ => 0)))] H := hP
  have hD : va_D A [(h0, .inr (0, [.null, .null, .null, .null, .null, .int 0, .int 0, .int 0, .int 0, .int 0, .int 0, .long 0])), (q1, .inr (1, [.ref qc])), (qc, .inl (cA, 1024, .inl (fun _ => 0)))] := hD
  refine va_putF (D := D) (ci := 0) (v := .ref q1) (ty := .object "PortProcessor$Memory") (C := "PortProcessor") (T := T_P) (N := 12) K.1 K.2.1 hts (fun w h => List.mem_cons_of_mem _ (in_P w h)) ty_P ok9_P nm_P hown hK hP hD hS 0 rfl rfl 0 (by decide) (hts _ (List.mem_cons_of_mem _ m_fieldLink_PortProcessor_10)) (fun _ h => h) rfl hin rfl (by decide +kernel) rfl rfl (Nat.le_of_ble_eq_true rfl) d_P_init_12 (fun H locs hP hD hS => ?_)
  have hP : va_P D vwCl [(h0, .inr (0, [.ref q1, .null, .null, .null, .null, .int 0, .int 0, .int 0, .int 0, .int 0, .int 0, .long 0])), (q1, .inr (1, [.ref qc])), (qc, .inl (cA, 1024, .inl (fun _ => 0)))] H := hP
  have hD : va_D A [(h0, .inr (0, [.ref q1, .null, .null, .null, .null, .int 0, .int 0, .int 0, .int 0, .int 0, .int 0, .long 0])), (q1, .inr (1, [.ref qc])), (qc, .inl (cA, 1024, .inl (fun _ => 0)))] := hD
  refine lv_aload_n K.1 K.2.1 d_P_init_15 rfl (lv_at hl 0 rfl) ?_
  refine va_new (ci := 2) (fs := [.int 0, .int 0, .int 0, .int 0, .int 0]) (C := "PortProcessor$Flags") (T := T_F) (N := 5) K.1 K.2.1 hts (fun w h => List.mem_cons_of_mem _ (in_F w h)) ty_F ok9_F hown (hts _ (List.mem_cons_of_mem _ m_new_F)) (hts _ (List.mem_cons_of_mem _ m_ins_F)) (hts _ (List.mem_cons_of_mem _ m_ini_F)) hK hP hD hS hA rfl (fun j hj => by rcases (by omega : j = 0 ∨ j = 1 ∨ j = 2 ∨ j = 3 ∨ j = 4) with rfl | rfl | rfl | rfl | rfl <;> rfl) (Nat.le_of_ble_eq_true rfl) (Nat.le_of_ble_eq_true rfl) d_P_init_16 (fun q2 H hP hD hS => ?_)
  have hP : va_P D vwCl [(h0, .inr (0, [.ref q1, .null, .null, .null, .null, .int 0, .int 0, .int 0, .int 0, .int 0, .int 0, .long 0])), (q1, .inr (1, [.ref qc])), (qc, .inl (cA, 1024, .inl (fun _ => 0))), (q2, .inr (2, [.int 0, .int 0, .int 0, .int 0, .int 0]))] H := hP
  have hD : va_D A [(h0, .inr (0, [.ref q1, .null, .null, .null, .null, .int 0, .int 0, .int 0, .int 0, .int 0, .int 0, .long 0])), (q1, .inr (1, [.ref qc])), (qc, .inl (cA, 1024, .inl (fun _ => 0))), (q2, .inr (2, [.int 0, .int 0, .int 0, .int 0, .int 0]))] := hD
  refine lv_dup K.1 K.2.1 d_P_init_19 rfl ?_
  refine va_callv (va_runIN (As := []) (rest := [.ref q2, .ref h0]) K (f_init l q2) ⟨va_cnB 0 hts (zz_gm m_code_F_init) rfl rfl rfl hNF (hts _ (List.mem_cons_of_mem _ m_ini_F)) ⟨by decide, by decide, by decide +kernel⟩ ⟨(Nat.le_of_ble_eq_true rfl), (Nat.le_of_ble_eq_true rfl)⟩, rfl, (hts _ (List.mem_cons_of_mem _ m_im_F))⟩ ⟨fun a U g mk q => q, fun U hU hW => ⟨rfl, trivial⟩⟩ rfl rfl hl.1 rfl (lv_room (Nat.le_of_ble_eq_true rfl)) d_P_init_20 ⟨(Nat.le_of_ble_eq_true rfl), (Nat.le_of_ble_eq_true rfl)⟩) hS (fun q _ h => h.elim) (fun q h => h.elim) (fun u t H1 locs ht hvm hu hB hz1 hk1 hS => ?_)
  have hP := va_P.kept hP (fun k q hk => hk1 q.1 ((hP k q hk).lt) (fun z => z))
  generalize H1 = H at hP hS ⊢
  have hP : va_P D vwCl [(h0, .inr (0, [.ref q1, .null, .null, .null, .null, .int 0, .int 0, .int 0, .int 0, .int 0, .int 0, .long 0])), (q1, .inr (1, [.ref qc])), (qc, .inl (cA, 1024, .inl (fun _ => 0))), (q2, .inr (2, [.int 0, .int 0, .int 0, .int 0, .int 0]))] H := hP
  have hD : va_D A [(h0, .inr (0, [.ref q1, .null, .null, .null, .null, .int 0, .int 0, .int 0, .int 0, .int 0, .int 0, .long 0])), (q1, .inr (1, [.ref qc])), (qc, .inl (cA, 1024, .inl (fun _ => 0))), (q2, .inr (2, [.int 0, .int 0, .int 0, .int 0, .int 0]))] := hD
  refine va_putF (D := D) (ci := 0) (v := .ref q2) (ty := .object "PortProcessor$Flags") (C := "PortProcessor") (T := T_P) (N := 12) K.1 K.2.1 hts (fun w h => List.mem_cons_of_mem _ (in_P w h)) ty_P ok9_P nm_P hown hK hP hD hS 0 rfl rfl 1 (by decide) (hts _ (List.mem_cons_of_mem _ m_fieldLink_PortProcessor_19)) (fun _ h => h) rfl hin rfl (by decide +kernel) rfl rfl (Nat.le_of_ble_eq_true rfl) d_P_init_23 (fun H locs hP hD hS => ?_)
  have hP : va_P D vwCl [(h0, .inr (0, [.ref q1, .ref q2, .null, .null, .null, .int 0, .int 0, .int 0, .int 0, .int 0, .int 0, .long 0])), (q1, .inr (1, [.ref qc])), (qc, .inl (cA, 1024, .inl (fun _ => 0))), (q2, .inr (2, [.int 0, .int 0, .int 0, .int 0, .int 0]))] H := hP
  have hD : va_D A [(h0, .inr (0, [.ref q1, .ref q2, .null, .null, .null, .int 0, .int 0, .int 0, .int 0, .int 0, .int 0, .long 0])), (q1, .inr (1, [.ref qc])), (qc, .inl (cA, 1024, .inl (fun _ => 0))), (q2, .inr (2, [.int 0, .int 0, .int 0, .int 0, .int 0]))] := hD
  refine lv_aload_n K.1 K.2.1 d_P_init_26 rfl (lv_at hl 0 rfl) ?_
  refine nv_bipush (v := 8) K d_P_init_27 (by decide) ?_
  refine va_newa K.1 K.2.1 (hts _ (List.mem_cons_of_mem _ m_arrI)) (ty := .int) rfl hK hP hD hS hA (N' := 8) (a0 := (8, .inl (fun _ => 0))) (fun _ => rfl) (nI_pos (by decide)) (nI_clamp (by decide)) (by decide) (Nat.le_of_ble_eq_true rfl) (Nat.le_of_ble_eq_true rfl) d_P_init_29 (fun q3 c3 H hK hP hD hS => ?_)
  obtain rfl : cA = c3 := zk_same hK 0 1 rfl rfl
  have hK := hK.sub (tys' := [(cA, .int)]) [0] rfl
  have hP : va_P D vwCl [(h0, .inr (0, [.ref q1, .ref q2, .null, .null, .null, .int 0, .int 0, .int 0, .int 0, .int 0, .int 0, .long 0])), (q1, .inr (1, [.ref qc])), (qc, .inl (cA, 1024, .inl (fun _ => 0))), (q2, .inr (2, [.int 0, .int 0, .int 0, .int 0, .int 0])), (q3, .inl (cA, 8, .inl (fun _ => 0)))] H := hP
  have hD : va_D A [(h0, .inr (0, [.ref q1, .ref q2, .null, .null, .null, .int 0, .int 0, .int 0, .int 0, .int 0, .int 0, .long 0])), (q1, .inr (1, [.ref qc])), (qc, .inl (cA, 1024, .inl (fun _ => 0))), (q2, .inr (2, [.int 0, .int 0, .int 0, .int 0, .int 0])), (q3, .inl (cA, 8, .inl (fun _ => 0)))] := hD
  refine va_putF (D := D) (ci := 0) (v := .ref q3) (ty := .array .int) (C := "PortProcessor") (T := T_P) (N := 12) K.1 K.2.1 hts (fun w h => List.mem_cons_of_mem _ (in_P w h)) ty_P ok9_P nm_P hown hK hP hD hS 0 rfl rfl 2 (by decide) (hts _ (List.mem_cons_of_mem _ m_fieldLink_PortProcessor_23)) (fun _ h => h) rfl hin rfl (by decide +kernel) rfl rfl (Nat.le_of_ble_eq_true rfl) d_P_init_31 (fun H locs hP hD hS => ?_)
  have hP : va_P D vwCl [(h0, .inr (0, [.ref q1, .ref q2, .ref q3, .null, .null, .int 0, .int 0, .int 0, .int 0, .int 0, .int 0, .long 0])), (q1, .inr (1, [.ref qc])), (qc, .inl (cA, 1024, .inl (fun _ => 0))), (q2, .inr (2, [.int 0, .int 0, .int 0, .int 0, .int 0])), (q3, .inl (cA, 8, .inl (fun _ => 0)))] H := hP
  have hD : va_D A [(h0, .inr (0, [.ref q1, .ref q2, .ref q3, .null, .null, .int 0, .int 0, .int 0, .int 0, .int 0, .int 0, .long 0])), (q1, .inr (1, [.ref qc])), (qc, .inl (cA, 1024, .inl (fun _ => 0))), (q2, .inr (2, [.int 0, .int 0, .int 0, .int 0, .int 0])), (q3, .inl (cA, 8, .inl (fun _ => 0)))] := hD
  refine lv_aload_n K.1 K.2.1 d_P_init_34 rfl (lv_at hl 0 rfl) ?_
  refine nv_sipush (v := 256) K d_P_init_35 (by decide) ?_
  refine va_newa K.1 K.2.1 (hts _ (List.mem_cons_of_mem _ m_arrI)) (ty := .int) rfl hK hP hD hS hA (N' := 256) (a0 := (256, .inl (fun _ => 0))) (fun _ => rfl) (nI_pos (by decide)) (nI_clamp (by decide)) (by decide) (Nat.le_of_ble_eq_true rfl) (Nat.le_of_ble_eq_true rfl) d_P_init_38 (fun q4 c4 H hK hP hD hS => ?_)
  obtain rfl : cA = c4 := zk_same hK 0 1 rfl rfl
  have hK := hK.sub (tys' := [(cA, .int)]) [0] rfl
  have hP : va_P D vwCl [(h0, .inr (0, [.ref q1, .ref q2, .ref q3, .null, .null, .int 0, .int 0, .int 0, .int 0, .int 0, .int 0, .long 0])), (q1, .inr (1, [.ref qc])), (qc, .inl (cA, 1024, .inl (fun _ => 0))), (q2, .inr (2, [.int 0, .int 0, .int 0, .int 0, .int 0])), (q3, .inl (cA, 8, .inl (fun _ => 0))), (q4, .inl (cA, 256, .inl (fun _ => 0)))] H := hP
  have hD : va_D A [(h0, .inr (0, [.ref q1, .ref q2, .ref q3, .null, .null, .int 0, .int 0, .int 0, .int 0, .int 0, .int 0, .long 0])), (q1, .inr (1, [.ref qc])), (qc, .inl (cA, 1024, .inl (fun _ => 0))), (q2, .inr (2, [.int 0, .int 0, .int 0, .int 0, .int 0])), (q3, .inl (cA, 8, .inl (fun _ => 0))), (q4, .inl (cA, 256, .inl (fun _ => 0)))] := hD
  refine va_putF (D := D) (ci := 0) (v := .ref q4) (ty := .array .int) (C := "PortProcessor") (T := T_P) (N := 12) K.1 K.2.1 hts (fun w h => List.mem_cons_of_mem _ (in_P w h)) ty_P ok9_P nm_P hown hK hP hD hS 0 rfl rfl 3 (by decide) (hts _ (List.mem_cons_of_mem _ m_fieldLink_PortProcessor_27)) (fun _ h => h) rfl hin rfl (by decide +kernel) rfl rfl (Nat.le_of_ble_eq_true rfl) d_P_init_40 (fun H locs hP hD hS => ?_)
  have hP : va_P D vwCl [(h0, .inr (0, [.ref q1, .ref q2, .ref q3, .ref q4, .null, .int 0, .int 0, .int 0, .int 0, .int 0, .int 0, .long 0])), (q1, .inr (1, [.ref qc])), (qc, .inl (cA, 1024, .inl (fun _ => 0))), (q2, .inr (2, [.int 0, .int 0, .int 0, .int 0, .int 0])), (q3, .inl (cA, 8, .inl (fun _ => 0))), (q4, .inl (cA, 256, .inl (fun _ => 0)))] H := hP
  have hD : va_D A [(h0, .inr (0, [.ref q1, .ref q2, .ref q3, .ref q4, .null, .int 0, .int 0, .int 0, .int 0, .int 0, .int 0, .long 0])), (q1, .inr (1, [.ref qc])), (qc, .inl (cA, 1024, .inl (fun _ => 0))), (q2, .inr (2, [.int 0, .int 0, .int 0, .int 0, .int 0])), (q3, .inl (cA, 8, .inl (fun _ => 0))), (q4, .inl (cA, 256, .inl (fun _ => 0)))] := hD
  refine lv_aload_n K.1 K.2.1 d_P_init_43 rfl (lv_at hl 0 rfl) ?_
  refine nv_sipush (v := 256) K d_P_init_44 (by decide) ?_
  refine va_newa K.1 K.2.1 (hts _ (List.mem_cons_of_mem _ m_arrI)) (ty := .int) rfl hK hP hD hS hA (N' := 256) (a0 := (256, .inl (fun _ => 0))) (fun _ => rfl) (nI_pos (by decide)) (nI_clamp (by decide)) (by decide) (Nat.le_of_ble_eq_true rfl) (Nat.le_of_ble_eq_true rfl) d_P_init_47 (fun q5 c5 H hK hP hD hS => ?_)
  obtain rfl : cA = c5 := zk_same hK 0 1 rfl rfl
  have hK := hK.sub (tys' := [(cA, .int)]) [0] rfl
  have hP : va_P D vwCl [(h0, .inr (0, [.ref q1, .ref q2, .ref q3, .ref q4, .null, .int 0, .int 0, .int 0, .int 0, .int 0, .int 0, .long 0])), (q1, .inr (1, [.ref qc])), (qc, .inl (cA, 1024, .inl (fun _ => 0))), (q2, .inr (2, [.int 0, .int 0, .int 0, .int 0, .int 0])), (q3, .inl (cA, 8, .inl (fun _ => 0))), (q4, .inl (cA, 256, .inl (fun _ => 0))), (q5, .inl (cA, 256, .inl (fun _ => 0)))] H := hP
  have hD : va_D A [(h0, .inr (0, [.ref q1, .ref q2, .ref q3, .ref q4, .null, .int 0, .int 0, .int 0, .int 0, .int 0, .int 0, .long 0])), (q1, .inr (1, [.ref qc])), (qc, .inl (cA, 1024, .inl (fun _ => 0))), (q2, .inr (2, [.int 0, .int 0, .int 0, .int 0, .int 0])), (q3, .inl (cA, 8, .inl (fun _ => 0))), (q4, .inl (cA, 256, .inl (fun _ => 0))), (q5, .inl (cA, 256, .inl (fun _ => 0)))] := hD
  refine va_putF (D := D) (ci := 0) (v := .ref q5) (ty := .array .int) (C := "PortProcessor") (T := T_P) (N := 12) K.1 K.2.1 hts (fun w h => List.mem_cons_of_mem _ (in_P w h)) ty_P ok9_P nm_P hown hK hP hD hS 0 rfl rfl 4 (by decide) (hts _ (List.mem_cons_of_mem _ m_fieldLink_PortProcessor_30)) (fun _ h => h) rfl hin rfl (by decide +kernel) rfl rfl (Nat.le_of_ble_eq_true rfl) d_P_init_49 (fun H locs hP hD hS => ?_)
  have hP : va_P D vwCl [(h0, .inr (0, [.ref q1, .ref q2, .ref q3, .ref q4, .ref q5, .int 0, .int 0, .int 0, .int 0, .int 0, .int 0, .long 0])), (q1, .inr (1, [.ref qc])), (qc, .inl (cA, 1024, .inl (fun _ => 0))), (q2, .inr (2, [.int 0, .int 0, .int 0, .int 0, .int 0])), (q3, .inl (cA, 8, .inl (fun _ => 0))), (q4, .inl (cA, 256, .inl (fun _ => 0))), (q5, .inl (cA, 256, .inl (fun _ => 0)))] H := hP
  have hD : va_D A [(h0, .inr (0, [.ref q1, .ref q2, .ref q3, .ref q4, .ref q5, .int 0, .int 0, .int 0, .int 0, .int 0, .int 0, .long 0])), (q1, .inr (1, [.ref qc])), (qc, .inl (cA, 1024, .inl (fun _ => 0))), (q2, .inr (2, [.int 0, .int 0, .int 0, .int 0, .int 0])), (q3, .inl (cA, 8, .inl (fun _ => 0))), (q4, .inl (cA, 256, .inl (fun _ => 0))), (q5, .inl (cA, 256, .inl (fun _ => 0)))] := hD
  refine lv_aload_n K.1 K.2.1 d_P_init_52 rfl (lv_at hl 0 rfl) ?_
  refine lv_iconst (v := -1) K.1 K.2.1 d_P_init_53 (by decide) ?_
  refine va_put (D := D) (ci := 0) (v := .int (-1)) (ty := .int) (C := "PortProcessor") (T := T_P) (N := 12) K.1 K.2.1 hts (fun w h => List.mem_cons_of_mem _ (in_P w h)) ty_P ok9_P nm_P hown hK hP hD hS 0 rfl rfl 10 (by decide) (hts _ (List.mem_cons_of_mem _ m_fieldLink_PortProcessor_33)) (fun _ h => h) rfl (by decide +kernel) rfl rfl (Nat.le_of_ble_eq_true rfl) d_P_init_54 (fun H locs hP hD hS => ?_)
  have hP : va_P D vwCl [(h0, .inr (0, [.ref q1, .ref q2, .ref q3, .ref q4, .ref q5, .int 0, .int 0, .int 0, .int 0, .int 0, .int (-1), .long 0])), (q1, .inr (1, [.ref qc])), (qc, .inl (cA, 1024, .inl (fun _ => 0))), (q2, .inr (2, [.int 0, .int 0, .int 0, .int 0, .int 0])), (q3, .inl (cA, 8, .inl (fun _ => 0))), (q4, .inl (cA, 256, .inl (fun _ => 0))), (q5, .inl (cA, 256, .inl (fun _ => 0)))] H := hP
  have hD : va_D A [(h0, .inr (0, [.ref q1, .ref q2, .ref q3, .ref q4, .ref q5, .int 0, .int 0, .int 0, .int 0, .int 0, .int (-1), .long 0])), (q1, .inr (1, [.ref qc])), (qc, .inl (cA, 1024, .inl (fun _ => 0))), (q2, .inr (2, [.int 0, .int 0, .int 0, .int 0, .int 0])), (q3, .inl (cA, 8, .inl (fun _ => 0))), (q4, .inl (cA, 256, .inl (fun _ => 0))), (q5, .inl (cA, 256, .inl (fun _ => 0)))] := hD
  refine nv_iconst (v := 0) K d_P_init_57 (by decide) ?_
  refine lv_istore_n (lv' := [(1, .int (nI 0)), (0, .ref h0)]) K.1 K.2.1 d_P_init_58 rfl hl (by decide) rfl (fun ls hl => ?_)
  have e0 : (fun k => if k < 0 then -1 else 0 : Nat → Int32) = fun _ => 0 := funext fun k => if_neg (Nat.not_lt_zero k)
  have hP : va_P D vwCl [(h0, .inr (0, [.ref q1, .ref q2, .ref q3, .ref q4, .ref q5, .int 0, .int 0, .int 0, .int 0, .int 0, .int (-1), .long 0])), (q1, .inr (1, [.ref qc])), (qc, .inl (cA, 1024, .inl (fun _ => 0))), (q2, .inr (2, [.int 0, .int 0, .int 0, .int 0, .int 0])), (q3, .inl (cA, 8, .inl (fun _ => 0))), (q4, .inl (cA, 256, .inl (fun _ => 0))), (q5, .inl (cA, 256, .inl (fun k => if k < 0 then -1 else 0)))] H := by rw [e0]; exact hP
  have hD : va_D A [(h0, .inr (0, [.ref q1, .ref q2, .ref q3, .ref q4, .ref q5, .int 0, .int 0, .int 0, .int 0, .int 0, .int (-1), .long 0])), (q1, .inr (1, [.ref qc])), (qc, .inl (cA, 1024, .inl (fun _ => 0))), (q2, .inr (2, [.int 0, .int 0, .int 0, .int 0, .int 0])), (q3, .inl (cA, 8, .inl (fun _ => 0))), (q4, .inl (cA, 256, .inl (fun _ => 0))), (q5, .inl (cA, 256, .inl (fun k => if k < 0 then -1 else 0)))] := zv_Dc hD rfl
  suffices loop : ∀ (j i : Nat) (H : Heap) (locs : List Loc) (ls : Array Slot), i + j = 256 → va_P D vwCl [(h0, .inr (0, [.ref q1, .ref q2, .ref q3, .ref q4, .ref q5, .int 0, .int 0, .int 0, .int 0, .int 0, .int (-1), .long 0])), (q1, .inr (1, [.ref qc])), (qc, .inl (cA, 1024, .inl (fun _ => 0))), (q2, .inr (2, [.int 0, .int 0, .int 0, .int 0, .int 0])), (q3, .inl (cA, 8, .inl (fun _ => 0))), (q4, .inl (cA, 256, .inl (fun _ => 0))), (q5, .inl (cA, 256, .inl (fun k => if k < i then -1 else 0)))] H → va_D A [(h0, .inr (0, [.ref q1, .ref q2, .ref q3, .ref q4, .ref q5, .int 0, .int 0, .int 0, .int 0, .int 0, .int (-1), .long 0])), (q1, .inr (1, [.ref qc])), (qc, .inl (cA, 1024, .inl (fun _ => 0))), (q2, .inr (2, [.int 0, .int 0, .int 0, .int 0, .int 0])), (q3, .inl (cA, 8, .inl (fun _ => 0))), (q4, .inl (cA, 256, .inl (fun _ => 0))), (q5, .inl (cA, 256, .inl (fun k => if k < i then -1 else 0)))] → va_S A s.heap H locs → lv_has ls 2 [(1, .int (nI i)), (0, .ref h0)] → W p l e { frames := 2, cells := 6, slots := 1550, locals := 40 } s m ([.ref h0] : List Value).toArray below meth c H locs 6 1550 (MQ below (va_Qv (fun u : ClassId × pAd => u.2.1 = h0) (fun u t => va_P D vwCl (pw u.1 u.2 z_0) t.heap ∧ va_K D vwCl [(u.1, .int)] t ∧ va_D A (pw u.1 u.2 z_0)) A) ([.ref h0] : List Value).toArray s 6 1550 A) (F0 m 59 ls []) from loop 256 0 H locs ls rfl hP hD hS hl
  intro j
  induction j with
  | zero =>
    intro i H locs ls hij hP hD hS hl
    obtain rfl : i = 256 := by omega
    refine lv_iload_n K.1 K.2.1 d_P_init_59 rfl (lv_at hl 0 rfl) ?_
    refine nv_sipush (v := 256) K d_P_init_60 (by decide) ?_
    refine nv_icmp_ge K (by decide) (by decide) d_P_init_63 rfl (fun _ => ?_) (fun h => (by omega : False).elim)
    have em : (-1 : Int32) = nI 0 - 1 := by decide +kernel
    have hP : va_P D vwCl [(h0, .inr (0, [.ref q1, .ref q2, .ref q3, .ref q4, .ref q5, .int 0, .int 0, .int 0, .int 0, .int 0, .int (-1), .long 0])), (q1, .inr (1, [.ref qc])), (qc, .inl (cA, 1024, .inl (fun _ => 0))), (q2, .inr (2, [.int 0, .int 0, .int 0, .int 0, .int 0])), (q3, .inl (cA, 8, .inl (fun _ => 0))), (q4, .inl (cA, 256, .inl (fun _ => 0))), (q5, .inl (cA, 256, .inl (fun _ => -1)))] H := by
      intro k q hk
      rcases k with _ | _ | _ | _ | _ | _ | _ | k
      · exact hP 0 q hk
      · exact hP 1 q hk
      · exact hP 2 q hk
      · exact hP 3 q hk
      · exact hP 4 q hk
      · exact hP 5 q hk
      · obtain rfl := Option.some.inj hk
        show H[q5]? = some (vp_cell cA (256, .inl (fun _ => -1)))
        rw [vp_cong cA 256 (f := fun _ => -1) (g := (fun k => if k < 256 then -1 else 0)) (fun j hj => (if_pos hj).symm)]
        exact hP 6 _ rfl
      · exact absurd hk (by simp)
    have hD : va_D A [(h0, .inr (0, [.ref q1, .ref q2, .ref q3, .ref q4, .ref q5, .int 0, .int 0, .int 0, .int 0, .int 0, .int (-1), .long 0])), (q1, .inr (1, [.ref qc])), (qc, .inl (cA, 1024, .inl (fun _ => 0))), (q2, .inr (2, [.int 0, .int 0, .int 0, .int 0, .int 0])), (q3, .inl (cA, 8, .inl (fun _ => 0))), (q4, .inl (cA, 256, .inl (fun _ => 0))), (q5, .inl (cA, 256, .inl (fun _ => -1)))] := zv_Dc hD rfl
    rw [em] at hP hD
    have hP9 := hP.sub (ws' := pw cA (h0, q1, q2, q3, q4, q5, qc) z_0) [0, 1, 3, 4, 5, 6, 2] rfl
    have hD9 := hD.sub (ws' := pw cA (h0, q1, q2, q3, q4, q5, qc) z_0) [0, 1, 3, 4, 5, 6, 2] (by decide) rfl
    exact W.vret K.1 K.2.1 hr (fun t ht hW => ⟨⟨(cA, (h0, q1, q2, q3, q4, q5, qc)), rfl, rfl, by rw [ht]; exact hP9, va_K.moved hW.alike hK, hD9⟩, hS.F ht⟩) hS.2.2 d_P_init_79 hlk
  | succ j ih =>
    intro i H locs ls hij hP hD hS hl
    refine lv_iload_n K.1 K.2.1 d_P_init_59 rfl (lv_at hl 0 rfl) ?_
    refine nv_sipush (v := 256) K d_P_init_60 (by decide) ?_
    refine nv_icmp_ge K (by omega) (by decide) d_P_init_63 rfl (fun h => (by omega : False).elim) (fun _ => ?_)
    refine lv_aload_n K.1 K.2.1 d_P_init_66 rfl (lv_at hl 1 rfl) ?_
    refine va_get (D := D) (ci := 0) (v := .ref q5) (C := "PortProcessor") (T := T_P) (N := 12) K.1 K.2.1 hts (fun w h => List.mem_cons_of_mem _ (in_P w h)) hown hK hP 0 rfl rfl 4 (by decide) (hts _ (List.mem_cons_of_mem _ m_fieldLink_PortProcessor_30)) (fun _ h => h) rfl d_P_init_67 ?_
    refine lv_iload_n K.1 K.2.1 d_P_init_70 rfl (lv_at hl 0 rfl) ?_
    refine lv_iconst (v := -1) K.1 K.2.1 d_P_init_71 (by decide) ?_
    refine va_iast K.1 K.2.1 hK hP hD hS 6 0 rfl rfl (vp_in_nI (N := 256) (by omega) (by decide)) d_P_init_72 (fun H locs hP hD hS => ?_)
    refine lv_iinc (k := 0) (v := nI (i + 1)) (lv' := [(1, .int (nI (i + 1))), (0, .ref h0)]) K.1 K.2.1 d_P_init_73 hl rfl (nI_add _ _) (by decide) rfl (fun ls hl => ?_)
    refine lv_goto K.1 K.2.1 d_P_init_76 rfl ?_
    have eu : upd (fun k => if k < i then -1 else 0) (nI i).toNatClampNeg (-1) = (fun k => if k < (i + 1) then -1 else 0) := by
      rw [nI_clamp (by omega)]
      funext k
      unfold upd
      by_cases hk : k = i
      · rw [if_pos hk, if_pos (by omega)]
      · rw [if_neg hk]
        show (if k < i then (-1 : Int32) else 0) = if k < i + 1 then -1 else 0
        by_cases h2 : k < i
        · rw [if_pos h2, if_pos (by omega)]
        · rw [if_neg h2, if_neg (by omega)]
    rw [eu] at hP hD
    exact ih (i + 1) H locs ls (by omega) hP hD hS hl

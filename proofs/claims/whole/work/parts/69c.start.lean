theorem m_xstr : ∀ q ∈ pStr, Cond.stringRef "PortProcessor" q.1 q.2 ∈ lw_tbl := by decide +kernel
set_option maxHeartbeats 8000000 in
set_option maxRecDepth 100000 in
theorem whole_start {p : Program} {e : Env} {s : State} {m : MethodId} {below : List Frame} {meth : Method} {c : Code} (l : Launch) (hst : l.stackTraces = false) {b L : Nat} {z_xs : Nat → Int32} (hL : L ≤ 2560) (C0 : lw_At p s m meth c b L z_xs) : W p l e room_1 s m #[Value.ref b] below meth c s.heap [] 0 0 (lw_Z below #[Value.ref b] s) (entryFrame m ([Value.ref b] : List Value).toArray 7) := by
  obtain ⟨hx, hb, hr, hml, hown, hts, hX, hbl, hlk, hgv⟩ := C0
  have K : CallFix p m c b_L_law 7 s #[Value.ref b] (Cond.initialized "PortProcessor" :: T0) "PortProcessorLaw" := ⟨hx, hb, hml, hown, fun w h => hts w (by
    rcases List.mem_cons.mp h with rfl | h
    · exact zz_all _ m_ini_P
    · exact zz_all _ h)⟩
  obtain ⟨cP, iP, kP⟩ := u_known hts in9_P (K.2.2.2.2 _ (List.mem_cons_of_mem _ m_ins_P))
  obtain ⟨cM, iM, kM⟩ := u_known hts in9_M (K.2.2.2.2 _ (List.mem_cons_of_mem _ m_ins_M))
  obtain ⟨cF, iF, kF⟩ := u_known hts in9_F (K.2.2.2.2 _ (List.mem_cons_of_mem _ m_ins_F))
  obtain ⟨cR, iR, kR⟩ := u_known hts in9_R (K.2.2.2.2 _ (List.mem_cons_of_mem _ m_ins_R))
  obtain ⟨D, hDe⟩ : ∃ D : va_G, D = (fun k => match k with | 0 => cP | 1 => cM | 2 => cF | _ => cR, fun k => match k with | 0 => iP | 1 => iM | 2 => iF | _ => iR) := ⟨_, rfl⟩
  have hK : va_K D vwCl [] s := by
    subst hDe
    refine ⟨fun k q hq => ?_, fun k q h => by simp at h⟩
    rcases k with _ | _ | _ | _ | k
    · obtain rfl := Option.some.inj hq
      exact kP
    · obtain rfl := Option.some.inj hq
      exact kM
    · obtain rfl := Option.some.inj hq
      exact kF
    · obtain rfl := Option.some.inj hq
      exact kR
    · exact absurd hq (by simp)
  clear hDe
  obtain ⟨A, hAe⟩ : ∃ A : Nat → Prop, A = fun q => s.heap.size ≤ q := ⟨_, rfl⟩
  have hA : ∀ q : Nat, s.heap.size ≤ q → A q := fun q h => by rw [hAe]; exact h
  have hA2 : ∀ q : Nat, A q → s.heap.size ≤ q := fun q h => by rw [hAe] at h; exact h
  have hAn : ∀ q : Nat, q < s.heap.size → ¬ A q := fun q h z => Nat.not_le.mpr h (hA2 q z)
  have hS : va_S A s.heap s.heap [] := va_S.rf
  have hP : va_P D vwCl [] s.heap := fun k q h => by simp at h
  have hD : va_D A [] := ⟨fun i j p q h => by simp at h, fun k q h => by simp at h⟩
  have hgs := flat_of_before _ hgv
  obtain ⟨cq, hpp⟩ : ∃ q, s.vm.findClass "PortProcessor" = some q := by
    obtain ⟨q, k9, h9, -⟩ := Cond.instantiable_spec (K.2.2.2.2 _ (List.mem_cons_of_mem _ m_ins_P))
    exact ⟨q, h9⟩
  have hZ : pZ A s s.heap := by
    refine ⟨vx_Zqof (hts (.laysStatic "java/lang/Throwable" "UNASSIGNED_STACK" "[Ljava/lang/StackTraceElement;") (List.mem_append_right _ (List.mem_of_getElem? (i := 127) rfl))) (hts (.initialized "java/lang/Throwable") (List.mem_append_right _ (List.mem_of_getElem? (i := 5) rfl))) (hgs _ (by decide +kernel)) hAn, vx_Zqof (hts (.laysStatic "java/lang/Throwable" "SUPPRESSED_SENTINEL" "Ljava/util/List;") (List.mem_append_right _ (List.mem_of_getElem? (i := 129) rfl))) (hts (.initialized "java/lang/Throwable") (List.mem_append_right _ (List.mem_of_getElem? (i := 5) rfl))) (hgs _ (by decide +kernel)) hAn, ⟨va_Nw.of rfl (hts (.castable "java/lang/IllegalArgumentException" "java/lang/IllegalArgumentException") (List.mem_append_right _ (List.mem_of_getElem? (i := 102) rfl))), va_Nw.of rfl (hts (.declares (Bundle.initS "java/lang/RuntimeException")) (List.mem_append_right _ (List.mem_of_getElem? (i := 104) rfl))), va_Nw.of rfl (hts (.declares (Bundle.initS "java/lang/Exception")) (List.mem_append_right _ (List.mem_of_getElem? (i := 106) rfl))), va_Nw.of rfl (hts (.declares (Bundle.initS "java/lang/Throwable")) (List.mem_append_right _ (List.mem_of_getElem? (i := 108) rfl)))⟩, ?_⟩
    intro q hq
    have hs9 : (Cond.stringRef "PortProcessor" q.1 q.2).before #[Value.ref b] s = true := hts _ (m_xstr q hq)
    obtain ⟨k, cf, i, sa, -, -, -, -, -, hev⟩ := Cond.stringRef_spec hpp hs9
    exact ⟨sa, vk_R.of hs9 hev⟩
  have hNM : va_Nw (.methodLinkNest "PortProcessor" 9 y_M_init "PortProcessor") s := va_Nw.of rfl (hts (.methodLinkNest "PortProcessor" 9 y_M_init "PortProcessor") (List.mem_append_right _ (List.mem_of_getElem? (i := 20) rfl)))
  have hNF : va_Nw (.methodLinkNest "PortProcessor" 18 y_F_init "PortProcessor") s := va_Nw.of rfl (hts (.methodLinkNest "PortProcessor" 18 y_F_init "PortProcessor") (List.mem_append_right _ (List.mem_of_getElem? (i := 31) rfl)))
  have hl := lv_entry ([Value.ref b]) (n := 7) (Nat.le_of_ble_eq_true rfl)
  rw [lg_entry_eq]
  generalize (lg_sl ([Value.ref b]) ++ List.replicate (7 - (lg_sl ([Value.ref b])).length) Slot.unset).toArray = ls at hl ⊢
  have hl : lv_has ls 7 [(0, .ref b)] := hl
  refine va_new (ci := 0) (fs := [.null, .null, .null, .null, .null, .int 0, .int 0, .int 0, .int 0, .int 0, .int 0, .long 0]) (C := "PortProcessor") (T := T_P) (N := 12) K.1 K.2.1 hts in9_P ty_P ok9_P hown (K.2.2.2.2 _ (List.mem_cons_of_mem _ m_new_P)) (K.2.2.2.2 _ (List.mem_cons_of_mem _ m_ins_P)) (K.2.2.2.2 _ (List.mem_cons_of_mem _ m_ini_P)) hK hP hD hS hA rfl (fun j hj => by rcases (by omega : j = 0 ∨ j = 1 ∨ j = 2 ∨ j = 3 ∨ j = 4 ∨ j = 5 ∨ j = 6 ∨ j = 7 ∨ j = 8 ∨ j = 9 ∨ j = 10 ∨ j = 11) with rfl | rfl | rfl | rfl | rfl | rfl | rfl | rfl | rfl | rfl | rfl | rfl <;> rfl) (Nat.le_of_ble_eq_true rfl) (Nat.le_of_ble_eq_true rfl) d_L_law_0 (fun hp H hP hD hS => ?_)
  have hP : va_P D vwCl [(hp, .inr (0, [.null, .null, .null, .null, .null, .int 0, .int 0, .int 0, .int 0, .int 0, .int 0, .long 0]))] H := hP
  have hD : va_D A [(hp, .inr (0, [.null, .null, .null, .null, .null, .int 0, .int 0, .int 0, .int 0, .int 0, .int 0, .long 0]))] := hD
  refine lv_dup K.1 K.2.1 d_L_law_3 rfl ?_
  have hFc := va_free (wc := [(hp, .inr (0, [.null, .null, .null, .null, .null, .int 0, .int 0, .int 0, .int 0, .int 0, .int 0, .long 0]))]) hD hS hA [0] rfl
  refine va_callv (va_runI (As := []) (rest := [.ref hp]) K (p_init l D hp H.size) (cwI 0 K.2.2.2.2 (zz_gm m_code_P_init) rfl rfl rfl (K.2.2.2.2 _ (List.mem_cons_of_mem _ m_ini_P)) (K.2.2.2.2 _ (List.mem_cons_of_mem _ m_ml_P)) (K.2.2.2.2 _ (List.mem_cons_of_mem _ m_im_P)) rfl ⟨by decide, by decide, by decide +kernel⟩ ⟨(Nat.le_of_ble_eq_true rfl), (Nat.le_of_ble_eq_true rfl)⟩) ⟨fun a U g mk q => by obtain ⟨q0, ⟨q1, qP, qK, qD⟩, qm, qf⟩ := q; exact ⟨q0, ⟨q1, qP, va_K.moved (u := U) (U := U.calling g mk a) (Vm.Alike.refl U.vm) qK, qD⟩, va_Nw.same (u := U) (U := U.calling g mk a) rfl rfl qm, va_Nw.same (u := U) (U := U.calling g mk a) rfl rfl qf⟩, fun U hU hW => ⟨rfl, ⟨by rw [hU], by rw [hU]; exact hP, va_K.moved hW.alike hK, hD.weaken (fun _ _ _ _ => trivial)⟩, va_Nw.warmM hW hNM, va_Nw.warmM hW hNF⟩⟩ rfl rfl hl.1 rfl (lv_room (Nat.le_of_ble_eq_true rfl)) d_L_law_4 ⟨(Nat.le_of_ble_eq_true rfl), (Nat.le_of_ble_eq_true rfl)⟩) hS (fun q _ h => hFc q h) hFc (fun u t H1 locs ht hvm hu hB hz1 hk1 hS => ?_)
  obtain ⟨cI, a⟩ := u
  obtain ⟨hP1, hK1, hD1⟩ := hB
  rw [ht] at hP1
  have hu : a.1 = hp := hu
  obtain rfl := hu
  have hK := va_K.moved hvm.symm hK1
  have hK : va_K D vwCl [(cI, .int)] s := hK
  obtain ⟨hP, hD⟩ := va_join (wr := []) (w1 := pw cI a z_0) hP hD [0] [] rfl rfl (by decide) (by decide) hk1 hFc hP1 hD1
  generalize H1 = H at hP hS ⊢
  have hP : va_P D vwCl (pw cI a z_0) H := hP
  have hD : va_D A (pw cI a z_0) := hD
  refine lv_astore_n (lv' := [(1, .ref a.1), (0, .ref b)]) K.1 K.2.1 d_L_law_7 rfl hl (by decide) rfl (fun ls hl => ?_)
  refine va_new (ci := 3) (fs := [.int 0, .null, .null, .int 0, .int 0, .int 0, .int 0, .int 0, .int 0, .int 0, .int 0, .int 0, .int 0, .int 0, .long 0, .null, .null]) (C := "PortProcessorModel") (T := T_R) (N := 17) K.1 K.2.1 hts in9_R ty_R ok9_R hown (K.2.2.2.2 _ (List.mem_cons_of_mem _ m_new_R)) (K.2.2.2.2 _ (List.mem_cons_of_mem _ m_ins_R)) (K.2.2.2.2 _ (List.mem_cons_of_mem _ m_ini_R)) hK hP hD hS hA rfl (fun j hj => by rcases (by omega : j = 0 ∨ j = 1 ∨ j = 2 ∨ j = 3 ∨ j = 4 ∨ j = 5 ∨ j = 6 ∨ j = 7 ∨ j = 8 ∨ j = 9 ∨ j = 10 ∨ j = 11 ∨ j = 12 ∨ j = 13 ∨ j = 14 ∨ j = 15 ∨ j = 16) with rfl | rfl | rfl | rfl | rfl | rfl | rfl | rfl | rfl | rfl | rfl | rfl | rfl | rfl | rfl | rfl | rfl <;> rfl) (Nat.le_of_ble_eq_true rfl) (Nat.le_of_ble_eq_true rfl) d_L_law_8 (fun hq H hP hD hS => ?_)
  have hP : va_P D vwCl (pw cI a z_0 ++ [(hq, .inr (3, [.int 0, .null, .null, .int 0, .int 0, .int 0, .int 0, .int 0, .int 0, .int 0, .int 0, .int 0, .int 0, .int 0, .long 0, .null, .null]))]) H := hP
  have hD : va_D A (pw cI a z_0 ++ [(hq, .inr (3, [.int 0, .null, .null, .int 0, .int 0, .int 0, .int 0, .int 0, .int 0, .int 0, .int 0, .int 0, .int 0, .int 0, .long 0, .null, .null]))]) := hD
  refine lv_dup K.1 K.2.1 d_L_law_11 rfl ?_
  have hPc := hP.sub (ws' := [(hq, .inr (3, [.int 0, .null, .null, .int 0, .int 0, .int 0, .int 0, .int 0, .int 0, .int 0, .int 0, .int 0, .int 0, .int 0, .long 0, .null, .null]))]) [7] rfl
  have hDc := hD.sub (ws' := [(hq, .inr (3, [.int 0, .null, .null, .int 0, .int 0, .int 0, .int 0, .int 0, .int 0, .int 0, .int 0, .int 0, .int 0, .int 0, .long 0, .null, .null]))]) [7] (by decide) rfl
  have hFc := va_free (wc := [(hq, .inr (3, [.int 0, .null, .null, .int 0, .int 0, .int 0, .int 0, .int 0, .int 0, .int 0, .int 0, .int 0, .int 0, .int 0, .long 0, .null, .null]))]) hD hS hA [7] rfl
  refine va_callv (va_runI (As := []) (rest := [.ref hq]) K (r_init l D hq H.size) (cwI 0 K.2.2.2.2 (zz_gm m_code_R_init) rfl rfl rfl (K.2.2.2.2 _ (List.mem_cons_of_mem _ m_ini_R)) (K.2.2.2.2 _ (List.mem_cons_of_mem _ m_ml_R)) (K.2.2.2.2 _ (List.mem_cons_of_mem _ m_im_R)) rfl ⟨by decide, by decide, by decide +kernel⟩ ⟨(Nat.le_of_ble_eq_true rfl), (Nat.le_of_ble_eq_true rfl)⟩) ⟨fun a U g mk q => by obtain ⟨q0, q1, qP, qK, qD⟩ := q; exact ⟨q0, q1, qP, va_K.moved (u := U) (U := U.calling g mk a) (Vm.Alike.refl U.vm) qK, qD⟩, fun U hU hW => ⟨rfl, by rw [hU], by rw [hU]; exact hPc, va_K.moved hW.alike (hK.sub (tys' := []) [] rfl), hDc.weaken (fun _ _ _ _ => trivial)⟩⟩ rfl rfl hl.1 rfl (lv_room (Nat.le_of_ble_eq_true rfl)) d_L_law_12 ⟨(Nat.le_of_ble_eq_true rfl), (Nat.le_of_ble_eq_true rfl)⟩) hS (fun q _ h => hFc q h) hFc (fun u t H1 locs ht hvm hu hB hz1 hk1 hS => ?_)
  obtain ⟨cI2, d⟩ := u
  obtain ⟨hP1, hK1, hD1⟩ := hB
  rw [ht] at hP1
  have hu : d.1 = hq := hu
  obtain rfl := hu
  have hK1 := va_K.moved hvm.symm hK1
  have hK1 : va_K D vwCl [(cI2, .int)] s := hK1
  have hK2 := hK.app hK1
  obtain rfl : cI = cI2 := zk_same hK2 0 1 rfl rfl
  obtain ⟨hP, hD⟩ := va_join (wr := pw cI a z_0) (w1 := qw cI d z_0) hP hD [7] [0, 1, 2, 3, 4, 5, 6] rfl rfl (by decide) (by decide) hk1 hFc hP1 hD1
  generalize H1 = H at hP hS ⊢
  have hP : va_P D vwCl (pw cI a z_0 ++ qw cI d z_0) H := hP
  have hD : va_D A (pw cI a z_0 ++ qw cI d z_0) := hD
  refine lv_astore_n (lv' := [(2, .ref d.1), (1, .ref a.1), (0, .ref b)]) K.1 K.2.1 d_L_law_15 rfl hl (by decide) rfl (fun ls hl => ?_)
  refine nv_iconst (v := 1) K d_L_law_16 (by decide) ?_
  refine va_newa K.1 K.2.1 (K.2.2.2.2 _ (List.mem_cons_of_mem _ m_arrJ)) (ty := .long) rfl hK hP hD hS hA (N' := 1) (a0 := (1, .inr (.inl (fun _ => 0)))) (fun _ => rfl) (nI_pos (by decide)) (nI_clamp (by decide)) (by decide) (Nat.le_of_ble_eq_true rfl) (Nat.le_of_ble_eq_true rfl) d_L_law_17 (fun o cJ H hK hP hD hS => ?_)
  refine lv_astore_n (lv' := [(3, .ref o), (2, .ref d.1), (1, .ref a.1), (0, .ref b)]) K.1 K.2.1 d_L_law_19 rfl hl (by decide) rfl (fun ls hl => ?_)
  refine nv_iconst (v := 0) K d_L_law_20 (by decide) ?_
  refine lv_istore (lv' := [(4, .int (nI 0)), (3, .ref o), (2, .ref d.1), (1, .ref a.1), (0, .ref b)]) K.1 K.2.1 d_L_law_21 hl (by decide) rfl (fun ls hl => ?_)
  have hw : jW D cI cJ A a d o z_0 z_0 (fun _ => 0) s H locs := ⟨hP, hD, hS, hK, hA⟩
  exact law_loop hst K hr hlk hX hbl (hAn b hbl) hA2 hL hZ 512 0 13 3124 z_0 (fun _ => 0) H locs ls (by omega) (by omega) (by decide) (by decide) inv_0 hw (lv_sub hl [0, 4, 3, 2, 1] rfl)

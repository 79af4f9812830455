set_option maxHeartbeats 4000000 in
set_option maxRecDepth 100000 in
theorem law_bring {p : Program} {l : Launch} {e : Env} {R : Room} {s : State} {m : MethodId} {args : Array Value} {below : List Frame} {meth : Method} {c : Code} {H : Heap} {locs : List Loc} {cells slots : Nat} {Q : State → Prop} {ls : Array Slot} {c0 : Cond} {D : va_G} {cI cJ : ClassId} {A : Nat → Prop} {a : pAd} {b : qAd} {o b0 L i : Nat} {z_xs : Nat → Int32} {σ : z_St} {f : Nat → Int64} (hst : l.stackTraces = false) (K : CallFix p m c b_L_law 7 s args (c0 :: T0) "PortProcessorLaw") (hX : va_X b0 L z_xs s s.heap) (hbl : b0 < s.heap.size) (hbA : ¬ A b0) (hL : L < 2 ^ 31) (hRf : 10 ≤ R.frames) (hRl : 378 ≤ R.locals) (hRc : cells + 1 ≤ R.cells) (hRs : slots + 6 ≤ R.slots) (hZ : pZ A s s.heap) (hI : z_InvS σ) (hw : jW D cI cJ A a b o σ σ f s H locs) (hl : lv_has ls 7 [(4, .int (nI i)), (0, .ref b0), (1, .ref a.1), (2, .ref b.1), (3, .ref o)]) (hi : i + 5 ≤ L) (k : ∀ (τ : z_St) (g : Nat → Int64) (H : Heap) (locs : List Loc) (ls : Array Slot), z_InvS τ → jW D cI cJ A a b o τ τ g s H locs → lv_has ls 7 [(4, .int (nI i)), (0, .ref b0), (1, .ref a.1), (2, .ref b.1), (3, .ref o)] → W p l e R s m args below meth c H locs (cells + 1) (slots + 6) Q (F0 m 657 ls [])) : W p l e R s m args below meth c H locs cells slots Q (F0 m 372 ls []) := by
  obtain ⟨τ, t, ht2, hIt, hth, hk, hq⟩ := op_bring (σ := σ) l hst hI (z_xs (i + 1)) (z_xs (i + 2))
  refine lv_aload_n K.1 K.2.1 d_L_law_372 rfl (lv_at hl 2 rfl) ?_
  refine lv_aload_n K.1 K.2.1 d_L_law_373 rfl (lv_at hl 1 rfl) ?_
  refine lv_iload K.1 K.2.1 d_L_law_374 (lv_at hl 0 rfl) ?_
  refine nv_iconst (v := 1) K d_L_law_376 (by decide) ?_
  refine nv_iadd K d_L_law_377 ?_
  refine lsld K hX hbl hbA hw.2.2.1 (by omega) hL d_L_law_378 ?_
  refine lv_aload_n K.1 K.2.1 d_L_law_379 rfl (lv_at hl 1 rfl) ?_
  refine lv_iload K.1 K.2.1 d_L_law_380 (lv_at hl 0 rfl) ?_
  refine nv_iconst (v := 2) K d_L_law_382 (by decide) ?_
  refine nv_iadd K d_L_law_383 ?_
  refine lsld K hX hbl hbA hw.2.2.1 (by omega) hL d_L_law_384 ?_
  refine jks K (hk D cI cJ a o f) (cs_L_76 K (Nat.le_trans (by decide) hRf) (Nat.le_trans (by decide) hRl)) hw hZ rfl hl.1 rfl (Nat.le_of_ble_eq_true rfl) d_L_law_385 ⟨hRc, hRs⟩ (fun g H locs hw hV => ?_)
  refine lv_istore (lv' := [(5, .int (nI t)), (4, .int (nI i)), (0, .ref b0), (1, .ref a.1), (2, .ref b.1), (3, .ref o)]) K.1 K.2.1 d_L_law_388 hl (by decide) rfl (fun ls hl => ?_)
  refine lv_aload_n K.1 K.2.1 d_L_law_390 rfl (lv_at hl 4 rfl) ?_
  refine lv_aload_n K.1 K.2.1 d_L_law_391 rfl (lv_at hl 2 rfl) ?_
  refine lv_iload K.1 K.2.1 d_L_law_392 (lv_at hl 1 rfl) ?_
  refine nv_iconst (v := 1) K d_L_law_394 (by decide) ?_
  refine nv_iadd K d_L_law_395 ?_
  refine lsld K hX hbl hbA hw.2.2.1 (by omega) hL d_L_law_396 ?_
  refine lv_aload_n K.1 K.2.1 d_L_law_397 rfl (lv_at hl 2 rfl) ?_
  refine lv_iload K.1 K.2.1 d_L_law_398 (lv_at hl 1 rfl) ?_
  refine nv_iconst (v := 2) K d_L_law_400 (by decide) ?_
  refine nv_iadd K d_L_law_401 ?_
  refine lsld K hX hbl hbA hw.2.2.1 (by omega) hL d_L_law_402 ?_
  refine jqv K (hq D cI b) (cv_L_79 K (Nat.le_trans (by decide) hRf) (Nat.le_trans (by decide) hRl)) hw rfl hl.1 rfl (Nat.le_of_ble_eq_true rfl) d_L_law_403 ⟨hRc, hRs⟩ (fun H locs hw => ?_)
  refine lv_aload_n K.1 K.2.1 d_L_law_406 rfl (lv_at hl 4 rfl) ?_
  refine jqi K (r_thrown (σ := τ) l D cI b hIt.1) (cv_L_58 K (Nat.le_trans (by decide) hRf) (Nat.le_trans (by decide) hRl)) hw rfl hl.1 rfl (Nat.le_of_ble_eq_true rfl) d_L_law_407 ⟨Nat.le_trans (Nat.le_refl _) hRc, hRs⟩ (fun H locs hw => ?_)
  rw [hth]
  refine lv_iload K.1 K.2.1 d_L_law_410 (lv_at hl 0 rfl) ?_
  refine nv_icmp_eq K (by omega) (by omega) d_L_law_412 rfl (fun _ => ?_) (fun h => absurd rfl h)
  refine lv_goto K.1 K.2.1 d_L_law_417 rfl ?_
  exact k τ g H locs ls hIt hw (lv_sub hl [1, 2, 3, 4, 5] rfl)
set_option maxHeartbeats 4000000 in
set_option maxRecDepth 100000 in
theorem law_out {p : Program} {l : Launch} {e : Env} {R : Room} {s : State} {m : MethodId} {args : Array Value} {below : List Frame} {meth : Method} {c : Code} {H : Heap} {locs : List Loc} {cells slots : Nat} {Q : State → Prop} {ls : Array Slot} {c0 : Cond} {D : va_G} {cI cJ : ClassId} {A : Nat → Prop} {a : pAd} {b : qAd} {o b0 L i : Nat} {z_xs : Nat → Int32} {σ : z_St} {f : Nat → Int64} (hst : l.stackTraces = false) (K : CallFix p m c b_L_law 7 s args (c0 :: T0) "PortProcessorLaw") (hX : va_X b0 L z_xs s s.heap) (hbl : b0 < s.heap.size) (hbA : ¬ A b0) (hL : L < 2 ^ 31) (hRf : 10 ≤ R.frames) (hRl : 378 ≤ R.locals) (hRc : cells + 1 ≤ R.cells) (hRs : slots + 6 ≤ R.slots) (hZ : pZ A s s.heap) (hI : z_InvS σ) (hw : jW D cI cJ A a b o σ σ f s H locs) (hl : lv_has ls 7 [(4, .int (nI i)), (0, .ref b0), (1, .ref a.1), (2, .ref b.1), (3, .ref o)]) (hi : i + 5 ≤ L) (k : ∀ (τ : z_St) (g : Nat → Int64) (H : Heap) (locs : List Loc) (ls : Array Slot), z_InvS τ → jW D cI cJ A a b o τ τ g s H locs → lv_has ls 7 [(4, .int (nI i)), (0, .ref b0), (1, .ref a.1), (2, .ref b.1), (3, .ref o)] → W p l e R s m args below meth c H locs (cells + 1) (slots + 6) Q (F0 m 657 ls [])) : W p l e R s m args below meth c H locs cells slots Q (F0 m 420 ls []) := by
  obtain ⟨τ, t, v, ht2, hIt, hth, hk, hq⟩ := op_out (σ := σ) l hst hI (z_xs (i + 1))
  refine lv_aload_n K.1 K.2.1 d_L_law_420 rfl (lv_at hl 2 rfl) ?_
  refine lv_aload_n K.1 K.2.1 d_L_law_421 rfl (lv_at hl 1 rfl) ?_
  refine lv_iload K.1 K.2.1 d_L_law_422 (lv_at hl 0 rfl) ?_
  refine nv_iconst (v := 1) K d_L_law_424 (by decide) ?_
  refine nv_iadd K d_L_law_425 ?_
  refine lsld K hX hbl hbA hw.2.2.1 (by omega) hL d_L_law_426 ?_
  refine lv_aload_n K.1 K.2.1 d_L_law_427 rfl (lv_at hl 4 rfl) ?_
  refine jks K (hk D cI cJ a o f) (cs_L_80 K (Nat.le_trans (by decide) hRf) (Nat.le_trans (by decide) hRl)) hw hZ rfl hl.1 rfl (Nat.le_of_ble_eq_true rfl) d_L_law_428 ⟨hRc, hRs⟩ (fun g H locs hw hV => ?_)
  refine lv_istore (lv' := [(5, .int (nI t)), (4, .int (nI i)), (0, .ref b0), (1, .ref a.1), (2, .ref b.1), (3, .ref o)]) K.1 K.2.1 d_L_law_431 hl (by decide) rfl (fun ls hl => ?_)
  refine lv_aload_n K.1 K.2.1 d_L_law_433 rfl (lv_at hl 4 rfl) ?_
  refine lv_aload_n K.1 K.2.1 d_L_law_434 rfl (lv_at hl 2 rfl) ?_
  refine lv_iload K.1 K.2.1 d_L_law_435 (lv_at hl 1 rfl) ?_
  refine nv_iconst (v := 1) K d_L_law_437 (by decide) ?_
  refine nv_iadd K d_L_law_438 ?_
  refine lsld K hX hbl hbA hw.2.2.1 (by omega) hL d_L_law_439 ?_
  refine jqi K (hq D cI b) (cv_L_82 K (Nat.le_trans (by decide) hRf) (Nat.le_trans (by decide) hRl)) hw rfl hl.1 rfl (Nat.le_of_ble_eq_true rfl) d_L_law_440 ⟨hRc, hRs⟩ (fun H locs hw => ?_)
  refine lv_istore (lv' := [(6, .int v), (5, .int (nI t)), (4, .int (nI i)), (0, .ref b0), (1, .ref a.1), (2, .ref b.1), (3, .ref o)]) K.1 K.2.1 d_L_law_443 hl (by decide) rfl (fun ls hl => ?_)
  refine lv_aload_n K.1 K.2.1 d_L_law_445 rfl (lv_at hl 5 rfl) ?_
  refine jqi K (r_thrown (σ := τ) l D cI b hIt.1) (cv_L_58 K (Nat.le_trans (by decide) hRf) (Nat.le_trans (by decide) hRl)) hw rfl hl.1 rfl (Nat.le_of_ble_eq_true rfl) d_L_law_446 ⟨Nat.le_trans (Nat.le_refl _) hRc, hRs⟩ (fun H locs hw => ?_)
  rw [hth]
  refine lv_iload K.1 K.2.1 d_L_law_449 (lv_at hl 1 rfl) ?_
  refine nv_icmp_eq K (by omega) (by omega) d_L_law_451 rfl (fun _ => ?_) (fun h => absurd rfl h)
  refine lv_iload K.1 K.2.1 d_L_law_456 (lv_at hl 1 rfl) ?_
  refine nv_if_ne K (by omega) d_L_law_458 rfl (fun h => ?_) (fun h => ?_)
  · refine lv_goto K.1 K.2.1 d_L_law_473 rfl ?_
    exact k τ g H locs ls hIt hw (lv_sub hl [2, 3, 4, 5, 6] rfl)
  · refine lv_aload_n K.1 K.2.1 d_L_law_461 rfl (lv_at hl 6 rfl) ?_
    refine nv_iconst (v := 0) K d_L_law_462 (by decide) ?_
    refine jlald K hw d_L_law_463 ?_
    rw [hV h]
    refine lv_iload K.1 K.2.1 d_L_law_464 (lv_at hl 0 rfl) ?_
    refine lv_i2l K.1 K.2.1 d_L_law_466 rfl ?_
    refine lcmp0 K d_L_law_467 d_L_law_468 rfl ?_
    refine lv_goto K.1 K.2.1 d_L_law_473 rfl ?_
    exact k τ g H locs ls hIt hw (lv_sub hl [2, 3, 4, 5, 6] rfl)
set_option maxHeartbeats 4000000 in
set_option maxRecDepth 100000 in
theorem law_register {p : Program} {l : Launch} {e : Env} {R : Room} {s : State} {m : MethodId} {args : Array Value} {below : List Frame} {meth : Method} {c : Code} {H : Heap} {locs : List Loc} {cells slots : Nat} {Q : State → Prop} {ls : Array Slot} {c0 : Cond} {D : va_G} {cI cJ : ClassId} {A : Nat → Prop} {a : pAd} {b : qAd} {o b0 L i : Nat} {z_xs : Nat → Int32} {σ : z_St} {f : Nat → Int64} (hst : l.stackTraces = false) (K : CallFix p m c b_L_law 7 s args (c0 :: T0) "PortProcessorLaw") (hX : va_X b0 L z_xs s s.heap) (hbl : b0 < s.heap.size) (hbA : ¬ A b0) (hL : L < 2 ^ 31) (hRf : 10 ≤ R.frames) (hRl : 378 ≤ R.locals) (hRc : cells + 1 ≤ R.cells) (hRs : slots + 6 ≤ R.slots) (hZ : pZ A s s.heap) (hI : z_InvS σ) (hw : jW D cI cJ A a b o σ σ f s H locs) (hl : lv_has ls 7 [(4, .int (nI i)), (0, .ref b0), (1, .ref a.1), (2, .ref b.1), (3, .ref o)]) (hi : i + 5 ≤ L) (k : ∀ (τ : z_St) (g : Nat → Int64) (H : Heap) (locs : List Loc) (ls : Array Slot), z_InvS τ → jW D cI cJ A a b o τ τ g s H locs → lv_has ls 7 [(4, .int (nI i)), (0, .ref b0), (1, .ref a.1), (2, .ref b.1), (3, .ref o)] → W p l e R s m args below meth c H locs (cells + 1) (slots + 6) Q (F0 m 657 ls [])) : W p l e R s m args below meth c H locs cells slots Q (F0 m 476 ls []) := by
  obtain ⟨τ, t, v, ht2, hIt, hth, hk, hq⟩ := op_register (σ := σ) l hst hI (z_xs (i + 1))
  refine lv_aload_n K.1 K.2.1 d_L_law_476 rfl (lv_at hl 2 rfl) ?_
  refine lv_aload_n K.1 K.2.1 d_L_law_477 rfl (lv_at hl 1 rfl) ?_
  refine lv_iload K.1 K.2.1 d_L_law_478 (lv_at hl 0 rfl) ?_
  refine nv_iconst (v := 1) K d_L_law_480 (by decide) ?_
  refine nv_iadd K d_L_law_481 ?_
  refine lsld K hX hbl hbA hw.2.2.1 (by omega) hL d_L_law_482 ?_
  refine lv_aload_n K.1 K.2.1 d_L_law_483 rfl (lv_at hl 4 rfl) ?_
  refine jks K (hk D cI cJ a o f) (cs_L_83 K (Nat.le_trans (by decide) hRf) (Nat.le_trans (by decide) hRl)) hw hZ rfl hl.1 rfl (Nat.le_of_ble_eq_true rfl) d_L_law_484 ⟨hRc, hRs⟩ (fun g H locs hw hV => ?_)
  refine lv_istore (lv' := [(5, .int (nI t)), (4, .int (nI i)), (0, .ref b0), (1, .ref a.1), (2, .ref b.1), (3, .ref o)]) K.1 K.2.1 d_L_law_487 hl (by decide) rfl (fun ls hl => ?_)
  refine lv_aload_n K.1 K.2.1 d_L_law_489 rfl (lv_at hl 4 rfl) ?_
  refine lv_aload_n K.1 K.2.1 d_L_law_490 rfl (lv_at hl 2 rfl) ?_
  refine lv_iload K.1 K.2.1 d_L_law_491 (lv_at hl 1 rfl) ?_
  refine nv_iconst (v := 1) K d_L_law_493 (by decide) ?_
  refine nv_iadd K d_L_law_494 ?_
  refine lsld K hX hbl hbA hw.2.2.1 (by omega) hL d_L_law_495 ?_
  refine jqi K (hq D cI b) (cv_L_85 K (Nat.le_trans (by decide) hRf) (Nat.le_trans (by decide) hRl)) hw rfl hl.1 rfl (Nat.le_of_ble_eq_true rfl) d_L_law_496 ⟨hRc, hRs⟩ (fun H locs hw => ?_)
  refine lv_istore (lv' := [(6, .int v), (5, .int (nI t)), (4, .int (nI i)), (0, .ref b0), (1, .ref a.1), (2, .ref b.1), (3, .ref o)]) K.1 K.2.1 d_L_law_499 hl (by decide) rfl (fun ls hl => ?_)
  refine lv_aload_n K.1 K.2.1 d_L_law_501 rfl (lv_at hl 5 rfl) ?_
  refine jqi K (r_thrown (σ := τ) l D cI b hIt.1) (cv_L_58 K (Nat.le_trans (by decide) hRf) (Nat.le_trans (by decide) hRl)) hw rfl hl.1 rfl (Nat.le_of_ble_eq_true rfl) d_L_law_502 ⟨Nat.le_trans (Nat.le_refl _) hRc, hRs⟩ (fun H locs hw => ?_)
  rw [hth]
  refine lv_iload K.1 K.2.1 d_L_law_505 (lv_at hl 1 rfl) ?_
  refine nv_icmp_eq K (by omega) (by omega) d_L_law_507 rfl (fun _ => ?_) (fun h => absurd rfl h)
  refine lv_iload K.1 K.2.1 d_L_law_512 (lv_at hl 1 rfl) ?_
  refine nv_if_ne K (by omega) d_L_law_514 rfl (fun h => ?_) (fun h => ?_)
  · refine lv_goto K.1 K.2.1 d_L_law_529 rfl ?_
    exact k τ g H locs ls hIt hw (lv_sub hl [2, 3, 4, 5, 6] rfl)
  · refine lv_aload_n K.1 K.2.1 d_L_law_517 rfl (lv_at hl 6 rfl) ?_
    refine nv_iconst (v := 0) K d_L_law_518 (by decide) ?_
    refine jlald K hw d_L_law_519 ?_
    rw [hV h]
    refine lv_iload K.1 K.2.1 d_L_law_520 (lv_at hl 0 rfl) ?_
    refine lv_i2l K.1 K.2.1 d_L_law_522 rfl ?_
    refine lcmp0 K d_L_law_523 d_L_law_524 rfl ?_
    refine lv_goto K.1 K.2.1 d_L_law_529 rfl ?_
    exact k τ g H locs ls hIt hw (lv_sub hl [2, 3, 4, 5, 6] rfl)
set_option maxHeartbeats 4000000 in
set_option maxRecDepth 100000 in
theorem law_set {p : Program} {l : Launch} {e : Env} {R : Room} {s : State} {m : MethodId} {args : Array Value} {below : List Frame} {meth : Method} {c : Code} {H : Heap} {locs : List Loc} {cells slots : Nat} {Q : State → Prop} {ls : Array Slot} {c0 : Cond} {D : va_G} {cI cJ : ClassId} {A : Nat → Prop} {a : pAd} {b : qAd} {o b0 L i : Nat} {z_xs : Nat → Int32} {σ : z_St} {f : Nat → Int64} (hst : l.stackTraces = false) (K : CallFix p m c b_L_law 7 s args (c0 :: T0) "PortProcessorLaw") (hX : va_X b0 L z_xs s s.heap) (hbl : b0 < s.heap.size) (hbA : ¬ A b0) (hL : L < 2 ^ 31) (hRf : 10 ≤ R.frames) (hRl : 378 ≤ R.locals) (hRc : cells + 1 ≤ R.cells) (hRs : slots + 6 ≤ R.slots) (hZ : pZ A s s.heap) (hI : z_InvS σ) (hw : jW D cI cJ A a b o σ σ f s H locs) (hl : lv_has ls 7 [(4, .int (nI i)), (0, .ref b0), (1, .ref a.1), (2, .ref b.1), (3, .ref o)]) (hi : i + 5 ≤ L) (k : ∀ (τ : z_St) (g : Nat → Int64) (H : Heap) (locs : List Loc) (ls : Array Slot), z_InvS τ → jW D cI cJ A a b o τ τ g s H locs → lv_has ls 7 [(4, .int (nI i)), (0, .ref b0), (1, .ref a.1), (2, .ref b.1), (3, .ref o)] → W p l e R s m args below meth c H locs (cells + 1) (slots + 6) Q (F0 m 657 ls [])) : W p l e R s m args below meth c H locs cells slots Q (F0 m 532 ls []) := by
  obtain ⟨τ, t, ht2, hIt, hth, hk, hq⟩ := op_set (σ := σ) l hst hI (z_xs (i + 1)) (z_xs (i + 2))
  refine lv_aload_n K.1 K.2.1 d_L_law_532 rfl (lv_at hl 2 rfl) ?_
  refine lv_aload_n K.1 K.2.1 d_L_law_533 rfl (lv_at hl 1 rfl) ?_
  refine lv_iload K.1 K.2.1 d_L_law_534 (lv_at hl 0 rfl) ?_
  refine nv_iconst (v := 1) K d_L_law_536 (by decide) ?_
  refine nv_iadd K d_L_law_537 ?_
  refine lsld K hX hbl hbA hw.2.2.1 (by omega) hL d_L_law_538 ?_
  refine lv_aload_n K.1 K.2.1 d_L_law_539 rfl (lv_at hl 1 rfl) ?_
  refine lv_iload K.1 K.2.1 d_L_law_540 (lv_at hl 0 rfl) ?_
  refine nv_iconst (v := 2) K d_L_law_542 (by decide) ?_
  refine nv_iadd K d_L_law_543 ?_
  refine lsld K hX hbl hbA hw.2.2.1 (by omega) hL d_L_law_544 ?_
  refine jks K (hk D cI cJ a o f) (cs_L_86 K (Nat.le_trans (by decide) hRf) (Nat.le_trans (by decide) hRl)) hw hZ rfl hl.1 rfl (Nat.le_of_ble_eq_true rfl) d_L_law_545 ⟨hRc, hRs⟩ (fun g H locs hw hV => ?_)
  refine lv_istore (lv' := [(5, .int (nI t)), (4, .int (nI i)), (0, .ref b0), (1, .ref a.1), (2, .ref b.1), (3, .ref o)]) K.1 K.2.1 d_L_law_548 hl (by decide) rfl (fun ls hl => ?_)
  refine lv_aload_n K.1 K.2.1 d_L_law_550 rfl (lv_at hl 4 rfl) ?_
  refine lv_aload_n K.1 K.2.1 d_L_law_551 rfl (lv_at hl 2 rfl) ?_
  refine lv_iload K.1 K.2.1 d_L_law_552 (lv_at hl 1 rfl) ?_
  refine nv_iconst (v := 1) K d_L_law_554 (by decide) ?_
  refine nv_iadd K d_L_law_555 ?_
  refine lsld K hX hbl hbA hw.2.2.1 (by omega) hL d_L_law_556 ?_
  refine lv_aload_n K.1 K.2.1 d_L_law_557 rfl (lv_at hl 2 rfl) ?_
  refine lv_iload K.1 K.2.1 d_L_law_558 (lv_at hl 1 rfl) ?_
  refine nv_iconst (v := 2) K d_L_law_560 (by decide) ?_
  refine nv_iadd K d_L_law_561 ?_
  refine lsld K hX hbl hbA hw.2.2.1 (by omega) hL d_L_law_562 ?_
  refine jqv K (hq D cI b) (cv_L_88 K (Nat.le_trans (by decide) hRf) (Nat.le_trans (by decide) hRl)) hw rfl hl.1 rfl (Nat.le_of_ble_eq_true rfl) d_L_law_563 ⟨hRc, hRs⟩ (fun H locs hw => ?_)
  refine lv_aload_n K.1 K.2.1 d_L_law_566 rfl (lv_at hl 4 rfl) ?_
  refine jqi K (r_thrown (σ := τ) l D cI b hIt.1) (cv_L_58 K (Nat.le_trans (by decide) hRf) (Nat.le_trans (by decide) hRl)) hw rfl hl.1 rfl (Nat.le_of_ble_eq_true rfl) d_L_law_567 ⟨Nat.le_trans (Nat.le_refl _) hRc, hRs⟩ (fun H locs hw => ?_)
  rw [hth]
  refine lv_iload K.1 K.2.1 d_L_law_570 (lv_at hl 0 rfl) ?_
  refine nv_icmp_eq K (by omega) (by omega) d_L_law_572 rfl (fun _ => ?_) (fun h => absurd rfl h)
  refine lv_goto K.1 K.2.1 d_L_law_577 rfl ?_
  exact k τ g H locs ls hIt hw (lv_sub hl [1, 2, 3, 4, 5] rfl)
set_option maxHeartbeats 4000000 in
set_option maxRecDepth 100000 in
theorem law_is {p : Program} {l : Launch} {e : Env} {R : Room} {s : State} {m : MethodId} {args : Array Value} {below : List Frame} {meth : Method} {c : Code} {H : Heap} {locs : List Loc} {cells slots : Nat} {Q : State → Prop} {ls : Array Slot} {c0 : Cond} {D : va_G} {cI cJ : ClassId} {A : Nat → Prop} {a : pAd} {b : qAd} {o b0 L i : Nat} {z_xs : Nat → Int32} {σ : z_St} {f : Nat → Int64} (hst : l.stackTraces = false) (K : CallFix p m c b_L_law 7 s args (c0 :: T0) "PortProcessorLaw") (hX : va_X b0 L z_xs s s.heap) (hbl : b0 < s.heap.size) (hbA : ¬ A b0) (hL : L < 2 ^ 31) (hRf : 10 ≤ R.frames) (hRl : 378 ≤ R.locals) (hRc : cells + 1 ≤ R.cells) (hRs : slots + 6 ≤ R.slots) (hZ : pZ A s s.heap) (hI : z_InvS σ) (hw : jW D cI cJ A a b o σ σ f s H locs) (hl : lv_has ls 7 [(4, .int (nI i)), (0, .ref b0), (1, .ref a.1), (2, .ref b.1), (3, .ref o)]) (hi : i + 5 ≤ L) (k : ∀ (τ : z_St) (g : Nat → Int64) (H : Heap) (locs : List Loc) (ls : Array Slot), z_InvS τ → jW D cI cJ A a b o τ τ g s H locs → lv_has ls 7 [(4, .int (nI i)), (0, .ref b0), (1, .ref a.1), (2, .ref b.1), (3, .ref o)] → W p l e R s m args below meth c H locs (cells + 1) (slots + 6) Q (F0 m 657 ls [])) : W p l e R s m args below meth c H locs cells slots Q (F0 m 580 ls []) := by
  obtain ⟨τ, t, w, hw2, ht2, hIt, hth, hk, hq⟩ := op_is (σ := σ) l hst hI (z_xs (i + 1))
  refine lv_aload_n K.1 K.2.1 d_L_law_580 rfl (lv_at hl 2 rfl) ?_
  refine lv_aload_n K.1 K.2.1 d_L_law_581 rfl (lv_at hl 1 rfl) ?_
  refine lv_iload K.1 K.2.1 d_L_law_582 (lv_at hl 0 rfl) ?_
  refine nv_iconst (v := 1) K d_L_law_584 (by decide) ?_
  refine nv_iadd K d_L_law_585 ?_
  refine lsld K hX hbl hbA hw.2.2.1 (by omega) hL d_L_law_586 ?_
  refine lv_aload_n K.1 K.2.1 d_L_law_587 rfl (lv_at hl 4 rfl) ?_
  refine jks K (hk D cI cJ a o f) (cs_L_89 K (Nat.le_trans (by decide) hRf) (Nat.le_trans (by decide) hRl)) hw hZ rfl hl.1 rfl (Nat.le_of_ble_eq_true rfl) d_L_law_588 ⟨hRc, hRs⟩ (fun g H locs hw hV => ?_)
  refine lv_istore (lv' := [(5, .int (nI t)), (4, .int (nI i)), (0, .ref b0), (1, .ref a.1), (2, .ref b.1), (3, .ref o)]) K.1 K.2.1 d_L_law_591 hl (by decide) rfl (fun ls hl => ?_)
  refine lv_aload_n K.1 K.2.1 d_L_law_593 rfl (lv_at hl 4 rfl) ?_
  refine lv_aload_n K.1 K.2.1 d_L_law_594 rfl (lv_at hl 2 rfl) ?_
  refine lv_iload K.1 K.2.1 d_L_law_595 (lv_at hl 1 rfl) ?_
  refine nv_iconst (v := 1) K d_L_law_597 (by decide) ?_
  refine nv_iadd K d_L_law_598 ?_
  refine lsld K hX hbl hbA hw.2.2.1 (by omega) hL d_L_law_599 ?_
  refine jqi K (hq D cI b) (cv_L_91 K (Nat.le_trans (by decide) hRf) (Nat.le_trans (by decide) hRl)) hw rfl hl.1 rfl (Nat.le_of_ble_eq_true rfl) d_L_law_600 ⟨hRc, hRs⟩ (fun H locs hw => ?_)
  refine lv_istore (lv' := [(6, .int (nI w)), (5, .int (nI t)), (4, .int (nI i)), (0, .ref b0), (1, .ref a.1), (2, .ref b.1), (3, .ref o)]) K.1 K.2.1 d_L_law_603 hl (by decide) rfl (fun ls hl => ?_)
  refine lv_aload_n K.1 K.2.1 d_L_law_605 rfl (lv_at hl 5 rfl) ?_
  refine jqi K (r_thrown (σ := τ) l D cI b hIt.1) (cv_L_58 K (Nat.le_trans (by decide) hRf) (Nat.le_trans (by decide) hRl)) hw rfl hl.1 rfl (Nat.le_of_ble_eq_true rfl) d_L_law_606 ⟨Nat.le_trans (Nat.le_refl _) hRc, hRs⟩ (fun H locs hw => ?_)
  rw [hth]
  refine lv_iload K.1 K.2.1 d_L_law_609 (lv_at hl 1 rfl) ?_
  refine nv_icmp_eq K (by omega) (by omega) d_L_law_611 rfl (fun _ => ?_) (fun h => absurd rfl h)
  refine lv_iload K.1 K.2.1 d_L_law_616 (lv_at hl 1 rfl) ?_
  refine nv_if_ne K (by omega) d_L_law_618 rfl (fun h => ?_) (fun h => ?_)
  · refine lv_goto K.1 K.2.1 d_L_law_640 rfl ?_
    exact k τ g H locs ls hIt hw (lv_sub hl [2, 3, 4, 5, 6] rfl)
  · refine lv_aload_n K.1 K.2.1 d_L_law_621 rfl (lv_at hl 6 rfl) ?_
    refine nv_iconst (v := 0) K d_L_law_622 (by decide) ?_
    refine jlald K hw d_L_law_623 ?_
    rw [hV h]
    refine lv_iload K.1 K.2.1 d_L_law_624 (lv_at hl 0 rfl) ?_
    refine nl_if_eq (u := 0) (v := 1) (Y := 634) K (by omega) d_L_law_626 rfl (fun _ k => lv_lconst (v := lN 0) K.1 K.2.1 d_L_law_633 rfl k) (fun _ k => lv_lconst (v := lN 1) K.1 K.2.1 d_L_law_629 rfl (lv_goto K.1 K.2.1 d_L_law_630 rfl k)) ?_
    rw [show (if w = 0 then 0 else 1) = w by split <;> omega]
    refine lcmp0 K d_L_law_634 d_L_law_635 rfl ?_
    refine lv_goto K.1 K.2.1 d_L_law_640 rfl ?_
    exact k τ g H locs ls hIt hw (lv_sub hl [2, 3, 4, 5, 6] rfl)
set_option maxHeartbeats 4000000 in
set_option maxRecDepth 100000 in
theorem law_states {p : Program} {l : Launch} {e : Env} {R : Room} {s : State} {m : MethodId} {args : Array Value} {below : List Frame} {meth : Method} {c : Code} {H : Heap} {locs : List Loc} {cells slots : Nat} {Q : State → Prop} {ls : Array Slot} {c0 : Cond} {D : va_G} {cI cJ : ClassId} {A : Nat → Prop} {a : pAd} {b : qAd} {o b0 L i : Nat} {z_xs : Nat → Int32} {σ : z_St} {f : Nat → Int64} (hst : l.stackTraces = false) (K : CallFix p m c b_L_law 7 s args (c0 :: T0) "PortProcessorLaw") (hX : va_X b0 L z_xs s s.heap) (hbl : b0 < s.heap.size) (hbA : ¬ A b0) (hL : L < 2 ^ 31) (hRf : 10 ≤ R.frames) (hRl : 378 ≤ R.locals) (hRc : cells + 1 ≤ R.cells) (hRs : slots + 6 ≤ R.slots) (hZ : pZ A s s.heap) (hI : z_InvS σ) (hw : jW D cI cJ A a b o σ σ f s H locs) (hl : lv_has ls 7 [(4, .int (nI i)), (0, .ref b0), (1, .ref a.1), (2, .ref b.1), (3, .ref o)]) (hi : i + 5 ≤ L) (k : ∀ (τ : z_St) (g : Nat → Int64) (H : Heap) (locs : List Loc) (ls : Array Slot), z_InvS τ → jW D cI cJ A a b o τ τ g s H locs → lv_has ls 7 [(4, .int (nI i)), (0, .ref b0), (1, .ref a.1), (2, .ref b.1), (3, .ref o)] → W p l e R s m args below meth c H locs (cells + 1) (slots + 6) Q (F0 m 657 ls [])) : W p l e R s m args below meth c H locs cells slots Q (F0 m 643 ls []) := by
  refine lv_aload_n K.1 K.2.1 d_L_law_643 rfl (lv_at hl 2 rfl) ?_
  refine jpl K (c_states (σ := σ) l D cI a hI.1) (cv_L_92 K (Nat.le_trans (by decide) hRf) (Nat.le_trans (by decide) hRl)) hw rfl hl.1 rfl (Nat.le_of_ble_eq_true rfl) d_L_law_644 ⟨by omega, by omega⟩ (fun H locs hw => ?_)
  refine lv_aload_n K.1 K.2.1 d_L_law_647 rfl (lv_at hl 3 rfl) ?_
  refine jql K (r_states (σ := σ) l D cI b hI.1) (cv_L_96 K (Nat.le_trans (by decide) hRf) (Nat.le_trans (by decide) hRl)) hw rfl hl.1 rfl (Nat.le_of_ble_eq_true rfl) d_L_law_648 ⟨by omega, by omega⟩ (fun H locs hw => ?_)
  refine lcmp0 K d_L_law_651 d_L_law_652 rfl ?_
  have hw : jW D cI cJ A a b o (z_s_th σ 0) (z_s_th σ 0) f s H locs := by
    unfold jW jw
    rw [pw_th]
    exact hw
  refine W.widen (k := cells + 1) (n := slots + 6) (by omega) (by omega) ?_
  exact k (z_s_th σ 0) f H locs ls (inv_th hI 0) hw hl

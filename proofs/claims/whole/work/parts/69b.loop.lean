set_option maxHeartbeats 4000000 in
set_option maxRecDepth 100000 in
theorem law_loop {p : Program} {l : Launch} {e : Env} {s : State} {m : MethodId} {below : List Frame} {meth : Method} {c : Code} {c0 : Cond} {D : va_G} {cI cJ : ClassId} {A : Nat → Prop} {a : pAd} {b : qAd} {o b0 L : Nat} {z_xs : Nat → Int32} (hst : l.stackTraces = false) (K : CallFix p m c b_L_law 7 s #[Value.ref b0] (c0 :: T0) "PortProcessorLaw") (hr : meth.sig.returnType = ret) (hlk : meth.locks = false) (hX : va_X b0 L z_xs s s.heap) (hbl : b0 < s.heap.size) (hbA : ¬ A b0) (hA : ∀ q, A q → s.heap.size ≤ q) (hL : L ≤ 2560) (hZ : pZ A s s.heap) : ∀ (j i cells slots : Nat) (σ : z_St) (f : Nat → Int64) (H : Heap) (locs : List Loc) (ls : Array Slot), L < i + 5 * (j + 1) → i ≤ L + 5 → cells + j ≤ 1050 → slots + 6 * j ≤ 11394 → z_InvS σ → jW D cI cJ A a b o σ σ f s H locs → lv_has ls 7 [(4, .int (nI i)), (0, .ref b0), (1, .ref a.1), (2, .ref b.1), (3, .ref o)] → W p l e room_1 s m #[Value.ref b0] below meth c H locs cells slots (lw_Z below #[Value.ref b0] s) (F0 m 23 ls []) := by
  intro j
  induction j with
  | zero =>
    intro i cells slots σ f H locs ls hj hi hc hs hI hw hl
    refine lv_iload K.1 K.2.1 d_L_law_23 (lv_at hl 0 rfl) ?_
    refine lv_aload_n K.1 K.2.1 d_L_law_25 rfl (lv_at hl 1 rfl) ?_
    refine va_slen K.1 K.2.1 hX hbl hbA hw.2.2.1 d_L_law_26 ?_
    refine nv_iconst (v := 5) K d_L_law_27 (by decide) ?_
    refine lv_isub K.1 K.2.1 d_L_law_28 ?_
    refine lv_icmp_gt K.1 K.2.1 d_L_law_29 rfl (fun h => ?_) (fun h => ?_)
    · refine lv_iconst (v := 1) K.1 K.2.1 d_L_law_663 (by decide) ?_
      refine W.widen (k := 1050) (n := 11394) (by omega) (by omega) ?_
      exact va_forget (fun q hq => hA _ (hw.2.2.1.2.2 q hq)) (lw_ret K.1 K.2.1 hr hlk d_L_law_664)
    · have hi5 : ¬ L < i + 5 := fun q => h ((law_le (by omega) (by omega)).mpr q)
      omega
  | succ j ih =>
    intro i cells slots σ f H locs ls hj hi hc hs hI hw hl
    refine lv_iload K.1 K.2.1 d_L_law_23 (lv_at hl 0 rfl) ?_
    refine lv_aload_n K.1 K.2.1 d_L_law_25 rfl (lv_at hl 1 rfl) ?_
    refine va_slen K.1 K.2.1 hX hbl hbA hw.2.2.1 d_L_law_26 ?_
    refine nv_iconst (v := 5) K d_L_law_27 (by decide) ?_
    refine lv_isub K.1 K.2.1 d_L_law_28 ?_
    refine lv_icmp_gt K.1 K.2.1 d_L_law_29 rfl (fun h => ?_) (fun h => ?_)
    · refine lv_iconst (v := 1) K.1 K.2.1 d_L_law_663 (by decide) ?_
      refine W.widen (k := 1050) (n := 11394) (by omega) (by omega) ?_
      exact va_forget (fun q hq => hA _ (hw.2.2.1.2.2 q hq)) (lw_ret K.1 K.2.1 hr hlk d_L_law_664)
    · have hi5 : ¬ L < i + 5 := fun q => h ((law_le (by omega) (by omega)).mpr q)
      refine lv_aload_n K.1 K.2.1 d_L_law_32 rfl (lv_at hl 1 rfl) ?_
      refine lv_iload K.1 K.2.1 d_L_law_33 (lv_at hl 0 rfl) ?_
      refine lsld K hX hbl hbA hw.2.2.1 (by omega) (by omega) d_L_law_35 ?_
      refine nv_bipush (v := 15) K d_L_law_36 (by decide) ?_
      refine lv_iand K.1 K.2.1 d_L_law_38 ?_
      obtain ⟨w, hw16, ew⟩ := law_15 (z_xs i)
      rw [ew]
      have nxt : ∀ (τ : z_St) (g : Nat → Int64) (H : Heap) (locs : List Loc) (ls : Array Slot), z_InvS τ → jW D cI cJ A a b o τ τ g s H locs → lv_has ls 7 [(4, .int (nI i)), (0, .ref b0), (1, .ref a.1), (2, .ref b.1), (3, .ref o)] → W p l e room_1 s m #[Value.ref b0] below meth c H locs (cells + 1) (slots + 6) (lw_Z below #[Value.ref b0] s) (F0 m 657 ls []) := by
        intro τ g H locs ls hIt hw hl
        refine lv_iinc (k := 0) (v := nI (i + 5)) (lv' := [(4, .int (nI (i + 5))), (0, .ref b0), (1, .ref a.1), (2, .ref b.1), (3, .ref o)]) K.1 K.2.1 d_L_law_657 hl rfl (nI_add _ _) (by decide) rfl (fun ls hl => ?_)
        refine lv_goto K.1 K.2.1 d_L_law_660 rfl ?_
        exact ih (i + 5) (cells + 1) (slots + 6) τ g H locs ls (by omega) (by omega) (by omega) (by omega) hIt hw hl
      have hRc : cells + 1 ≤ room_1.cells := by show cells + 1 ≤ 1050; omega
      have hRs : slots + 6 ≤ room_1.slots := by show slots + 6 ≤ 11394; omega
      rcases (by omega : w = 0 ∨ w = 1 ∨ w = 2 ∨ w = 3 ∨ w = 4 ∨ w = 5 ∨ w = 6 ∨ w = 7 ∨ w = 8 ∨ w = 9 ∨ w = 10 ∨ w = 11 ∨ w = 12 ∨ w = 13 ∨ w = 14 ∨ w = 15) with rfl | rfl | rfl | rfl | rfl | rfl | rfl | rfl | rfl | rfl | rfl | rfl | rfl | rfl | rfl | rfl
      · refine nv_tabIn (a := 0) (tgt := 96) K d_L_law_39 (by decide) (by decide) (by decide) rfl rfl ?_
        exact law_load hst K hX hbl hbA (by omega) (Nat.le_of_ble_eq_true rfl) (Nat.le_of_ble_eq_true rfl) hRc hRs hZ hI hw hl (by omega) nxt
      · refine nv_tabIn (a := 1) (tgt := 188) K d_L_law_39 (by decide) (by decide) (by decide) rfl rfl ?_
        exact law_peek hst K hX hbl hbA (by omega) (Nat.le_of_ble_eq_true rfl) (Nat.le_of_ble_eq_true rfl) hRc hRs hZ hI hw hl (by omega) nxt
      · refine nv_tabIn (a := 2) (tgt := 244) K d_L_law_39 (by decide) (by decide) (by decide) rfl rfl ?_
        exact law_start hst K hX hbl hbA (by omega) (Nat.le_of_ble_eq_true rfl) (Nat.le_of_ble_eq_true rfl) hRc hRs hZ hI hw hl (by omega) nxt
      · refine nv_tabIn (a := 3) (tgt := 280) K d_L_law_39 (by decide) (by decide) (by decide) rfl rfl ?_
        exact law_run hst K hX hbl hbA (by omega) (Nat.le_of_ble_eq_true rfl) (Nat.le_of_ble_eq_true rfl) hRc hRs hZ hI hw hl (by omega) nxt
      · refine nv_tabIn (a := 4) (tgt := 336) K d_L_law_39 (by decide) (by decide) (by decide) rfl rfl ?_
        exact law_interrupt hst K hX hbl hbA (by omega) (Nat.le_of_ble_eq_true rfl) (Nat.le_of_ble_eq_true rfl) hRc hRs hZ hI hw hl (by omega) nxt
      · refine nv_tabIn (a := 5) (tgt := 372) K d_L_law_39 (by decide) (by decide) (by decide) rfl rfl ?_
        exact law_bring hst K hX hbl hbA (by omega) (Nat.le_of_ble_eq_true rfl) (Nat.le_of_ble_eq_true rfl) hRc hRs hZ hI hw hl (by omega) nxt
      · refine nv_tabIn (a := 6) (tgt := 420) K d_L_law_39 (by decide) (by decide) (by decide) rfl rfl ?_
        exact law_out hst K hX hbl hbA (by omega) (Nat.le_of_ble_eq_true rfl) (Nat.le_of_ble_eq_true rfl) hRc hRs hZ hI hw hl (by omega) nxt
      · refine nv_tabIn (a := 7) (tgt := 476) K d_L_law_39 (by decide) (by decide) (by decide) rfl rfl ?_
        exact law_register hst K hX hbl hbA (by omega) (Nat.le_of_ble_eq_true rfl) (Nat.le_of_ble_eq_true rfl) hRc hRs hZ hI hw hl (by omega) nxt
      · refine nv_tabIn (a := 8) (tgt := 532) K d_L_law_39 (by decide) (by decide) (by decide) rfl rfl ?_
        exact law_set hst K hX hbl hbA (by omega) (Nat.le_of_ble_eq_true rfl) (Nat.le_of_ble_eq_true rfl) hRc hRs hZ hI hw hl (by omega) nxt
      · refine nv_tabIn (a := 9) (tgt := 580) K d_L_law_39 (by decide) (by decide) (by decide) rfl rfl ?_
        exact law_is hst K hX hbl hbA (by omega) (Nat.le_of_ble_eq_true rfl) (Nat.le_of_ble_eq_true rfl) hRc hRs hZ hI hw hl (by omega) nxt
      · refine nv_tabIn (a := 10) (tgt := 643) K d_L_law_39 (by decide) (by decide) (by decide) rfl rfl ?_
        exact law_states hst K hX hbl hbA (by omega) (Nat.le_of_ble_eq_true rfl) (Nat.le_of_ble_eq_true rfl) hRc hRs hZ hI hw hl (by omega) nxt
      · refine nv_tabOut (a := 11) (tgt := 657) K d_L_law_39 (by decide) (by decide) rfl ?_
        exact W.widen (by omega) (by omega) (nxt σ f H locs ls hI hw hl)
      · refine nv_tabOut (a := 12) (tgt := 657) K d_L_law_39 (by decide) (by decide) rfl ?_
        exact W.widen (by omega) (by omega) (nxt σ f H locs ls hI hw hl)
      · refine nv_tabOut (a := 13) (tgt := 657) K d_L_law_39 (by decide) (by decide) rfl ?_
        exact W.widen (by omega) (by omega) (nxt σ f H locs ls hI hw hl)
      · refine nv_tabOut (a := 14) (tgt := 657) K d_L_law_39 (by decide) (by decide) rfl ?_
        exact W.widen (by omega) (by omega) (nxt σ f H locs ls hI hw hl)
      · refine nv_tabOut (a := 15) (tgt := 657) K d_L_law_39 (by decide) (by decide) rfl ?_
        exact W.widen (by omega) (by omega) (nxt σ f H locs ls hI hw hl)

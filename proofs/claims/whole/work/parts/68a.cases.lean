set_option maxHeartbeats 4000000 in
set_option maxRecDepth 100000 in
theorem law_load {p : Program} {l : Launch} {e : Env} {R : Room} {s : State} {m : MethodId} {args : Array Value} {below : List Frame} {meth : Method} {c : Code} {H : Heap} {locs : List Loc} {cells slots : Nat} {Q : State → Prop} {ls : Array Slot} {c0 : Cond} {D : va_G} {cI cJ : ClassId} {A : Nat → Prop} {a : pAd} {b : qAd} {o b0 L i : Nat} {z_xs : Nat → Int32} {σ : z_St} {f : Nat → Int64} (hst : l.stackTraces = false) (K : CallFix p m c b_L_law 7 s args (c0 :: T0) "PortProcessorLaw") (hX : va_X b0 L z_xs s s.heap) (hbl : b0 < s.heap.size) (hbA : ¬ A b0) (hL : L < 2 ^ 31) (hRf : 10 ≤ R.frames) (hRl : 378 ≤ R.locals) (hRc : cells + 1 ≤ R.cells) (hRs : slots + 6 ≤ R.slots) (hZ : pZ A s s.heap) (hI : z_InvS σ) (hw : jW D cI cJ A a b o σ σ f s H locs) (hl : lv_has ls 7 [(4, .int (nI i)), (0, .ref b0), (1, .ref a.1), (2, .ref b.1), (3, .ref o)]) (hi : i + 5 ≤ L) (k : ∀ (τ : z_St) (g : Nat → Int64) (H : Heap) (locs : List Loc) (ls : Array Slot), z_InvS τ → jW D cI cJ A a b o τ τ g s H locs → lv_has ls 7 [(4, .int (nI i)), (0, .ref b0), (1, .ref a.1), (2, .ref b.1), (3, .ref o)] → W p l e R s m args below meth c H locs (cells + 1) (slots + 6) Q (F0 m 657 ls [])) : W p l e R s m args below meth c H locs cells slots Q (F0 m 96 ls []) := by
  obtain ⟨τ, t, ht2, hIt, hth, hk, hq⟩ := op_load (σ := σ) l hst hI (z_xs (i + 1)) (lz (z_xs (i + 2)) (z_xs (i + 3))) (z_xs (i + 4))
  refine lv_aload_n K.1 K.2.1 d_L_law_96 rfl (lv_at hl 2 rfl) ?_
  refine lv_aload_n K.1 K.2.1 d_L_law_97 rfl (lv_at hl 1 rfl) ?_
  refine lv_iload K.1 K.2.1 d_L_law_98 (lv_at hl 0 rfl) ?_
  refine nv_iconst (v := 1) K d_L_law_100 (by decide) ?_
  refine nv_iadd K d_L_law_101 ?_
  refine lsld K hX hbl hbA hw.2.2.1 (by omega) hL d_L_law_102 ?_
  refine lv_aload_n K.1 K.2.1 d_L_law_103 rfl (lv_at hl 1 rfl) ?_
  refine lv_iload K.1 K.2.1 d_L_law_104 (lv_at hl 0 rfl) ?_
  refine nv_iconst (v := 2) K d_L_law_106 (by decide) ?_
  refine nv_iadd K d_L_law_107 ?_
  refine lsld K hX hbl hbA hw.2.2.1 (by omega) hL d_L_law_108 ?_
  refine lv_i2l K.1 K.2.1 d_L_law_109 rfl ?_
  refine nv_bipush (v := 32) K d_L_law_110 (by decide) ?_
  refine lv_lshl K.1 K.2.1 d_L_law_112 rfl ?_
  refine lv_aload_n K.1 K.2.1 d_L_law_113 rfl (lv_at hl 1 rfl) ?_
  refine lv_iload K.1 K.2.1 d_L_law_114 (lv_at hl 0 rfl) ?_
  refine nv_iconst (v := 3) K d_L_law_116 (by decide) ?_
  refine nv_iadd K d_L_law_117 ?_
  refine lsld K hX hbl hbA hw.2.2.1 (by omega) hL d_L_law_118 ?_
  refine lv_i2l K.1 K.2.1 d_L_law_119 rfl ?_
  refine lv_ldc2 (v := lN 4294967295) K.1 K.2.1 K.2.2.2.1 (K.2.2.2.2 _ (List.mem_cons_of_mem _ m_constantLong_PortProcessorLaw_50_4294967295)) d_L_law_120 ?_
  refine lv_land K.1 K.2.1 d_L_law_123 ?_
  refine lv_lor K.1 K.2.1 d_L_law_124 ?_
  refine lv_aload_n K.1 K.2.1 d_L_law_125 rfl (lv_at hl 1 rfl) ?_
  refine lv_iload K.1 K.2.1 d_L_law_126 (lv_at hl 0 rfl) ?_
  refine nv_iconst (v := 4) K d_L_law_128 (by decide) ?_
  refine nv_iadd K d_L_law_129 ?_
  refine lsld K hX hbl hbA hw.2.2.1 (by omega) hL d_L_law_130 ?_
  refine jks K (hk D cI cJ a o f) (cs_L_52 K (Nat.le_trans (by decide) hRf) (Nat.le_trans (by decide) hRl)) hw hZ rfl hl.1 rfl (Nat.le_of_ble_eq_true rfl) d_L_law_131 ⟨hRc, hRs⟩ (fun g H locs hw hV => ?_)
  refine lv_istore (lv' := [(5, .int (nI t)), (4, .int (nI i)), (0, .ref b0), (1, .ref a.1), (2, .ref b.1), (3, .ref o)]) K.1 K.2.1 d_L_law_134 hl (by decide) rfl (fun ls hl => ?_)
  refine lv_aload_n K.1 K.2.1 d_L_law_136 rfl (lv_at hl 4 rfl) ?_
  refine lv_aload_n K.1 K.2.1 d_L_law_137 rfl (lv_at hl 2 rfl) ?_
  refine lv_iload K.1 K.2.1 d_L_law_138 (lv_at hl 1 rfl) ?_
  refine nv_iconst (v := 1) K d_L_law_140 (by decide) ?_
  refine nv_iadd K d_L_law_141 ?_
  refine lsld K hX hbl hbA hw.2.2.1 (by omega) hL d_L_law_142 ?_
  refine lv_aload_n K.1 K.2.1 d_L_law_143 rfl (lv_at hl 2 rfl) ?_
  refine lv_iload K.1 K.2.1 d_L_law_144 (lv_at hl 1 rfl) ?_
  refine nv_iconst (v := 2) K d_L_law_146 (by decide) ?_
  refine nv_iadd K d_L_law_147 ?_
  refine lsld K hX hbl hbA hw.2.2.1 (by omega) hL d_L_law_148 ?_
  refine lv_i2l K.1 K.2.1 d_L_law_149 rfl ?_
  refine nv_bipush (v := 32) K d_L_law_150 (by decide) ?_
  refine lv_lshl K.1 K.2.1 d_L_law_152 rfl ?_
  refine lv_aload_n K.1 K.2.1 d_L_law_153 rfl (lv_at hl 2 rfl) ?_
  refine lv_iload K.1 K.2.1 d_L_law_154 (lv_at hl 1 rfl) ?_
  refine nv_iconst (v := 3) K d_L_law_156 (by decide) ?_
  refine nv_iadd K d_L_law_157 ?_
  refine lsld K hX hbl hbA hw.2.2.1 (by omega) hL d_L_law_158 ?_
  refine lv_i2l K.1 K.2.1 d_L_law_159 rfl ?_
  refine lv_ldc2 (v := lN 4294967295) K.1 K.2.1 K.2.2.2.1 (K.2.2.2.2 _ (List.mem_cons_of_mem _ m_constantLong_PortProcessorLaw_50_4294967295)) d_L_law_160 ?_
  refine lv_land K.1 K.2.1 d_L_law_163 ?_
  refine lv_lor K.1 K.2.1 d_L_law_164 ?_
  refine lv_aload_n K.1 K.2.1 d_L_law_165 rfl (lv_at hl 2 rfl) ?_
  refine lv_iload K.1 K.2.1 d_L_law_166 (lv_at hl 1 rfl) ?_
  refine nv_iconst (v := 4) K d_L_law_168 (by decide) ?_
  refine nv_iadd K d_L_law_169 ?_
  refine lsld K hX hbl hbA hw.2.2.1 (by omega) hL d_L_law_170 ?_
  refine jqv K (hq D cI b) (cv_L_57 K (Nat.le_trans (by decide) hRf) (Nat.le_trans (by decide) hRl)) hw rfl hl.1 rfl (Nat.le_of_ble_eq_true rfl) d_L_law_171 ⟨hRc, hRs⟩ (fun H locs hw => ?_)
  refine lv_aload_n K.1 K.2.1 d_L_law_174 rfl (lv_at hl 4 rfl) ?_
  refine jqi K (r_thrown (σ := τ) l D cI b hIt.1) (cv_L_58 K (Nat.le_trans (by decide) hRf) (Nat.le_trans (by decide) hRl)) hw rfl hl.1 rfl (Nat.le_of_ble_eq_true rfl) d_L_law_175 ⟨Nat.le_trans (Nat.le_refl _) hRc, hRs⟩ (fun H locs hw => ?_)
  rw [hth]
  refine lv_iload K.1 K.2.1 d_L_law_178 (lv_at hl 0 rfl) ?_
  refine nv_icmp_eq K (by omega) (by omega) d_L_law_180 rfl (fun _ => ?_) (fun h => absurd rfl h)
  refine lv_goto K.1 K.2.1 d_L_law_185 rfl ?_
  exact k τ g H locs ls hIt hw (lv_sub hl [1, 2, 3, 4, 5] rfl)
set_option maxHeartbeats 4000000 in
set_option maxRecDepth 100000 in
theorem law_peek {p : Program} {l : Launch} {e : Env} {R : Room} {s : State} {m : MethodId} {args : Array Value} {below : List Frame} {meth : Method} {c : Code} {H : Heap} {locs : List Loc} {cells slots : Nat} {Q : State → Prop} {ls : Array Slot} {c0 : Cond} {D : va_G} {cI cJ : ClassId} {A : Nat → Prop} {a : pAd} {b : qAd} {o b0 L i : Nat} {z_xs : Nat → Int32} {σ : z_St} {f : Nat → Int64} (hst : l.stackTraces = false) (K : CallFix p m c b_L_law 7 s args (c0 :: T0) "PortProcessorLaw") (hX : va_X b0 L z_xs s s.heap) (hbl : b0 < s.heap.size) (hbA : ¬ A b0) (hL : L < 2 ^ 31) (hRf : 10 ≤ R.frames) (hRl : 378 ≤ R.locals) (hRc : cells + 1 ≤ R.cells) (hRs : slots + 6 ≤ R.slots) (hZ : pZ A s s.heap) (hI : z_InvS σ) (hw : jW D cI cJ A a b o σ σ f s H locs) (hl : lv_has ls 7 [(4, .int (nI i)), (0, .ref b0), (1, .ref a.1), (2, .ref b.1), (3, .ref o)]) (hi : i + 5 ≤ L) (k : ∀ (τ : z_St) (g : Nat → Int64) (H : Heap) (locs : List Loc) (ls : Array Slot), z_InvS τ → jW D cI cJ A a b o τ τ g s H locs → lv_has ls 7 [(4, .int (nI i)), (0, .ref b0), (1, .ref a.1), (2, .ref b.1), (3, .ref o)] → W p l e R s m args below meth c H locs (cells + 1) (slots + 6) Q (F0 m 657 ls [])) : W p l e R s m args below meth c H locs cells slots Q (F0 m 188 ls []) := by
  obtain ⟨τ, t, v, ht2, hIt, hth, hk, hq⟩ := op_peek (σ := σ) l hst hI (z_xs (i + 1))
  refine lv_aload_n K.1 K.2.1 d_L_law_188 rfl (lv_at hl 2 rfl) ?_
  refine lv_aload_n K.1 K.2.1 d_L_law_189 rfl (lv_at hl 1 rfl) ?_
  refine lv_iload K.1 K.2.1 d_L_law_190 (lv_at hl 0 rfl) ?_
  refine nv_iconst (v := 1) K d_L_law_192 (by decide) ?_
  refine nv_iadd K d_L_law_193 ?_
  refine lsld K hX hbl hbA hw.2.2.1 (by omega) hL d_L_law_194 ?_
  refine lv_aload_n K.1 K.2.1 d_L_law_195 rfl (lv_at hl 4 rfl) ?_
  refine jks K (hk D cI cJ a o f) (cs_L_62 K (Nat.le_trans (by decide) hRf) (Nat.le_trans (by decide) hRl)) hw hZ rfl hl.1 rfl (Nat.le_of_ble_eq_true rfl) d_L_law_196 ⟨hRc, hRs⟩ (fun g H locs hw hV => ?_)
  refine lv_istore (lv' := [(5, .int (nI t)), (4, .int (nI i)), (0, .ref b0), (1, .ref a.1), (2, .ref b.1), (3, .ref o)]) K.1 K.2.1 d_L_law_199 hl (by decide) rfl (fun ls hl => ?_)
  refine lv_aload_n K.1 K.2.1 d_L_law_201 rfl (lv_at hl 4 rfl) ?_
  refine lv_aload_n K.1 K.2.1 d_L_law_202 rfl (lv_at hl 2 rfl) ?_
  refine lv_iload K.1 K.2.1 d_L_law_203 (lv_at hl 1 rfl) ?_
  refine nv_iconst (v := 1) K d_L_law_205 (by decide) ?_
  refine nv_iadd K d_L_law_206 ?_
  refine lsld K hX hbl hbA hw.2.2.1 (by omega) hL d_L_law_207 ?_
  refine jqi K (hq D cI b) (cv_L_65 K (Nat.le_trans (by decide) hRf) (Nat.le_trans (by decide) hRl)) hw rfl hl.1 rfl (Nat.le_of_ble_eq_true rfl) d_L_law_208 ⟨hRc, hRs⟩ (fun H locs hw => ?_)
  refine lv_istore (lv' := [(6, .int v), (5, .int (nI t)), (4, .int (nI i)), (0, .ref b0), (1, .ref a.1), (2, .ref b.1), (3, .ref o)]) K.1 K.2.1 d_L_law_211 hl (by decide) rfl (fun ls hl => ?_)
  refine lv_aload_n K.1 K.2.1 d_L_law_213 rfl (lv_at hl 5 rfl) ?_
  refine jqi K (r_thrown (σ := τ) l D cI b hIt.1) (cv_L_58 K (Nat.le_trans (by decide) hRf) (Nat.le_trans (by decide) hRl)) hw rfl hl.1 rfl (Nat.le_of_ble_eq_true rfl) d_L_law_214 ⟨Nat.le_trans (Nat.le_refl _) hRc, hRs⟩ (fun H locs hw => ?_)
  rw [hth]
  refine lv_iload K.1 K.2.1 d_L_law_217 (lv_at hl 1 rfl) ?_
  refine nv_icmp_eq K (by omega) (by omega) d_L_law_219 rfl (fun _ => ?_) (fun h => absurd rfl h)
  refine lv_iload K.1 K.2.1 d_L_law_224 (lv_at hl 1 rfl) ?_
  refine nv_if_ne K (by omega) d_L_law_226 rfl (fun h => ?_) (fun h => ?_)
  · refine lv_goto K.1 K.2.1 d_L_law_241 rfl ?_
    exact k τ g H locs ls hIt hw (lv_sub hl [2, 3, 4, 5, 6] rfl)
  · refine lv_aload_n K.1 K.2.1 d_L_law_229 rfl (lv_at hl 6 rfl) ?_
    refine nv_iconst (v := 0) K d_L_law_230 (by decide) ?_
    refine jlald K hw d_L_law_231 ?_
    rw [hV h]
    refine lv_iload K.1 K.2.1 d_L_law_232 (lv_at hl 0 rfl) ?_
    refine lv_i2l K.1 K.2.1 d_L_law_234 rfl ?_
    refine lcmp0 K d_L_law_235 d_L_law_236 rfl ?_
    refine lv_goto K.1 K.2.1 d_L_law_241 rfl ?_
    exact k τ g H locs ls hIt hw (lv_sub hl [2, 3, 4, 5, 6] rfl)
set_option maxHeartbeats 4000000 in
set_option maxRecDepth 100000 in
theorem law_start {p : Program} {l : Launch} {e : Env} {R : Room} {s : State} {m : MethodId} {args : Array Value} {below : List Frame} {meth : Method} {c : Code} {H : Heap} {locs : List Loc} {cells slots : Nat} {Q : State → Prop} {ls : Array Slot} {c0 : Cond} {D : va_G} {cI cJ : ClassId} {A : Nat → Prop} {a : pAd} {b : qAd} {o b0 L i : Nat} {z_xs : Nat → Int32} {σ : z_St} {f : Nat → Int64} (hst : l.stackTraces = false) (K : CallFix p m c b_L_law 7 s args (c0 :: T0) "PortProcessorLaw") (hX : va_X b0 L z_xs s s.heap) (hbl : b0 < s.heap.size) (hbA : ¬ A b0) (hL : L < 2 ^ 31) (hRf : 10 ≤ R.frames) (hRl : 378 ≤ R.locals) (hRc : cells + 1 ≤ R.cells) (hRs : slots + 6 ≤ R.slots) (hZ : pZ A s s.heap) (hI : z_InvS σ) (hw : jW D cI cJ A a b o σ σ f s H locs) (hl : lv_has ls 7 [(4, .int (nI i)), (0, .ref b0), (1, .ref a.1), (2, .ref b.1), (3, .ref o)]) (hi : i + 5 ≤ L) (k : ∀ (τ : z_St) (g : Nat → Int64) (H : Heap) (locs : List Loc) (ls : Array Slot), z_InvS τ → jW D cI cJ A a b o τ τ g s H locs → lv_has ls 7 [(4, .int (nI i)), (0, .ref b0), (1, .ref a.1), (2, .ref b.1), (3, .ref o)] → W p l e R s m args below meth c H locs (cells + 1) (slots + 6) Q (F0 m 657 ls [])) : W p l e R s m args below meth c H locs cells slots Q (F0 m 244 ls []) := by
  obtain ⟨τ, t, ht2, hIt, hth, hk, hq⟩ := op_start (σ := σ) l hst hI (z_xs (i + 1))
  refine lv_aload_n K.1 K.2.1 d_L_law_244 rfl (lv_at hl 2 rfl) ?_
  refine lv_aload_n K.1 K.2.1 d_L_law_245 rfl (lv_at hl 1 rfl) ?_
  refine lv_iload K.1 K.2.1 d_L_law_246 (lv_at hl 0 rfl) ?_
  refine nv_iconst (v := 1) K d_L_law_248 (by decide) ?_
  refine nv_iadd K d_L_law_249 ?_
  refine lsld K hX hbl hbA hw.2.2.1 (by omega) hL d_L_law_250 ?_
  refine jks K (hk D cI cJ a o f) (cs_L_66 K (Nat.le_trans (by decide) hRf) (Nat.le_trans (by decide) hRl)) hw hZ rfl hl.1 rfl (Nat.le_of_ble_eq_true rfl) d_L_law_251 ⟨hRc, hRs⟩ (fun g H locs hw hV => ?_)
  refine lv_istore (lv' := [(5, .int (nI t)), (4, .int (nI i)), (0, .ref b0), (1, .ref a.1), (2, .ref b.1), (3, .ref o)]) K.1 K.2.1 d_L_law_254 hl (by decide) rfl (fun ls hl => ?_)
  refine lv_aload_n K.1 K.2.1 d_L_law_256 rfl (lv_at hl 4 rfl) ?_
  refine lv_aload_n K.1 K.2.1 d_L_law_257 rfl (lv_at hl 2 rfl) ?_
  refine lv_iload K.1 K.2.1 d_L_law_258 (lv_at hl 1 rfl) ?_
  refine nv_iconst (v := 1) K d_L_law_260 (by decide) ?_
  refine nv_iadd K d_L_law_261 ?_
  refine lsld K hX hbl hbA hw.2.2.1 (by omega) hL d_L_law_262 ?_
  refine jqv K (hq D cI b) (cv_L_69 K (Nat.le_trans (by decide) hRf) (Nat.le_trans (by decide) hRl)) hw rfl hl.1 rfl (Nat.le_of_ble_eq_true rfl) d_L_law_263 ⟨hRc, hRs⟩ (fun H locs hw => ?_)
  refine lv_aload_n K.1 K.2.1 d_L_law_266 rfl (lv_at hl 4 rfl) ?_
  refine jqi K (r_thrown (σ := τ) l D cI b hIt.1) (cv_L_58 K (Nat.le_trans (by decide) hRf) (Nat.le_trans (by decide) hRl)) hw rfl hl.1 rfl (Nat.le_of_ble_eq_true rfl) d_L_law_267 ⟨Nat.le_trans (Nat.le_refl _) hRc, hRs⟩ (fun H locs hw => ?_)
  rw [hth]
  refine lv_iload K.1 K.2.1 d_L_law_270 (lv_at hl 0 rfl) ?_
  refine nv_icmp_eq K (by omega) (by omega) d_L_law_272 rfl (fun _ => ?_) (fun h => absurd rfl h)
  refine lv_goto K.1 K.2.1 d_L_law_277 rfl ?_
  exact k τ g H locs ls hIt hw (lv_sub hl [1, 2, 3, 4, 5] rfl)
set_option maxHeartbeats 4000000 in
set_option maxRecDepth 100000 in
theorem law_run {p : Program} {l : Launch} {e : Env} {R : Room} {s : State} {m : MethodId} {args : Array Value} {below : List Frame} {meth : Method} {c : Code} {H : Heap} {locs : List Loc} {cells slots : Nat} {Q : State → Prop} {ls : Array Slot} {c0 : Cond} {D : va_G} {cI cJ : ClassId} {A : Nat → Prop} {a : pAd} {b : qAd} {o b0 L i : Nat} {z_xs : Nat → Int32} {σ : z_St} {f : Nat → Int64} (hst : l.stackTraces = false) (K : CallFix p m c b_L_law 7 s args (c0 :: T0) "PortProcessorLaw") (hX : va_X b0 L z_xs s s.heap) (hbl : b0 < s.heap.size) (hbA : ¬ A b0) (hL : L < 2 ^ 31) (hRf : 10 ≤ R.frames) (hRl : 378 ≤ R.locals) (hRc : cells + 1 ≤ R.cells) (hRs : slots + 6 ≤ R.slots) (hZ : pZ A s s.heap) (hI : z_InvS σ) (hw : jW D cI cJ A a b o σ σ f s H locs) (hl : lv_has ls 7 [(4, .int (nI i)), (0, .ref b0), (1, .ref a.1), (2, .ref b.1), (3, .ref o)]) (hi : i + 5 ≤ L) (k : ∀ (τ : z_St) (g : Nat → Int64) (H : Heap) (locs : List Loc) (ls : Array Slot), z_InvS τ → jW D cI cJ A a b o τ τ g s H locs → lv_has ls 7 [(4, .int (nI i)), (0, .ref b0), (1, .ref a.1), (2, .ref b.1), (3, .ref o)] → W p l e R s m args below meth c H locs (cells + 1) (slots + 6) Q (F0 m 657 ls [])) : W p l e R s m args below meth c H locs cells slots Q (F0 m 280 ls []) := by
  obtain ⟨τ, t, v, ht2, hIt, hth, hk, hq⟩ := op_run (σ := σ) l hst hI (z_xs (i + 1))
  refine lv_aload_n K.1 K.2.1 d_L_law_280 rfl (lv_at hl 2 rfl) ?_
  refine lv_aload_n K.1 K.2.1 d_L_law_281 rfl (lv_at hl 1 rfl) ?_
  refine lv_iload K.1 K.2.1 d_L_law_282 (lv_at hl 0 rfl) ?_
  refine nv_iconst (v := 1) K d_L_law_284 (by decide) ?_
  refine nv_iadd K d_L_law_285 ?_
  refine lsld K hX hbl hbA hw.2.2.1 (by omega) hL d_L_law_286 ?_
  refine lv_aload_n K.1 K.2.1 d_L_law_287 rfl (lv_at hl 4 rfl) ?_
  refine jks K (hk D cI cJ a o f) (cs_L_70 K (Nat.le_trans (by decide) hRf) (Nat.le_trans (by decide) hRl)) hw hZ rfl hl.1 rfl (Nat.le_of_ble_eq_true rfl) d_L_law_288 ⟨hRc, hRs⟩ (fun g H locs hw hV => ?_)
  refine lv_istore (lv' := [(5, .int (nI t)), (4, .int (nI i)), (0, .ref b0), (1, .ref a.1), (2, .ref b.1), (3, .ref o)]) K.1 K.2.1 d_L_law_291 hl (by decide) rfl (fun ls hl => ?_)
  refine lv_aload_n K.1 K.2.1 d_L_law_293 rfl (lv_at hl 4 rfl) ?_
  refine lv_aload_n K.1 K.2.1 d_L_law_294 rfl (lv_at hl 2 rfl) ?_
  refine lv_iload K.1 K.2.1 d_L_law_295 (lv_at hl 1 rfl) ?_
  refine nv_iconst (v := 1) K d_L_law_297 (by decide) ?_
  refine nv_iadd K d_L_law_298 ?_
  refine lsld K hX hbl hbA hw.2.2.1 (by omega) hL d_L_law_299 ?_
  refine jqi K (hq D cI b) (cv_L_72 K (Nat.le_trans (by decide) hRf) (Nat.le_trans (by decide) hRl)) hw rfl hl.1 rfl (Nat.le_of_ble_eq_true rfl) d_L_law_300 ⟨hRc, hRs⟩ (fun H locs hw => ?_)
  refine lv_istore (lv' := [(6, .int v), (5, .int (nI t)), (4, .int (nI i)), (0, .ref b0), (1, .ref a.1), (2, .ref b.1), (3, .ref o)]) K.1 K.2.1 d_L_law_303 hl (by decide) rfl (fun ls hl => ?_)
  refine lv_aload_n K.1 K.2.1 d_L_law_305 rfl (lv_at hl 5 rfl) ?_
  refine jqi K (r_thrown (σ := τ) l D cI b hIt.1) (cv_L_58 K (Nat.le_trans (by decide) hRf) (Nat.le_trans (by decide) hRl)) hw rfl hl.1 rfl (Nat.le_of_ble_eq_true rfl) d_L_law_306 ⟨Nat.le_trans (Nat.le_refl _) hRc, hRs⟩ (fun H locs hw => ?_)
  rw [hth]
  refine lv_iload K.1 K.2.1 d_L_law_309 (lv_at hl 1 rfl) ?_
  refine nv_icmp_eq K (by omega) (by omega) d_L_law_311 rfl (fun _ => ?_) (fun h => absurd rfl h)
  refine lv_iload K.1 K.2.1 d_L_law_316 (lv_at hl 1 rfl) ?_
  refine nv_if_ne K (by omega) d_L_law_318 rfl (fun h => ?_) (fun h => ?_)
  · refine lv_goto K.1 K.2.1 d_L_law_333 rfl ?_
    exact k τ g H locs ls hIt hw (lv_sub hl [2, 3, 4, 5, 6] rfl)
  · refine lv_aload_n K.1 K.2.1 d_L_law_321 rfl (lv_at hl 6 rfl) ?_
    refine nv_iconst (v := 0) K d_L_law_322 (by decide) ?_
    refine jlald K hw d_L_law_323 ?_
    rw [hV h]
    refine lv_iload K.1 K.2.1 d_L_law_324 (lv_at hl 0 rfl) ?_
    refine lv_i2l K.1 K.2.1 d_L_law_326 rfl ?_
    refine lcmp0 K d_L_law_327 d_L_law_328 rfl ?_
    refine lv_goto K.1 K.2.1 d_L_law_333 rfl ?_
    exact k τ g H locs ls hIt hw (lv_sub hl [2, 3, 4, 5, 6] rfl)
set_option maxHeartbeats 4000000 in
set_option maxRecDepth 100000 in
theorem law_interrupt {p : Program} {l : Launch} {e : Env} {R : Room} {s : State} {m : MethodId} {args : Array Value} {below : List Frame} {meth : Method} {c : Code} {H : Heap} {locs : List Loc} {cells slots : Nat} {Q : State → Prop} {ls : Array Slot} {c0 : Cond} {D : va_G} {cI cJ : ClassId} {A : Nat → Prop} {a : pAd} {b : qAd} {o b0 L i : Nat} {z_xs : Nat → Int32} {σ : z_St} {f : Nat → Int64} (hst : l.stackTraces = false) (K : CallFix p m c b_L_law 7 s args (c0 :: T0) "PortProcessorLaw") (hX : va_X b0 L z_xs s s.heap) (hbl : b0 < s.heap.size) (hbA : ¬ A b0) (hL : L < 2 ^ 31) (hRf : 10 ≤ R.frames) (hRl : 378 ≤ R.locals) (hRc : cells + 1 ≤ R.cells) (hRs : slots + 6 ≤ R.slots) (hZ : pZ A s s.heap) (hI : z_InvS σ) (hw : jW D cI cJ A a b o σ σ f s H locs) (hl : lv_has ls 7 [(4, .int (nI i)), (0, .ref b0), (1, .ref a.1), (2, .ref b.1), (3, .ref o)]) (hi : i + 5 ≤ L) (k : ∀ (τ : z_St) (g : Nat → Int64) (H : Heap) (locs : List Loc) (ls : Array Slot), z_InvS τ → jW D cI cJ A a b o τ τ g s H locs → lv_has ls 7 [(4, .int (nI i)), (0, .ref b0), (1, .ref a.1), (2, .ref b.1), (3, .ref o)] → W p l e R s m args below meth c H locs (cells + 1) (slots + 6) Q (F0 m 657 ls [])) : W p l e R s m args below meth c H locs cells slots Q (F0 m 336 ls []) := by
  obtain ⟨τ, t, ht2, hIt, hth, hk, hq⟩ := op_interrupt (σ := σ) l hst hI (z_xs (i + 1))
  refine lv_aload_n K.1 K.2.1 d_L_law_336 rfl (lv_at hl 2 rfl) ?_
  refine lv_aload_n K.1 K.2.1 d_L_law_337 rfl (lv_at hl 1 rfl) ?_
  refine lv_iload K.1 K.2.1 d_L_law_338 (lv_at hl 0 rfl) ?_
  refine nv_iconst (v := 1) K d_L_law_340 (by decide) ?_
  refine nv_iadd K d_L_law_341 ?_
  refine lsld K hX hbl hbA hw.2.2.1 (by omega) hL d_L_law_342 ?_
  refine jks K (hk D cI cJ a o f) (cs_L_73 K (Nat.le_trans (by decide) hRf) (Nat.le_trans (by decide) hRl)) hw hZ rfl hl.1 rfl (Nat.le_of_ble_eq_true rfl) d_L_law_343 ⟨hRc, hRs⟩ (fun g H locs hw hV => ?_)
  refine lv_istore (lv' := [(5, .int (nI t)), (4, .int (nI i)), (0, .ref b0), (1, .ref a.1), (2, .ref b.1), (3, .ref o)]) K.1 K.2.1 d_L_law_346 hl (by decide) rfl (fun ls hl => ?_)
  refine lv_aload_n K.1 K.2.1 d_L_law_348 rfl (lv_at hl 4 rfl) ?_
  refine lv_aload_n K.1 K.2.1 d_L_law_349 rfl (lv_at hl 2 rfl) ?_
  refine lv_iload K.1 K.2.1 d_L_law_350 (lv_at hl 1 rfl) ?_
  refine nv_iconst (v := 1) K d_L_law_352 (by decide) ?_
  refine nv_iadd K d_L_law_353 ?_
  refine lsld K hX hbl hbA hw.2.2.1 (by omega) hL d_L_law_354 ?_
  refine jqv K (hq D cI b) (cv_L_75 K (Nat.le_trans (by decide) hRf) (Nat.le_trans (by decide) hRl)) hw rfl hl.1 rfl (Nat.le_of_ble_eq_true rfl) d_L_law_355 ⟨hRc, hRs⟩ (fun H locs hw => ?_)
  refine lv_aload_n K.1 K.2.1 d_L_law_358 rfl (lv_at hl 4 rfl) ?_
  refine jqi K (r_thrown (σ := τ) l D cI b hIt.1) (cv_L_58 K (Nat.le_trans (by decide) hRf) (Nat.le_trans (by decide) hRl)) hw rfl hl.1 rfl (Nat.le_of_ble_eq_true rfl) d_L_law_359 ⟨Nat.le_trans (Nat.le_refl _) hRc, hRs⟩ (fun H locs hw => ?_)
  rw [hth]
  refine lv_iload K.1 K.2.1 d_L_law_362 (lv_at hl 0 rfl) ?_
  refine nv_icmp_eq K (by omega) (by omega) d_L_law_364 rfl (fun _ => ?_) (fun h => absurd rfl h)
  refine lv_goto K.1 K.2.1 d_L_law_369 rfl ?_
  exact k τ g H locs ls hIt hw (lv_sub hl [1, 2, 3, 4, 5] rfl)

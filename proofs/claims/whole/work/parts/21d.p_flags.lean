theorem d_I_bitCount_0 : decode b_I_bitCount 0 = .ok (.iload_n 0, 1) := by decide +kernel
theorem d_I_bitCount_1 : decode b_I_bitCount 1 = .ok (.iload_n 0, 1) := by decide +kernel
theorem d_I_bitCount_2 : decode b_I_bitCount 2 = .ok (.iconst 1, 1) := by decide +kernel
theorem d_I_bitCount_3 : decode b_I_bitCount 3 = .ok (.iushr, 1) := by decide +kernel
theorem d_I_bitCount_4 : decode b_I_bitCount 4 = .ok (.ldc_w 265, 3) := by decide +kernel
theorem d_I_bitCount_7 : decode b_I_bitCount 7 = .ok (.iand, 1) := by decide +kernel
theorem d_I_bitCount_8 : decode b_I_bitCount 8 = .ok (.isub, 1) := by decide +kernel
theorem d_I_bitCount_9 : decode b_I_bitCount 9 = .ok (.istore_n 0, 1) := by decide +kernel
theorem d_I_bitCount_10 : decode b_I_bitCount 10 = .ok (.iload_n 0, 1) := by decide +kernel
theorem d_I_bitCount_11 : decode b_I_bitCount 11 = .ok (.ldc_w 266, 3) := by decide +kernel
theorem d_I_bitCount_14 : decode b_I_bitCount 14 = .ok (.iand, 1) := by decide +kernel
theorem d_I_bitCount_15 : decode b_I_bitCount 15 = .ok (.iload_n 0, 1) := by decide +kernel
theorem d_I_bitCount_16 : decode b_I_bitCount 16 = .ok (.iconst 2, 1) := by decide +kernel
theorem d_I_bitCount_17 : decode b_I_bitCount 17 = .ok (.iushr, 1) := by decide +kernel
theorem d_I_bitCount_18 : decode b_I_bitCount 18 = .ok (.ldc_w 266, 3) := by decide +kernel
theorem d_I_bitCount_21 : decode b_I_bitCount 21 = .ok (.iand, 1) := by decide +kernel
theorem d_I_bitCount_22 : decode b_I_bitCount 22 = .ok (.iadd, 1) := by decide +kernel
theorem d_I_bitCount_23 : decode b_I_bitCount 23 = .ok (.istore_n 0, 1) := by decide +kernel
theorem d_I_bitCount_24 : decode b_I_bitCount 24 = .ok (.iload_n 0, 1) := by decide +kernel
theorem d_I_bitCount_25 : decode b_I_bitCount 25 = .ok (.iload_n 0, 1) := by decide +kernel
theorem d_I_bitCount_26 : decode b_I_bitCount 26 = .ok (.iconst 4, 1) := by decide +kernel
theorem d_I_bitCount_27 : decode b_I_bitCount 27 = .ok (.iushr, 1) := by decide +kernel
theorem d_I_bitCount_28 : decode b_I_bitCount 28 = .ok (.iadd, 1) := by decide +kernel
theorem d_I_bitCount_29 : decode b_I_bitCount 29 = .ok (.ldc_w 267, 3) := by decide +kernel
theorem d_I_bitCount_32 : decode b_I_bitCount 32 = .ok (.iand, 1) := by decide +kernel
theorem d_I_bitCount_33 : decode b_I_bitCount 33 = .ok (.istore_n 0, 1) := by decide +kernel
theorem d_I_bitCount_34 : decode b_I_bitCount 34 = .ok (.iload_n 0, 1) := by decide +kernel
theorem d_I_bitCount_35 : decode b_I_bitCount 35 = .ok (.iload_n 0, 1) := by decide +kernel
theorem d_I_bitCount_36 : decode b_I_bitCount 36 = .ok (.bipush 8, 2) := by decide +kernel
theorem d_I_bitCount_38 : decode b_I_bitCount 38 = .ok (.iushr, 1) := by decide +kernel
theorem d_I_bitCount_39 : decode b_I_bitCount 39 = .ok (.iadd, 1) := by decide +kernel
theorem d_I_bitCount_40 : decode b_I_bitCount 40 = .ok (.istore_n 0, 1) := by decide +kernel
theorem d_I_bitCount_41 : decode b_I_bitCount 41 = .ok (.iload_n 0, 1) := by decide +kernel
theorem d_I_bitCount_42 : decode b_I_bitCount 42 = .ok (.iload_n 0, 1) := by decide +kernel
theorem d_I_bitCount_43 : decode b_I_bitCount 43 = .ok (.bipush 16, 2) := by decide +kernel
theorem d_I_bitCount_45 : decode b_I_bitCount 45 = .ok (.iushr, 1) := by decide +kernel
theorem d_I_bitCount_46 : decode b_I_bitCount 46 = .ok (.iadd, 1) := by decide +kernel
theorem d_I_bitCount_47 : decode b_I_bitCount 47 = .ok (.istore_n 0, 1) := by decide +kernel
theorem d_I_bitCount_48 : decode b_I_bitCount 48 = .ok (.iload_n 0, 1) := by decide +kernel
theorem d_I_bitCount_49 : decode b_I_bitCount 49 = .ok (.bipush 63, 2) := by decide +kernel
theorem d_I_bitCount_51 : decode b_I_bitCount 51 = .ok (.iand, 1) := by decide +kernel
theorem d_I_bitCount_52 : decode b_I_bitCount 52 = .ok (.ireturn, 1) := by decide +kernel
def bz1 (x : Int32) : Int32 := x - ((x.toUInt32 >>> ((nI 1).toUInt32 &&& Int32.toUInt32 31)).toInt32 &&& nI 1431655765)
def bz2 (x : Int32) : Int32 := (x &&& nI 858993459) + ((x.toUInt32 >>> ((nI 2).toUInt32 &&& Int32.toUInt32 31)).toInt32 &&& nI 858993459)
def bz3 (x : Int32) : Int32 := (x + (x.toUInt32 >>> ((nI 4).toUInt32 &&& Int32.toUInt32 31)).toInt32) &&& nI 252645135
def bz4 (x : Int32) : Int32 := x + (x.toUInt32 >>> ((nI 8).toUInt32 &&& Int32.toUInt32 31)).toInt32
def bz5 (x : Int32) : Int32 := x + (x.toUInt32 >>> ((nI 16).toUInt32 &&& Int32.toUInt32 31)).toInt32
theorem bz_ok : ∀ v, v < 256 → bz5 (bz4 (bz3 (bz2 (bz1 (nI v))))) &&& nI 63 = nI (z_pc_ v) := by decide +kernel
set_option maxHeartbeats 4000000 in
set_option maxRecDepth 100000 in
theorem c_bitCount {σ : z_St} {v : Nat} (l : Launch) (D : va_G) (cI : ClassId) (a : pAd) (hO : z_Ok σ) (hv : v < 256) : pCi l y_I_bitCount w_I_bitCount 0 0 D cI a [.int (nI v)] σ σ (nI (z_pc_ v)) := by
  refine pci_of (cc := b_I_bitCount) (maxL := 1) (ret := (some .int)) (by decide) rfl (Nat.le_of_ble_eq_true rfl) ?_
  intro p e s m below meth c ls K hr hlk hl hw
  have K : CallFix p m c b_I_bitCount 1 s _ (_ :: T0) "java/lang/Integer" := K
  have hl : lv_has ls 1 [(0, .int (nI v))] := hl
  refine lv_iload_n K.1 K.2.1 d_I_bitCount_0 rfl (lv_at hl 0 rfl) ?_
  refine lv_iload_n K.1 K.2.1 d_I_bitCount_1 rfl (lv_at hl 0 rfl) ?_
  refine nv_iconst (v := 1) K d_I_bitCount_2 (by decide) ?_
  refine lv_iushr K.1 K.2.1 d_I_bitCount_3 rfl ?_
  refine lv_ldcw (v := nI 1431655765) K.1 K.2.1 K.2.2.2.1 (K.2.2.2.2 _ (List.mem_cons_of_mem _ m_constant_java_lang_Integer_265_1431655765)) d_I_bitCount_4 ?_
  refine lv_iand K.1 K.2.1 d_I_bitCount_7 ?_
  refine lv_isub K.1 K.2.1 d_I_bitCount_8 ?_
  refine nv_as K (y := bz1 (nI v)) rfl ?_
  refine lv_istore_n (lv' := [(0, .int (bz1 (nI v)))]) K.1 K.2.1 d_I_bitCount_9 rfl hl (by decide) rfl (fun ls hl => ?_)
  refine lv_iload_n K.1 K.2.1 d_I_bitCount_10 rfl (lv_at hl 0 rfl) ?_
  refine lv_ldcw (v := nI 858993459) K.1 K.2.1 K.2.2.2.1 (K.2.2.2.2 _ (List.mem_cons_of_mem _ m_constant_java_lang_Integer_266_858993459)) d_I_bitCount_11 ?_
  refine lv_iand K.1 K.2.1 d_I_bitCount_14 ?_
  refine lv_iload_n K.1 K.2.1 d_I_bitCount_15 rfl (lv_at hl 0 rfl) ?_
  refine nv_iconst (v := 2) K d_I_bitCount_16 (by decide) ?_
  refine lv_iushr K.1 K.2.1 d_I_bitCount_17 rfl ?_
  refine lv_ldcw (v := nI 858993459) K.1 K.2.1 K.2.2.2.1 (K.2.2.2.2 _ (List.mem_cons_of_mem _ m_constant_java_lang_Integer_266_858993459)) d_I_bitCount_18 ?_
  refine lv_iand K.1 K.2.1 d_I_bitCount_21 ?_
  refine lv_iadd K.1 K.2.1 d_I_bitCount_22 ?_
  refine nv_as K (y := bz2 (bz1 (nI v))) rfl ?_
  refine lv_istore_n (lv' := [(0, .int (bz2 (bz1 (nI v))))]) K.1 K.2.1 d_I_bitCount_23 rfl hl (by decide) rfl (fun ls hl => ?_)
  refine lv_iload_n K.1 K.2.1 d_I_bitCount_24 rfl (lv_at hl 0 rfl) ?_
  refine lv_iload_n K.1 K.2.1 d_I_bitCount_25 rfl (lv_at hl 0 rfl) ?_
  refine nv_iconst (v := 4) K d_I_bitCount_26 (by decide) ?_
  refine lv_iushr K.1 K.2.1 d_I_bitCount_27 rfl ?_
  refine lv_iadd K.1 K.2.1 d_I_bitCount_28 ?_
  refine lv_ldcw (v := nI 252645135) K.1 K.2.1 K.2.2.2.1 (K.2.2.2.2 _ (List.mem_cons_of_mem _ m_constant_java_lang_Integer_267_252645135)) d_I_bitCount_29 ?_
  refine lv_iand K.1 K.2.1 d_I_bitCount_32 ?_
  refine nv_as K (y := bz3 (bz2 (bz1 (nI v)))) rfl ?_
  refine lv_istore_n (lv' := [(0, .int (bz3 (bz2 (bz1 (nI v)))))]) K.1 K.2.1 d_I_bitCount_33 rfl hl (by decide) rfl (fun ls hl => ?_)
  refine lv_iload_n K.1 K.2.1 d_I_bitCount_34 rfl (lv_at hl 0 rfl) ?_
  refine lv_iload_n K.1 K.2.1 d_I_bitCount_35 rfl (lv_at hl 0 rfl) ?_
  refine nv_bipush (v := 8) K d_I_bitCount_36 (by decide) ?_
  refine lv_iushr K.1 K.2.1 d_I_bitCount_38 rfl ?_
  refine lv_iadd K.1 K.2.1 d_I_bitCount_39 ?_
  refine nv_as K (y := bz4 (bz3 (bz2 (bz1 (nI v))))) rfl ?_
  refine lv_istore_n (lv' := [(0, .int (bz4 (bz3 (bz2 (bz1 (nI v))))))]) K.1 K.2.1 d_I_bitCount_40 rfl hl (by decide) rfl (fun ls hl => ?_)
  refine lv_iload_n K.1 K.2.1 d_I_bitCount_41 rfl (lv_at hl 0 rfl) ?_
  refine lv_iload_n K.1 K.2.1 d_I_bitCount_42 rfl (lv_at hl 0 rfl) ?_
  refine nv_bipush (v := 16) K d_I_bitCount_43 (by decide) ?_
  refine lv_iushr K.1 K.2.1 d_I_bitCount_45 rfl ?_
  refine lv_iadd K.1 K.2.1 d_I_bitCount_46 ?_
  refine nv_as K (y := bz5 (bz4 (bz3 (bz2 (bz1 (nI v)))))) rfl ?_
  refine lv_istore_n (lv' := [(0, .int (bz5 (bz4 (bz3 (bz2 (bz1 (nI v)))))))]) K.1 K.2.1 d_I_bitCount_47 rfl hl (by decide) rfl (fun ls hl => ?_)
  refine lv_iload_n K.1 K.2.1 d_I_bitCount_48 rfl (lv_at hl 0 rfl) ?_
  refine nv_bipush (v := 63) K d_I_bitCount_49 (by decide) ?_
  refine lv_iand K.1 K.2.1 d_I_bitCount_51 ?_
  exact pri K hr hlk hw rfl (bz_ok v hv) d_I_bitCount_52

set_option maxHeartbeats 4000000 in
set_option maxRecDepth 100000 in
theorem c_judge {σ : z_St} {v : Nat} (l : Launch) (D : va_G) (cI : ClassId) (a : pAd) (hO : z_Ok σ) (hv : v < 256) : pCv l y_F_judge w_F_judge 1 20 D cI a [.ref a.2.2.1, .int (nI v)] σ (z_jd σ v) := by
  refine pcv_of (cc := b_F_judge) (maxL := 2) (ret := none) (by decide) rfl (Nat.le_of_ble_eq_true rfl) ?_
  intro p e s m below meth c ls K hr hlk hl hw
  have K : CallFix p m c b_F_judge 2 s _ (_ :: T0) "PortProcessor$Flags" := K
  have hl : lv_has ls 2 [(0, .ref a.2.2.1), (1, .int (nI v))] := hl
  refine lv_aload_n K.1 K.2.1 d_F_judge_0 rfl (lv_at hl 0 rfl) ?_
  refine lv_iload_n K.1 K.2.1 d_F_judge_1 rfl (lv_at hl 1 rfl) ?_
  refine nv_sipush (v := 128) K d_F_judge_2 (by decide) ?_
  refine nv_iand K d_F_judge_5 ?_
  have hb1 : v &&& 128 ≤ 128 := Nat.and_le_right
  refine nf_if_eq (u := 0) (v := 1) (Y := 14) K (by omega) d_F_judge_6 rfl (fun _ k => nv_iconst (v := 0) K d_F_judge_13 (by decide) k) (fun _ k => nv_iconst (v := 1) K d_F_judge_9 (by decide) (lv_goto K.1 K.2.1 d_F_judge_10 rfl k)) ?_
  have hb2 : (if (v &&& 128) = 0 then 0 else 1) < 2 := z_ite_ltB _ (by omega) (by omega)
  refine pp_F_sign (v := (if (v &&& 128) = 0 then 0 else 1)) K hw (by omega) d_F_judge_14 (fun H locs hw => ?_)
  have hO3 : z_Ok (z_s_sg σ (if (v &&& 128) = 0 then 0 else 1)) := z_ok_sg hO (by omega)
  refine lv_aload_n K.1 K.2.1 d_F_judge_17 rfl (lv_at hl 0 rfl) ?_
  refine lv_iload_n K.1 K.2.1 d_F_judge_18 rfl (lv_at hl 1 rfl) ?_
  refine nf_if_ne (u := 0) (v := 1) (Y := 27) K (by omega) d_F_judge_19 rfl (fun _ k => nv_iconst (v := 0) K d_F_judge_26 (by decide) k) (fun _ k => nv_iconst (v := 1) K d_F_judge_22 (by decide) (lv_goto K.1 K.2.1 d_F_judge_23 rfl k)) ?_
  have hb4 : (if v = 0 then 1 else 0) < 2 := z_ite_ltB _ (by omega) (by omega)
  refine pp_F_zero (v := (if v = 0 then 1 else 0)) K hw (by omega) d_F_judge_27 (fun H locs hw => ?_)
  have hO5 : z_Ok (z_s_ze (z_s_sg σ (if (v &&& 128) = 0 then 0 else 1)) (if v = 0 then 1 else 0)) := z_ok_ze hO3 (by omega)
  refine lv_aload_n K.1 K.2.1 d_F_judge_30 rfl (lv_at hl 0 rfl) ?_
  refine lv_iload_n K.1 K.2.1 d_F_judge_31 rfl (lv_at hl 1 rfl) ?_
  refine psi K (c_bitCount (σ := z_s_ze (z_s_sg σ (if (v &&& 128) = 0 then 0 else 1)) (if v = 0 then 1 else 0)) (v := v) l D cI a hO5 (by omega)) (cw_F_50 K (Nat.le_of_ble_eq_true rfl) (Nat.le_of_ble_eq_true rfl)) hw rfl hl.1 rfl (Nat.le_of_ble_eq_true rfl) d_F_judge_32 ⟨Nat.zero_le _, Nat.zero_le _⟩ (fun H locs hw => ?_)
  have hb6 : z_pc_ v < 9 := z_pc_lt _
  refine nv_iconst (v := 1) K d_F_judge_35 (by decide) ?_
  refine nv_mask (M := 2) K 1 rfl rfl d_F_judge_36 ?_
  refine nf_if_ne (u := 0) (v := 1) (Y := 45) K (by omega) d_F_judge_37 rfl (fun _ k => nv_iconst (v := 0) K d_F_judge_44 (by decide) k) (fun _ k => nv_iconst (v := 1) K d_F_judge_40 (by decide) (lv_goto K.1 K.2.1 d_F_judge_41 rfl k)) ?_
  have hb7 : (if ((z_pc_ v) % 2) = 0 then 1 else 0) < 2 := z_ite_ltB _ (by omega) (by omega)
  refine pp_F_parity (v := (if ((z_pc_ v) % 2) = 0 then 1 else 0)) K hw (by omega) d_F_judge_45 (fun H locs hw => ?_)
  have hO8 : z_Ok (z_s_pa (z_s_ze (z_s_sg σ (if (v &&& 128) = 0 then 0 else 1)) (if v = 0 then 1 else 0)) (if ((z_pc_ v) % 2) = 0 then 1 else 0)) := z_ok_pa hO5 (by omega)
  exact prv K hr hlk hw (by rw [nz_s128 _ hv, nz_par _ hv]; rfl) d_F_judge_48

set_option maxHeartbeats 4000000 in
set_option maxRecDepth 100000 in
theorem c_storeOrFetch {σ : z_St} {b : Nat} (l : Launch) (D : va_G) (cI : ClassId) (a : pAd) (hO : z_Ok σ) (hb : b < 64) : pCi l y_P_storeOrFetch w_P_storeOrFetch 3 63 D cI a [.ref a.1, .int (nI b)] σ (z_e2 σ (b / 8)) (nI (z_t2 (b / 8))) := by
  refine pci_of (cc := b_P_storeOrFetch) (maxL := 2) (ret := (some .int)) (by decide) rfl (Nat.le_of_ble_eq_true rfl) ?_
  intro p e s m below meth c ls K hr hlk hl hw
  have K : CallFix p m c b_P_storeOrFetch 2 s _ (_ :: T0) "PortProcessor" := K
  have hl : lv_has ls 2 [(0, .ref a.1), (1, .int (nI b))] := hl
  refine lv_iload_n K.1 K.2.1 d_P_storeOrFetch_0 rfl (lv_at hl 1 rfl) ?_
  refine nv_iconst (v := 3) K d_P_storeOrFetch_1 (by decide) ?_
  refine nv_ishr (M := 8) K (by omega) rfl (by omega) d_P_storeOrFetch_2 ?_
  rcases (by omega : (b / 8) = 0 ∨ (b / 8) = 1 ∨ (b / 8) = 2 ∨ (b / 8) = 3 ∨ (b / 8) = 4 ∨ (b / 8) = 5 ∨ (b / 8) = 6 ∨ (b / 8) = 7) with h1 | h1 | h1 | h1 | h1 | h1 | h1 | h1
  · refine nv_as K (congrArg nI h1) ?_
    refine nv_tabIn (a := 0) (tgt := 44) K d_P_storeOrFetch_3 (by decide) (by decide) (by decide) rfl rfl ?_
    refine lv_aload_n K.1 K.2.1 d_P_storeOrFetch_44 rfl (lv_at hl 0 rfl) ?_
    refine pg_memory K hw d_P_storeOrFetch_45 ?_
    refine lv_aload_n K.1 K.2.1 d_P_storeOrFetch_48 rfl (lv_at hl 0 rfl) ?_
    refine nv_iconst (v := 0) K d_P_storeOrFetch_49 (by decide) ?_
    refine pki K (c_readPair (σ := σ) (k := 0) l D cI a hO (by omega)) (cw_P_199 K (Nat.le_of_ble_eq_true rfl) (Nat.le_of_ble_eq_true rfl)) hw (va_recv (ci := 0) (q0 := 0) hw.2.2.2.1 hw.1 rfl rfl) rfl hl.1 rfl (Nat.le_of_ble_eq_true rfl) d_P_storeOrFetch_50 ⟨Nat.zero_le _, Nat.zero_le _⟩ (fun H locs hw => ?_)
    have hb2 : z_pg σ 0 < 65536 := z_pg_lt hO _
    refine lv_aload_n K.1 K.2.1 d_P_storeOrFetch_53 rfl (lv_at hl 0 rfl) ?_
    refine pg_registers K hw d_P_storeOrFetch_54 ?_
    refine nv_bipush (v := 7) K d_P_storeOrFetch_57 (by decide) ?_
    refine pl_reg (i := 7) (v := z_x_reg σ 7) K hw (by omega) rfl d_P_storeOrFetch_59 ?_
    have hb3 : z_x_reg σ 7 < 256 := z_k_reg hO _
    refine pkv K (c_write (σ := σ) (x := z_pg σ 0) (v := z_x_reg σ 7) l D cI a hO (by omega) (by omega)) (cw_P_46 K (Nat.le_of_ble_eq_true rfl) (Nat.le_of_ble_eq_true rfl)) hw (va_recv (ci := 1) (q0 := 1) hw.2.2.2.1 hw.1 rfl rfl) rfl hl.1 rfl (Nat.le_of_ble_eq_true rfl) d_P_storeOrFetch_60 ⟨Nat.zero_le _, Nat.zero_le _⟩ (fun H locs hw => ?_)
    have hO4 : z_Ok (z_wr σ (z_pg σ 0) (z_x_reg σ 7)) := z_ok_wr hO _ (by omega)
    refine nv_bipush (v := 7) K d_P_storeOrFetch_63 (by decide) ?_
    exact pri K hr hlk hw (by rw [h1]; rfl) (by rw [h1]; rfl) d_P_storeOrFetch_65
  · refine nv_as K (congrArg nI h1) ?_
    refine nv_tabIn (a := 1) (tgt := 66) K d_P_storeOrFetch_3 (by decide) (by decide) (by decide) rfl rfl ?_
    refine lv_aload_n K.1 K.2.1 d_P_storeOrFetch_66 rfl (lv_at hl 0 rfl) ?_
    refine pg_registers K hw d_P_storeOrFetch_67 ?_
    refine nv_bipush (v := 7) K d_P_storeOrFetch_70 (by decide) ?_
    refine lv_aload_n K.1 K.2.1 d_P_storeOrFetch_72 rfl (lv_at hl 0 rfl) ?_
    refine pg_memory K hw d_P_storeOrFetch_73 ?_
    refine lv_aload_n K.1 K.2.1 d_P_storeOrFetch_76 rfl (lv_at hl 0 rfl) ?_
    refine nv_iconst (v := 0) K d_P_storeOrFetch_77 (by decide) ?_
    refine pki K (c_readPair (σ := σ) (k := 0) l D cI a hO (by omega)) (cw_P_199 K (Nat.le_of_ble_eq_true rfl) (Nat.le_of_ble_eq_true rfl)) hw (va_recv (ci := 0) (q0 := 0) hw.2.2.2.1 hw.1 rfl rfl) rfl hl.1 rfl (Nat.le_of_ble_eq_true rfl) d_P_storeOrFetch_78 ⟨Nat.zero_le _, Nat.zero_le _⟩ (fun H locs hw => ?_)
    have hb5 : z_pg σ 0 < 65536 := z_pg_lt hO _
    refine pki K (c_read (σ := σ) (x := z_pg σ 0) l D cI a hO (by omega)) (cw_P_52 K (Nat.le_of_ble_eq_true rfl) (Nat.le_of_ble_eq_true rfl)) hw (va_recv (ci := 1) (q0 := 1) hw.2.2.2.1 hw.1 rfl rfl) rfl hl.1 rfl (Nat.le_of_ble_eq_true rfl) d_P_storeOrFetch_81 ⟨Nat.zero_le _, Nat.zero_le _⟩ (fun H locs hw => ?_)
    have hb6 : z_rd σ (z_pg σ 0) < 256 := z_rd_lt hO _
    refine ps_reg (i := 7) (v := z_rd σ (z_pg σ 0)) K hw (by omega) d_P_storeOrFetch_84 (fun H locs hw => ?_)
    have hO7 : z_Ok (z_s_reg σ (z_fs (z_x_reg σ) 7 (z_rd σ (z_pg σ 0)))) := z_ok_reg hO (z_fs_lt (z_k_reg hO) (by omega))
    refine nv_bipush (v := 7) K d_P_storeOrFetch_85 (by decide) ?_
    exact pri K hr hlk hw (by rw [h1]; rfl) (by rw [h1]; rfl) d_P_storeOrFetch_87
  · refine nv_as K (congrArg nI h1) ?_
    refine nv_tabIn (a := 2) (tgt := 88) K d_P_storeOrFetch_3 (by decide) (by decide) (by decide) rfl rfl ?_
    refine lv_aload_n K.1 K.2.1 d_P_storeOrFetch_88 rfl (lv_at hl 0 rfl) ?_
    refine pg_memory K hw d_P_storeOrFetch_89 ?_
    refine lv_aload_n K.1 K.2.1 d_P_storeOrFetch_92 rfl (lv_at hl 0 rfl) ?_
    refine nv_iconst (v := 1) K d_P_storeOrFetch_93 (by decide) ?_
    refine pki K (c_readPair (σ := σ) (k := 1) l D cI a hO (by omega)) (cw_P_199 K (Nat.le_of_ble_eq_true rfl) (Nat.le_of_ble_eq_true rfl)) hw (va_recv (ci := 0) (q0 := 0) hw.2.2.2.1 hw.1 rfl rfl) rfl hl.1 rfl (Nat.le_of_ble_eq_true rfl) d_P_storeOrFetch_94 ⟨Nat.zero_le _, Nat.zero_le _⟩ (fun H locs hw => ?_)
    have hb8 : z_pg σ 1 < 65536 := z_pg_lt hO _
    refine lv_aload_n K.1 K.2.1 d_P_storeOrFetch_97 rfl (lv_at hl 0 rfl) ?_
    refine pg_registers K hw d_P_storeOrFetch_98 ?_
    refine nv_bipush (v := 7) K d_P_storeOrFetch_101 (by decide) ?_
    refine pl_reg (i := 7) (v := z_x_reg σ 7) K hw (by omega) rfl d_P_storeOrFetch_103 ?_
    have hb9 : z_x_reg σ 7 < 256 := z_k_reg hO _
    refine pkv K (c_write (σ := σ) (x := z_pg σ 1) (v := z_x_reg σ 7) l D cI a hO (by omega) (by omega)) (cw_P_46 K (Nat.le_of_ble_eq_true rfl) (Nat.le_of_ble_eq_true rfl)) hw (va_recv (ci := 1) (q0 := 1) hw.2.2.2.1 hw.1 rfl rfl) rfl hl.1 rfl (Nat.le_of_ble_eq_true rfl) d_P_storeOrFetch_104 ⟨Nat.zero_le _, Nat.zero_le _⟩ (fun H locs hw => ?_)
    have hO10 : z_Ok (z_wr σ (z_pg σ 1) (z_x_reg σ 7)) := z_ok_wr hO _ (by omega)
    refine nv_bipush (v := 7) K d_P_storeOrFetch_107 (by decide) ?_
    exact pri K hr hlk hw (by rw [h1]; rfl) (by rw [h1]; rfl) d_P_storeOrFetch_109
  · refine nv_as K (congrArg nI h1) ?_
    refine nv_tabIn (a := 3) (tgt := 110) K d_P_storeOrFetch_3 (by decide) (by decide) (by decide) rfl rfl ?_
    refine lv_aload_n K.1 K.2.1 d_P_storeOrFetch_110 rfl (lv_at hl 0 rfl) ?_
    refine pg_registers K hw d_P_storeOrFetch_111 ?_
    refine nv_bipush (v := 7) K d_P_storeOrFetch_114 (by decide) ?_
    refine lv_aload_n K.1 K.2.1 d_P_storeOrFetch_116 rfl (lv_at hl 0 rfl) ?_
    refine pg_memory K hw d_P_storeOrFetch_117 ?_
    refine lv_aload_n K.1 K.2.1 d_P_storeOrFetch_120 rfl (lv_at hl 0 rfl) ?_
    refine nv_iconst (v := 1) K d_P_storeOrFetch_121 (by decide) ?_
    refine pki K (c_readPair (σ := σ) (k := 1) l D cI a hO (by omega)) (cw_P_199 K (Nat.le_of_ble_eq_true rfl) (Nat.le_of_ble_eq_true rfl)) hw (va_recv (ci := 0) (q0 := 0) hw.2.2.2.1 hw.1 rfl rfl) rfl hl.1 rfl (Nat.le_of_ble_eq_true rfl) d_P_storeOrFetch_122 ⟨Nat.zero_le _, Nat.zero_le _⟩ (fun H locs hw => ?_)
    have hb11 : z_pg σ 1 < 65536 := z_pg_lt hO _
    refine pki K (c_read (σ := σ) (x := z_pg σ 1) l D cI a hO (by omega)) (cw_P_52 K (Nat.le_of_ble_eq_true rfl) (Nat.le_of_ble_eq_true rfl)) hw (va_recv (ci := 1) (q0 := 1) hw.2.2.2.1 hw.1 rfl rfl) rfl hl.1 rfl (Nat.le_of_ble_eq_true rfl) d_P_storeOrFetch_125 ⟨Nat.zero_le _, Nat.zero_le _⟩ (fun H locs hw => ?_)
    have hb12 : z_rd σ (z_pg σ 1) < 256 := z_rd_lt hO _
    refine ps_reg (i := 7) (v := z_rd σ (z_pg σ 1)) K hw (by omega) d_P_storeOrFetch_128 (fun H locs hw => ?_)
    have hO13 : z_Ok (z_s_reg σ (z_fs (z_x_reg σ) 7 (z_rd σ (z_pg σ 1)))) := z_ok_reg hO (z_fs_lt (z_k_reg hO) (by omega))
    refine nv_bipush (v := 7) K d_P_storeOrFetch_129 (by decide) ?_
    exact pri K hr hlk hw (by rw [h1]; rfl) (by rw [h1]; rfl) d_P_storeOrFetch_131
  · refine nv_as K (congrArg nI h1) ?_
    refine nv_tabIn (a := 4) (tgt := 132) K d_P_storeOrFetch_3 (by decide) (by decide) (by decide) rfl rfl ?_
    refine lv_aload_n K.1 K.2.1 d_P_storeOrFetch_132 rfl (lv_at hl 0 rfl) ?_
    refine lv_aload_n K.1 K.2.1 d_P_storeOrFetch_133 rfl (lv_at hl 0 rfl) ?_
    refine pki K (c_nextTwoBytes (σ := σ) l D cI a hO) (cw_P_193 K (Nat.le_of_ble_eq_true rfl) (Nat.le_of_ble_eq_true rfl)) hw (va_recv (ci := 0) (q0 := 0) hw.2.2.2.1 hw.1 rfl rfl) rfl hl.1 rfl (Nat.le_of_ble_eq_true rfl) d_P_storeOrFetch_134 ⟨Nat.zero_le _, Nat.zero_le _⟩ (fun H locs hw => ?_)
    have hO14 : z_Ok (z_nn σ) := z_ok_nn hO
    have hb15 : z_nw σ < 65536 := z_nw_lt hO
    refine pki K (c_storeHl (σ := z_nn σ) (x := z_nw σ) l D cI a hO14 (by omega)) (cw_P_206 K (Nat.le_of_ble_eq_true rfl) (Nat.le_of_ble_eq_true rfl)) hw (va_recv (ci := 0) (q0 := 0) hw.2.2.2.1 hw.1 rfl rfl) rfl hl.1 rfl (Nat.le_of_ble_eq_true rfl) d_P_storeOrFetch_137 ⟨Nat.zero_le _, Nat.zero_le _⟩ (fun H locs hw => ?_)
    have hO16 : z_Ok (z_wr (z_wr (z_nn σ) (z_nw σ) (z_x_reg (z_nn σ) 5)) (((z_nw σ) + 1) % 65536) (z_x_reg (z_nn σ) 4)) := z_ok_wr (z_ok_wr hO14 _ (z_k_reg hO14 5)) _ (z_k_reg hO14 4)
    exact pri K hr hlk hw (by rw [h1]; rfl) (by rw [h1]; rfl) d_P_storeOrFetch_140
  · refine nv_as K (congrArg nI h1) ?_
    refine nv_tabIn (a := 5) (tgt := 141) K d_P_storeOrFetch_3 (by decide) (by decide) (by decide) rfl rfl ?_
    refine lv_aload_n K.1 K.2.1 d_P_storeOrFetch_141 rfl (lv_at hl 0 rfl) ?_
    refine lv_aload_n K.1 K.2.1 d_P_storeOrFetch_142 rfl (lv_at hl 0 rfl) ?_
    refine pki K (c_nextTwoBytes (σ := σ) l D cI a hO) (cw_P_193 K (Nat.le_of_ble_eq_true rfl) (Nat.le_of_ble_eq_true rfl)) hw (va_recv (ci := 0) (q0 := 0) hw.2.2.2.1 hw.1 rfl rfl) rfl hl.1 rfl (Nat.le_of_ble_eq_true rfl) d_P_storeOrFetch_143 ⟨Nat.zero_le _, Nat.zero_le _⟩ (fun H locs hw => ?_)
    have hO17 : z_Ok (z_nn σ) := z_ok_nn hO
    have hb18 : z_nw σ < 65536 := z_nw_lt hO
    refine pki K (c_fetchHl (σ := z_nn σ) (x := z_nw σ) l D cI a hO17 (by omega)) (cw_P_209 K (Nat.le_of_ble_eq_true rfl) (Nat.le_of_ble_eq_true rfl)) hw (va_recv (ci := 0) (q0 := 0) hw.2.2.2.1 hw.1 rfl rfl) rfl hl.1 rfl (Nat.le_of_ble_eq_true rfl) d_P_storeOrFetch_146 ⟨Nat.zero_le _, Nat.zero_le _⟩ (fun H locs hw => ?_)
    have hO19 : z_Ok (z_s_reg (z_nn σ) (z_fs (z_fs (z_x_reg (z_nn σ)) 5 (z_rd (z_nn σ) (z_nw σ))) 4 (z_rd (z_nn σ) (((z_nw σ) + 1) % 65536)))) := z_ok_reg hO17 (z_fs_lt (z_fs_lt (z_k_reg hO17) (z_rd_lt hO17 _)) (z_rd_lt hO17 _))
    exact pri K hr hlk hw (by rw [h1]; rfl) (by rw [h1]; rfl) d_P_storeOrFetch_149
  · refine nv_as K (congrArg nI h1) ?_
    refine nv_tabIn (a := 6) (tgt := 150) K d_P_storeOrFetch_3 (by decide) (by decide) (by decide) rfl rfl ?_
    refine lv_aload_n K.1 K.2.1 d_P_storeOrFetch_150 rfl (lv_at hl 0 rfl) ?_
    refine pg_memory K hw d_P_storeOrFetch_151 ?_
    refine lv_aload_n K.1 K.2.1 d_P_storeOrFetch_154 rfl (lv_at hl 0 rfl) ?_
    refine pki K (c_nextTwoBytes (σ := σ) l D cI a hO) (cw_P_193 K (Nat.le_of_ble_eq_true rfl) (Nat.le_of_ble_eq_true rfl)) hw (va_recv (ci := 0) (q0 := 0) hw.2.2.2.1 hw.1 rfl rfl) rfl hl.1 rfl (Nat.le_of_ble_eq_true rfl) d_P_storeOrFetch_155 ⟨Nat.zero_le _, Nat.zero_le _⟩ (fun H locs hw => ?_)
    have hO20 : z_Ok (z_nn σ) := z_ok_nn hO
    have hb21 : z_nw σ < 65536 := z_nw_lt hO
    refine lv_aload_n K.1 K.2.1 d_P_storeOrFetch_158 rfl (lv_at hl 0 rfl) ?_
    refine pg_registers K hw d_P_storeOrFetch_159 ?_
    refine nv_bipush (v := 7) K d_P_storeOrFetch_162 (by decide) ?_
    refine pl_reg (i := 7) (v := z_x_reg σ 7) K hw (by omega) rfl d_P_storeOrFetch_164 ?_
    have hb22 : z_x_reg σ 7 < 256 := z_k_reg hO _
    refine pkv K (c_write (σ := z_nn σ) (x := z_nw σ) (v := z_x_reg σ 7) l D cI a hO20 (by omega) (by omega)) (cw_P_46 K (Nat.le_of_ble_eq_true rfl) (Nat.le_of_ble_eq_true rfl)) hw (va_recv (ci := 1) (q0 := 1) hw.2.2.2.1 hw.1 rfl rfl) rfl hl.1 rfl (Nat.le_of_ble_eq_true rfl) d_P_storeOrFetch_165 ⟨Nat.zero_le _, Nat.zero_le _⟩ (fun H locs hw => ?_)
    have hO23 : z_Ok (z_wr (z_nn σ) (z_nw σ) (z_x_reg σ 7)) := z_ok_wr hO20 _ (by omega)
    refine nv_bipush (v := 13) K d_P_storeOrFetch_168 (by decide) ?_
    exact pri K hr hlk hw (by rw [h1]; rfl) (by rw [h1]; rfl) d_P_storeOrFetch_170
  · refine nv_as K (congrArg nI h1) ?_
    refine nv_tabOut (a := 7) (tgt := 171) K d_P_storeOrFetch_3 (by decide) (by decide) rfl ?_
    refine lv_aload_n K.1 K.2.1 d_P_storeOrFetch_171 rfl (lv_at hl 0 rfl) ?_
    refine pg_registers K hw d_P_storeOrFetch_172 ?_
    refine nv_bipush (v := 7) K d_P_storeOrFetch_175 (by decide) ?_
    refine lv_aload_n K.1 K.2.1 d_P_storeOrFetch_177 rfl (lv_at hl 0 rfl) ?_
    refine pg_memory K hw d_P_storeOrFetch_178 ?_
    refine lv_aload_n K.1 K.2.1 d_P_storeOrFetch_181 rfl (lv_at hl 0 rfl) ?_
    refine pki K (c_nextTwoBytes (σ := σ) l D cI a hO) (cw_P_193 K (Nat.le_of_ble_eq_true rfl) (Nat.le_of_ble_eq_true rfl)) hw (va_recv (ci := 0) (q0 := 0) hw.2.2.2.1 hw.1 rfl rfl) rfl hl.1 rfl (Nat.le_of_ble_eq_true rfl) d_P_storeOrFetch_182 ⟨Nat.zero_le _, Nat.zero_le _⟩ (fun H locs hw => ?_)
    have hO24 : z_Ok (z_nn σ) := z_ok_nn hO
    have hb25 : z_nw σ < 65536 := z_nw_lt hO
    refine pki K (c_read (σ := z_nn σ) (x := z_nw σ) l D cI a hO24 (by omega)) (cw_P_52 K (Nat.le_of_ble_eq_true rfl) (Nat.le_of_ble_eq_true rfl)) hw (va_recv (ci := 1) (q0 := 1) hw.2.2.2.1 hw.1 rfl rfl) rfl hl.1 rfl (Nat.le_of_ble_eq_true rfl) d_P_storeOrFetch_185 ⟨Nat.zero_le _, Nat.zero_le _⟩ (fun H locs hw => ?_)
    refine nv_as K (y := nI (z_rd σ (z_nw σ))) rfl ?_
    have hb26 : z_rd σ (z_nw σ) < 256 := z_rd_lt hO24 _
    refine ps_reg (i := 7) (v := z_rd σ (z_nw σ)) K hw (by omega) d_P_storeOrFetch_188 (fun H locs hw => ?_)
    have hO27 : z_Ok (z_s_reg (z_nn σ) (z_fs (z_x_reg σ) 7 (z_rd σ (z_nw σ)))) := z_ok_reg hO24 (z_fs_lt (z_k_reg hO) (by omega))
    refine nv_bipush (v := 13) K d_P_storeOrFetch_189 (by decide) ?_
    exact pri K hr hlk hw (by rw [h1]; rfl) (by rw [h1]; rfl) d_P_storeOrFetch_191

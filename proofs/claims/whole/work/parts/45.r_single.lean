set_option maxHeartbeats 4000000 in
set_option maxRecDepth 100000 in
theorem r_single {σ : z_St} {r : Nat} (l : Launch) (D : va_G) (cI : ClassId) (a : qAd) (hO : z_Ok σ) (hr8 : r < 8) (hr2 : 2 ≤ r) : qCi l y_R_single w_R_single 2 42 D cI a [.ref a.1, .int (nI r)] σ (z_sg_ σ r) (nI (z_t3 r)) := by
  refine qci_of (cc := b_R_single) (maxL := 3) (ret := (some .int)) (by decide) rfl (Nat.le_of_ble_eq_true rfl) ?_
  intro p e s m below meth c ls K hr hlk hl hw
  have K : CallFix p m c b_R_single 3 s _ (_ :: T0) "PortProcessorModel" := K
  have hl : lv_has ls 3 [(0, .ref a.1), (1, .int (nI r))] := hl
  rcases (by omega : r = 2 ∨ r = 3 ∨ r = 4 ∨ r = 5 ∨ r = 6 ∨ r = 7) with h1 | h1 | h1 | h1 | h1 | h1
  · subst h1
    refine lv_iload_n K.1 K.2.1 d_R_single_0 rfl (lv_at hl 1 rfl) ?_
    refine nv_iconst (v := 2) K d_R_single_1 (by decide) ?_
    refine nv_icmp_ne K (by omega) (by omega) d_R_single_2 rfl (fun h => (by omega : False).elim) (fun _ => ?_)
    refine lv_aload_n K.1 K.2.1 d_R_single_5 rfl (lv_at hl 0 rfl) ?_
    refine qg_put K hw d_R_single_6 ?_
    refine lv_aload_n K.1 K.2.1 d_R_single_9 rfl (lv_at hl 0 rfl) ?_
    refine qki K (r_next (σ := σ) l D cI a hO) (cw_R_49 K (Nat.le_of_ble_eq_true rfl) (Nat.le_of_ble_eq_true rfl)) hw (va_recv (ci := 3) (q0 := 0) hw.2.2.2.1 hw.1 rfl rfl) rfl hl.1 rfl (Nat.le_of_ble_eq_true rfl) d_R_single_10 ⟨Nat.zero_le _, Nat.zero_le _⟩ (fun H locs hw => ?_)
    have hO2 : z_Ok (z_nx σ) := z_ok_nx hO
    have hb3 : z_nb σ < 256 := z_nb_lt hO
    refine lv_aload_n K.1 K.2.1 d_R_single_13 rfl (lv_at hl 0 rfl) ?_
    refine qg_reg K hw d_R_single_14 ?_
    refine nv_bipush (v := 7) K d_R_single_17 (by decide) ?_
    refine ql_reg (i := 7) (v := z_x_reg σ 7) K hw (by omega) rfl d_R_single_19 ?_
    have hb4 : z_x_reg σ 7 < 256 := z_k_reg hO _
    refine nv_iconst (v := 1) K d_R_single_20 (by decide) ?_
    refine nv_iadd K d_R_single_21 ?_
    refine qs_put (i := z_nb σ) (v := (z_x_reg σ 7) + 1) K hw (by omega) d_R_single_22 (fun H locs hw => ?_)
    have hO5 : z_Ok (z_s_put (z_nx σ) (z_fs (z_x_put σ) (z_nb σ) ((z_x_reg σ 7) + 1))) := z_ok_put hO2 (z_fs_lt (z_k_put hO) (by omega))
    refine lv_iload_n K.1 K.2.1 d_R_single_23 rfl (lv_at hl 1 rfl) ?_
    refine nv_iconst (v := 3) K d_R_single_24 (by decide) ?_
    refine nv_icmp_ne K (by omega) (by omega) d_R_single_25 rfl (fun _ => ?_) (fun h => (by omega : False).elim)
    refine lv_iload_n K.1 K.2.1 d_R_single_44 rfl (lv_at hl 1 rfl) ?_
    refine nv_iconst (v := 4) K d_R_single_45 (by decide) ?_
    refine nv_icmp_ne K (by omega) (by omega) d_R_single_46 rfl (fun _ => ?_) (fun h => (by omega : False).elim)
    refine lv_iload_n K.1 K.2.1 d_R_single_119 rfl (lv_at hl 1 rfl) ?_
    refine nv_iconst (v := 5) K d_R_single_120 (by decide) ?_
    refine nv_icmp_ne K (by omega) (by omega) d_R_single_121 rfl (fun _ => ?_) (fun h => (by omega : False).elim)
    refine lv_iload_n K.1 K.2.1 d_R_single_145 rfl (lv_at hl 1 rfl) ?_
    refine nv_iconst (v := 5) K d_R_single_146 (by decide) ?_
    refine nv_icmp_le K (by omega) (by omega) d_R_single_147 rfl (fun _ => ?_) (fun h => (by omega : False).elim)
    refine lv_iload_n K.1 K.2.1 d_R_single_180 rfl (lv_at hl 1 rfl) ?_
    refine nv_iconst (v := 4) K d_R_single_181 (by decide) ?_
    refine nv_icmp_ge K (by omega) (by omega) d_R_single_182 rfl (fun h => (by omega : False).elim) (fun _ => ?_)
    refine nv_bipush (v := 10) K d_R_single_185 (by decide) ?_
    refine lv_goto K.1 K.2.1 d_R_single_187 rfl ?_
    exact qri K hr hlk hw (by rfl) (by rfl) d_R_single_191
  · subst h1
    refine lv_iload_n K.1 K.2.1 d_R_single_0 rfl (lv_at hl 1 rfl) ?_
    refine nv_iconst (v := 2) K d_R_single_1 (by decide) ?_
    refine nv_icmp_ne K (by omega) (by omega) d_R_single_2 rfl (fun _ => ?_) (fun h => (by omega : False).elim)
    refine lv_iload_n K.1 K.2.1 d_R_single_23 rfl (lv_at hl 1 rfl) ?_
    refine nv_iconst (v := 3) K d_R_single_24 (by decide) ?_
    refine nv_icmp_ne K (by omega) (by omega) d_R_single_25 rfl (fun h => (by omega : False).elim) (fun _ => ?_)
    refine lv_aload_n K.1 K.2.1 d_R_single_28 rfl (lv_at hl 0 rfl) ?_
    refine qg_reg K hw d_R_single_29 ?_
    refine nv_bipush (v := 7) K d_R_single_32 (by decide) ?_
    refine lv_aload_n K.1 K.2.1 d_R_single_34 rfl (lv_at hl 0 rfl) ?_
    refine qg_in K hw d_R_single_35 ?_
    refine lv_aload_n K.1 K.2.1 d_R_single_38 rfl (lv_at hl 0 rfl) ?_
    refine qki K (r_next (σ := σ) l D cI a hO) (cw_R_49 K (Nat.le_of_ble_eq_true rfl) (Nat.le_of_ble_eq_true rfl)) hw (va_recv (ci := 3) (q0 := 0) hw.2.2.2.1 hw.1 rfl rfl) rfl hl.1 rfl (Nat.le_of_ble_eq_true rfl) d_R_single_39 ⟨Nat.zero_le _, Nat.zero_le _⟩ (fun H locs hw => ?_)
    have hO6 : z_Ok (z_nx σ) := z_ok_nx hO
    have hb7 : z_nb σ < 256 := z_nb_lt hO
    refine ql_inn (i := z_nb σ) (v := z_x_inn σ (z_nb σ)) K hw (by omega) rfl d_R_single_42 ?_
    have hb8 : z_x_inn σ (z_nb σ) < 256 := z_k_inn hO _
    refine qs_reg (i := 7) (v := z_x_inn σ (z_nb σ)) K hw (by omega) d_R_single_43 (fun H locs hw => ?_)
    have hO9 : z_Ok (z_s_reg (z_nx σ) (z_fs (z_x_reg σ) 7 (z_x_inn σ (z_nb σ)))) := z_ok_reg hO6 (z_fs_lt (z_k_reg hO) (by omega))
    refine lv_iload_n K.1 K.2.1 d_R_single_44 rfl (lv_at hl 1 rfl) ?_
    refine nv_iconst (v := 4) K d_R_single_45 (by decide) ?_
    refine nv_icmp_ne K (by omega) (by omega) d_R_single_46 rfl (fun _ => ?_) (fun h => (by omega : False).elim)
    refine lv_iload_n K.1 K.2.1 d_R_single_119 rfl (lv_at hl 1 rfl) ?_
    refine nv_iconst (v := 5) K d_R_single_120 (by decide) ?_
    refine nv_icmp_ne K (by omega) (by omega) d_R_single_121 rfl (fun _ => ?_) (fun h => (by omega : False).elim)
    refine lv_iload_n K.1 K.2.1 d_R_single_145 rfl (lv_at hl 1 rfl) ?_
    refine nv_iconst (v := 5) K d_R_single_146 (by decide) ?_
    refine nv_icmp_le K (by omega) (by omega) d_R_single_147 rfl (fun _ => ?_) (fun h => (by omega : False).elim)
    refine lv_iload_n K.1 K.2.1 d_R_single_180 rfl (lv_at hl 1 rfl) ?_
    refine nv_iconst (v := 4) K d_R_single_181 (by decide) ?_
    refine nv_icmp_ge K (by omega) (by omega) d_R_single_182 rfl (fun h => (by omega : False).elim) (fun _ => ?_)
    refine nv_bipush (v := 10) K d_R_single_185 (by decide) ?_
    refine lv_goto K.1 K.2.1 d_R_single_187 rfl ?_
    exact qri K hr hlk hw (by rfl) (by rfl) d_R_single_191
  · subst h1
    refine lv_iload_n K.1 K.2.1 d_R_single_0 rfl (lv_at hl 1 rfl) ?_
    refine nv_iconst (v := 2) K d_R_single_1 (by decide) ?_
    refine nv_icmp_ne K (by omega) (by omega) d_R_single_2 rfl (fun _ => ?_) (fun h => (by omega : False).elim)
    refine lv_iload_n K.1 K.2.1 d_R_single_23 rfl (lv_at hl 1 rfl) ?_
    refine nv_iconst (v := 3) K d_R_single_24 (by decide) ?_
    refine nv_icmp_ne K (by omega) (by omega) d_R_single_25 rfl (fun _ => ?_) (fun h => (by omega : False).elim)
    refine lv_iload_n K.1 K.2.1 d_R_single_44 rfl (lv_at hl 1 rfl) ?_
    refine nv_iconst (v := 4) K d_R_single_45 (by decide) ?_
    refine nv_icmp_ne K (by omega) (by omega) d_R_single_46 rfl (fun h => (by omega : False).elim) (fun _ => ?_)
    refine lv_aload_n K.1 K.2.1 d_R_single_49 rfl (lv_at hl 0 rfl) ?_
    refine qki K (r_hl (σ := σ) l D cI a hO) (cw_R_29 K (Nat.le_of_ble_eq_true rfl) (Nat.le_of_ble_eq_true rfl)) hw (va_recv (ci := 3) (q0 := 0) hw.2.2.2.1 hw.1 rfl rfl) rfl hl.1 rfl (Nat.le_of_ble_eq_true rfl) d_R_single_50 ⟨Nat.zero_le _, Nat.zero_le _⟩ (fun H locs hw => ?_)
    have hb10 : z_pg σ 2 < 65536 := z_pg_lt hO _
    refine lv_istore_n (lv' := [(2, .int (nI (z_pg σ 2))), (0, .ref a.1), (1, .int (nI 4))]) K.1 K.2.1 d_R_single_53 rfl hl (by decide) rfl (fun ls hl => ?_)
    refine lv_aload_n K.1 K.2.1 d_R_single_54 rfl (lv_at hl 1 rfl) ?_
    refine nv_iconst (v := 2) K d_R_single_55 (by decide) ?_
    refine lv_aload_n K.1 K.2.1 d_R_single_56 rfl (lv_at hl 1 rfl) ?_
    refine lv_aload_n K.1 K.2.1 d_R_single_57 rfl (lv_at hl 1 rfl) ?_
    refine qg_sp (v := z_x_sp σ) K hw rfl d_R_single_58 ?_
    have hb11 : z_x_sp σ < 65536 := z_k_sp hO
    refine qki K (r_read (σ := σ) (x := z_x_sp σ) l D cI a hO (by omega)) (cw_R_33 K (Nat.le_of_ble_eq_true rfl) (Nat.le_of_ble_eq_true rfl)) hw (va_recv (ci := 3) (q0 := 0) hw.2.2.2.1 hw.1 rfl rfl) rfl hl.1 rfl (Nat.le_of_ble_eq_true rfl) d_R_single_61 ⟨Nat.zero_le _, Nat.zero_le _⟩ (fun H locs hw => ?_)
    have hb12 : z_rd σ (z_x_sp σ) < 256 := z_rd_lt hO _
    refine nv_sipush (v := 256) K d_R_single_64 (by decide) ?_
    refine lv_aload_n K.1 K.2.1 d_R_single_67 rfl (lv_at hl 1 rfl) ?_
    refine lv_aload_n K.1 K.2.1 d_R_single_68 rfl (lv_at hl 1 rfl) ?_
    refine qg_sp (v := z_x_sp σ) K hw rfl d_R_single_69 ?_
    refine nv_iconst (v := 1) K d_R_single_72 (by decide) ?_
    refine nv_iadd K d_R_single_73 ?_
    refine nv_ldc (v := 65536) K d_R_single_74 (K.2.2.2.2 _ (List.mem_cons_of_mem _ m_constant_PortProcessorModel_48_65536)) ?_
    refine nv_irem K (by omega) (by omega) (by omega) d_R_single_76 ?_
    refine qki K (r_read (σ := σ) (x := ((z_x_sp σ) + 1) % 65536) l D cI a hO (by omega)) (cw_R_33 K (Nat.le_of_ble_eq_true rfl) (Nat.le_of_ble_eq_true rfl)) hw (va_recv (ci := 3) (q0 := 0) hw.2.2.2.1 hw.1 rfl rfl) rfl hl.1 rfl (Nat.le_of_ble_eq_true rfl) d_R_single_77 ⟨Nat.zero_le _, Nat.zero_le _⟩ (fun H locs hw => ?_)
    have hb13 : z_rd σ (((z_x_sp σ) + 1) % 65536) < 256 := z_rd_lt hO _
    refine nv_imul K d_R_single_80 ?_
    refine nv_iadd K d_R_single_81 ?_
    refine qkv K (r_setPair (σ := σ) (k := 2) (v := (z_rd σ (z_x_sp σ)) + (256 * (z_rd σ (((z_x_sp σ) + 1) % 65536)))) l D cI a hO (by omega) (by omega)) (cw_R_100 K (Nat.le_of_ble_eq_true rfl) (Nat.le_of_ble_eq_true rfl)) hw (va_recv (ci := 3) (q0 := 0) hw.2.2.2.1 hw.1 rfl rfl) rfl hl.1 rfl (Nat.le_of_ble_eq_true rfl) d_R_single_82 ⟨Nat.zero_le _, Nat.zero_le _⟩ (fun H locs hw => ?_)
    have hO14 : z_Ok (z_ps σ 2 (((z_rd σ (z_x_sp σ)) + (256 * (z_rd σ (((z_x_sp σ) + 1) % 65536)))) % 65536)) := z_ok_ps hO _ (by omega)
    refine lv_aload_n K.1 K.2.1 d_R_single_85 rfl (lv_at hl 1 rfl) ?_
    refine lv_aload_n K.1 K.2.1 d_R_single_86 rfl (lv_at hl 1 rfl) ?_
    refine qg_sp (v := z_x_sp (z_ps σ 2 (((z_rd σ (z_x_sp σ)) + (256 * (z_rd σ (((z_x_sp σ) + 1) % 65536)))) % 65536))) K hw rfl d_R_single_87 ?_
    have hb15 : z_x_sp (z_ps σ 2 (((z_rd σ (z_x_sp σ)) + (256 * (z_rd σ (((z_x_sp σ) + 1) % 65536)))) % 65536)) < 65536 := z_k_sp hO14
    refine lv_iload_n K.1 K.2.1 d_R_single_90 rfl (lv_at hl 0 rfl) ?_
    refine nv_sipush (v := 256) K d_R_single_91 (by decide) ?_
    refine nv_irem K (by omega) (by omega) (by omega) d_R_single_94 ?_
    refine qkv K (r_write (σ := z_ps σ 2 (((z_rd σ (z_x_sp σ)) + (256 * (z_rd σ (((z_x_sp σ) + 1) % 65536)))) % 65536)) (x := z_x_sp (z_ps σ 2 (((z_rd σ (z_x_sp σ)) + (256 * (z_rd σ (((z_x_sp σ) + 1) % 65536)))) % 65536))) (v := (z_pg σ 2) % 256) l D cI a hO14 (by omega) (by omega)) (cw_R_37 K (Nat.le_of_ble_eq_true rfl) (Nat.le_of_ble_eq_true rfl)) hw (va_recv (ci := 3) (q0 := 0) hw.2.2.2.1 hw.1 rfl rfl) rfl hl.1 rfl (Nat.le_of_ble_eq_true rfl) d_R_single_95 ⟨Nat.zero_le _, Nat.zero_le _⟩ (fun H locs hw => ?_)
    have hO16 : z_Ok (z_wr (z_ps σ 2 (((z_rd σ (z_x_sp σ)) + (256 * (z_rd σ (((z_x_sp σ) + 1) % 65536)))) % 65536)) (z_x_sp (z_ps σ 2 (((z_rd σ (z_x_sp σ)) + (256 * (z_rd σ (((z_x_sp σ) + 1) % 65536)))) % 65536))) ((z_pg σ 2) % 256)) := z_ok_wr hO14 _ (by omega)
    refine lv_aload_n K.1 K.2.1 d_R_single_98 rfl (lv_at hl 1 rfl) ?_
    refine lv_aload_n K.1 K.2.1 d_R_single_99 rfl (lv_at hl 1 rfl) ?_
    refine qg_sp (v := z_x_sp (z_ps σ 2 (((z_rd σ (z_x_sp σ)) + (256 * (z_rd σ (((z_x_sp σ) + 1) % 65536)))) % 65536))) K hw rfl d_R_single_100 ?_
    refine nv_iconst (v := 1) K d_R_single_103 (by decide) ?_
    refine nv_iadd K d_R_single_104 ?_
    refine nv_ldc (v := 65536) K d_R_single_105 (K.2.2.2.2 _ (List.mem_cons_of_mem _ m_constant_PortProcessorModel_48_65536)) ?_
    refine nv_irem K (by omega) (by omega) (by omega) d_R_single_107 ?_
    refine lv_iload_n K.1 K.2.1 d_R_single_108 rfl (lv_at hl 0 rfl) ?_
    refine nv_sipush (v := 256) K d_R_single_109 (by decide) ?_
    refine nv_idiv K (by omega) (by omega) (by omega) d_R_single_112 ?_
    refine qkv K (r_write (σ := z_wr (z_ps σ 2 (((z_rd σ (z_x_sp σ)) + (256 * (z_rd σ (((z_x_sp σ) + 1) % 65536)))) % 65536)) (z_x_sp (z_ps σ 2 (((z_rd σ (z_x_sp σ)) + (256 * (z_rd σ (((z_x_sp σ) + 1) % 65536)))) % 65536))) ((z_pg σ 2) % 256)) (x := ((z_x_sp (z_ps σ 2 (((z_rd σ (z_x_sp σ)) + (256 * (z_rd σ (((z_x_sp σ) + 1) % 65536)))) % 65536))) + 1) % 65536) (v := (z_pg σ 2) / 256) l D cI a hO16 (by omega) (by omega)) (cw_R_37 K (Nat.le_of_ble_eq_true rfl) (Nat.le_of_ble_eq_true rfl)) hw (va_recv (ci := 3) (q0 := 0) hw.2.2.2.1 hw.1 rfl rfl) rfl hl.1 rfl (Nat.le_of_ble_eq_true rfl) d_R_single_113 ⟨Nat.zero_le _, Nat.zero_le _⟩ (fun H locs hw => ?_)
    have hO17 : z_Ok (z_wr (z_wr (z_ps σ 2 (((z_rd σ (z_x_sp σ)) + (256 * (z_rd σ (((z_x_sp σ) + 1) % 65536)))) % 65536)) (z_x_sp (z_ps σ 2 (((z_rd σ (z_x_sp σ)) + (256 * (z_rd σ (((z_x_sp σ) + 1) % 65536)))) % 65536))) ((z_pg σ 2) % 256)) (((z_x_sp (z_ps σ 2 (((z_rd σ (z_x_sp σ)) + (256 * (z_rd σ (((z_x_sp σ) + 1) % 65536)))) % 65536))) + 1) % 65536) ((z_pg σ 2) / 256)) := z_ok_wr hO16 _ (by omega)
    refine nv_bipush (v := 18) K d_R_single_116 (by decide) ?_
    exact qri K hr hlk hw (by exact xs_r hO) (by rfl) d_R_single_118
  · subst h1
    refine lv_iload_n K.1 K.2.1 d_R_single_0 rfl (lv_at hl 1 rfl) ?_
    refine nv_iconst (v := 2) K d_R_single_1 (by decide) ?_
    refine nv_icmp_ne K (by omega) (by omega) d_R_single_2 rfl (fun _ => ?_) (fun h => (by omega : False).elim)
    refine lv_iload_n K.1 K.2.1 d_R_single_23 rfl (lv_at hl 1 rfl) ?_
    refine nv_iconst (v := 3) K d_R_single_24 (by decide) ?_
    refine nv_icmp_ne K (by omega) (by omega) d_R_single_25 rfl (fun _ => ?_) (fun h => (by omega : False).elim)
    refine lv_iload_n K.1 K.2.1 d_R_single_44 rfl (lv_at hl 1 rfl) ?_
    refine nv_iconst (v := 4) K d_R_single_45 (by decide) ?_
    refine nv_icmp_ne K (by omega) (by omega) d_R_single_46 rfl (fun _ => ?_) (fun h => (by omega : False).elim)
    refine lv_iload_n K.1 K.2.1 d_R_single_119 rfl (lv_at hl 1 rfl) ?_
    refine nv_iconst (v := 5) K d_R_single_120 (by decide) ?_
    refine nv_icmp_ne K (by omega) (by omega) d_R_single_121 rfl (fun h => (by omega : False).elim) (fun _ => ?_)
    refine lv_aload_n K.1 K.2.1 d_R_single_124 rfl (lv_at hl 0 rfl) ?_
    refine qki K (r_hl (σ := σ) l D cI a hO) (cw_R_29 K (Nat.le_of_ble_eq_true rfl) (Nat.le_of_ble_eq_true rfl)) hw (va_recv (ci := 3) (q0 := 0) hw.2.2.2.1 hw.1 rfl rfl) rfl hl.1 rfl (Nat.le_of_ble_eq_true rfl) d_R_single_125 ⟨Nat.zero_le _, Nat.zero_le _⟩ (fun H locs hw => ?_)
    have hb18 : z_pg σ 2 < 65536 := z_pg_lt hO _
    refine lv_istore_n (lv' := [(2, .int (nI (z_pg σ 2))), (0, .ref a.1), (1, .int (nI 5))]) K.1 K.2.1 d_R_single_128 rfl hl (by decide) rfl (fun ls hl => ?_)
    refine lv_aload_n K.1 K.2.1 d_R_single_129 rfl (lv_at hl 1 rfl) ?_
    refine nv_iconst (v := 2) K d_R_single_130 (by decide) ?_
    refine lv_aload_n K.1 K.2.1 d_R_single_131 rfl (lv_at hl 1 rfl) ?_
    refine nv_iconst (v := 1) K d_R_single_132 (by decide) ?_
    refine qki K (r_pair (σ := σ) (k := 1) l D cI a hO (by omega)) (cw_R_103 K (Nat.le_of_ble_eq_true rfl) (Nat.le_of_ble_eq_true rfl)) hw (va_recv (ci := 3) (q0 := 0) hw.2.2.2.1 hw.1 rfl rfl) rfl hl.1 rfl (Nat.le_of_ble_eq_true rfl) d_R_single_133 ⟨Nat.zero_le _, Nat.zero_le _⟩ (fun H locs hw => ?_)
    have hb19 : z_pg σ 1 < 65536 := z_pg_lt hO _
    refine qkv K (r_setPair (σ := σ) (k := 2) (v := z_pg σ 1) l D cI a hO (by omega) (by omega)) (cw_R_100 K (Nat.le_of_ble_eq_true rfl) (Nat.le_of_ble_eq_true rfl)) hw (va_recv (ci := 3) (q0 := 0) hw.2.2.2.1 hw.1 rfl rfl) rfl hl.1 rfl (Nat.le_of_ble_eq_true rfl) d_R_single_136 ⟨Nat.zero_le _, Nat.zero_le _⟩ (fun H locs hw => ?_)
    have hO20 : z_Ok (z_ps σ 2 ((z_pg σ 1) % 65536)) := z_ok_ps hO _ (by omega)
    refine lv_aload_n K.1 K.2.1 d_R_single_139 rfl (lv_at hl 1 rfl) ?_
    refine nv_iconst (v := 1) K d_R_single_140 (by decide) ?_
    refine lv_iload_n K.1 K.2.1 d_R_single_141 rfl (lv_at hl 0 rfl) ?_
    refine qkv K (r_setPair (σ := z_ps σ 2 ((z_pg σ 1) % 65536)) (k := 1) (v := z_pg σ 2) l D cI a hO20 (by omega) (by omega)) (cw_R_100 K (Nat.le_of_ble_eq_true rfl) (Nat.le_of_ble_eq_true rfl)) hw (va_recv (ci := 3) (q0 := 0) hw.2.2.2.1 hw.1 rfl rfl) rfl hl.1 rfl (Nat.le_of_ble_eq_true rfl) d_R_single_142 ⟨Nat.zero_le _, Nat.zero_le _⟩ (fun H locs hw => ?_)
    have hO21 : z_Ok (z_ps (z_ps σ 2 ((z_pg σ 1) % 65536)) 1 ((z_pg σ 2) % 65536)) := z_ok_ps hO20 _ (by omega)
    refine lv_iload_n K.1 K.2.1 d_R_single_145 rfl (lv_at hl 2 rfl) ?_
    refine nv_iconst (v := 5) K d_R_single_146 (by decide) ?_
    refine nv_icmp_le K (by omega) (by omega) d_R_single_147 rfl (fun _ => ?_) (fun h => (by omega : False).elim)
    refine lv_iload_n K.1 K.2.1 d_R_single_180 rfl (lv_at hl 2 rfl) ?_
    refine nv_iconst (v := 4) K d_R_single_181 (by decide) ?_
    refine nv_icmp_ge K (by omega) (by omega) d_R_single_182 rfl (fun _ => ?_) (fun h => (by omega : False).elim)
    refine nv_iconst (v := 4) K d_R_single_190 (by decide) ?_
    exact qri K hr hlk hw (by rw [Nat.mod_eq_of_lt (z_pg_lt hO 1), Nat.mod_eq_of_lt (z_pg_lt hO 2)]; rfl) (by rfl) d_R_single_191
  · subst h1
    refine lv_iload_n K.1 K.2.1 d_R_single_0 rfl (lv_at hl 1 rfl) ?_
    refine nv_iconst (v := 2) K d_R_single_1 (by decide) ?_
    refine nv_icmp_ne K (by omega) (by omega) d_R_single_2 rfl (fun _ => ?_) (fun h => (by omega : False).elim)
    refine lv_iload_n K.1 K.2.1 d_R_single_23 rfl (lv_at hl 1 rfl) ?_
    refine nv_iconst (v := 3) K d_R_single_24 (by decide) ?_
    refine nv_icmp_ne K (by omega) (by omega) d_R_single_25 rfl (fun _ => ?_) (fun h => (by omega : False).elim)
    refine lv_iload_n K.1 K.2.1 d_R_single_44 rfl (lv_at hl 1 rfl) ?_
    refine nv_iconst (v := 4) K d_R_single_45 (by decide) ?_
    refine nv_icmp_ne K (by omega) (by omega) d_R_single_46 rfl (fun _ => ?_) (fun h => (by omega : False).elim)
    refine lv_iload_n K.1 K.2.1 d_R_single_119 rfl (lv_at hl 1 rfl) ?_
    refine nv_iconst (v := 5) K d_R_single_120 (by decide) ?_
    refine nv_icmp_ne K (by omega) (by omega) d_R_single_121 rfl (fun _ => ?_) (fun h => (by omega : False).elim)
    refine lv_iload_n K.1 K.2.1 d_R_single_145 rfl (lv_at hl 1 rfl) ?_
    refine nv_iconst (v := 5) K d_R_single_146 (by decide) ?_
    refine nv_icmp_le K (by omega) (by omega) d_R_single_147 rfl (fun h => (by omega : False).elim) (fun _ => ?_)
    refine lv_aload_n K.1 K.2.1 d_R_single_150 rfl (lv_at hl 0 rfl) ?_
    refine lv_iload_n K.1 K.2.1 d_R_single_151 rfl (lv_at hl 1 rfl) ?_
    refine nv_bipush (v := 7) K d_R_single_152 (by decide) ?_
    refine nv_icmp_ne K (by omega) (by omega) d_R_single_154 rfl (fun _ => ?_) (fun h => (by omega : False).elim)
    refine nv_iconst (v := 0) K d_R_single_161 (by decide) ?_
    refine qp_lets (v := 0) K hw (by omega) d_R_single_162 (fun H locs hw => ?_)
    have hO22 : z_Ok (z_s_it σ 0) := z_ok_it hO (by omega)
    refine lv_aload_n K.1 K.2.1 d_R_single_165 rfl (lv_at hl 0 rfl) ?_
    refine lv_iload_n K.1 K.2.1 d_R_single_166 rfl (lv_at hl 1 rfl) ?_
    refine nv_bipush (v := 7) K d_R_single_167 (by decide) ?_
    refine nv_icmp_ne K (by omega) (by omega) d_R_single_169 rfl (fun _ => ?_) (fun h => (by omega : False).elim)
    refine nv_iconst (v := 0) K d_R_single_176 (by decide) ?_
    refine qp_late (v := 0) K hw (by omega) d_R_single_177 (fun H locs hw => ?_)
    have hO23 : z_Ok (z_s_la (z_s_it σ 0) 0) := z_ok_la hO22 (by omega)
    refine lv_iload_n K.1 K.2.1 d_R_single_180 rfl (lv_at hl 1 rfl) ?_
    refine nv_iconst (v := 4) K d_R_single_181 (by decide) ?_
    refine nv_icmp_ge K (by omega) (by omega) d_R_single_182 rfl (fun _ => ?_) (fun h => (by omega : False).elim)
    refine nv_iconst (v := 4) K d_R_single_190 (by decide) ?_
    exact qri K hr hlk hw (by rfl) (by rfl) d_R_single_191
  · subst h1
    refine lv_iload_n K.1 K.2.1 d_R_single_0 rfl (lv_at hl 1 rfl) ?_
    refine nv_iconst (v := 2) K d_R_single_1 (by decide) ?_
    refine nv_icmp_ne K (by omega) (by omega) d_R_single_2 rfl (fun _ => ?_) (fun h => (by omega : False).elim)
    refine lv_iload_n K.1 K.2.1 d_R_single_23 rfl (lv_at hl 1 rfl) ?_
    refine nv_iconst (v := 3) K d_R_single_24 (by decide) ?_
    refine nv_icmp_ne K (by omega) (by omega) d_R_single_25 rfl (fun _ => ?_) (fun h => (by omega : False).elim)
    refine lv_iload_n K.1 K.2.1 d_R_single_44 rfl (lv_at hl 1 rfl) ?_
    refine nv_iconst (v := 4) K d_R_single_45 (by decide) ?_
    refine nv_icmp_ne K (by omega) (by omega) d_R_single_46 rfl (fun _ => ?_) (fun h => (by omega : False).elim)
    refine lv_iload_n K.1 K.2.1 d_R_single_119 rfl (lv_at hl 1 rfl) ?_
    refine nv_iconst (v := 5) K d_R_single_120 (by decide) ?_
    refine nv_icmp_ne K (by omega) (by omega) d_R_single_121 rfl (fun _ => ?_) (fun h => (by omega : False).elim)
    refine lv_iload_n K.1 K.2.1 d_R_single_145 rfl (lv_at hl 1 rfl) ?_
    refine nv_iconst (v := 5) K d_R_single_146 (by decide) ?_
    refine nv_icmp_le K (by omega) (by omega) d_R_single_147 rfl (fun h => (by omega : False).elim) (fun _ => ?_)
    refine lv_aload_n K.1 K.2.1 d_R_single_150 rfl (lv_at hl 0 rfl) ?_
    refine lv_iload_n K.1 K.2.1 d_R_single_151 rfl (lv_at hl 1 rfl) ?_
    refine nv_bipush (v := 7) K d_R_single_152 (by decide) ?_
    refine nv_icmp_ne K (by omega) (by omega) d_R_single_154 rfl (fun h => (by omega : False).elim) (fun _ => ?_)
    refine nv_iconst (v := 1) K d_R_single_157 (by decide) ?_
    refine lv_goto K.1 K.2.1 d_R_single_158 rfl ?_
    refine qp_lets (v := 1) K hw (by omega) d_R_single_162 (fun H locs hw => ?_)
    have hO24 : z_Ok (z_s_it σ 1) := z_ok_it hO (by omega)
    refine lv_aload_n K.1 K.2.1 d_R_single_165 rfl (lv_at hl 0 rfl) ?_
    refine lv_iload_n K.1 K.2.1 d_R_single_166 rfl (lv_at hl 1 rfl) ?_
    refine nv_bipush (v := 7) K d_R_single_167 (by decide) ?_
    refine nv_icmp_ne K (by omega) (by omega) d_R_single_169 rfl (fun h => (by omega : False).elim) (fun _ => ?_)
    refine nv_iconst (v := 1) K d_R_single_172 (by decide) ?_
    refine lv_goto K.1 K.2.1 d_R_single_173 rfl ?_
    refine qp_late (v := 1) K hw (by omega) d_R_single_177 (fun H locs hw => ?_)
    have hO25 : z_Ok (z_s_la (z_s_it σ 1) 1) := z_ok_la hO24 (by omega)
    refine lv_iload_n K.1 K.2.1 d_R_single_180 rfl (lv_at hl 1 rfl) ?_
    refine nv_iconst (v := 4) K d_R_single_181 (by decide) ?_
    refine nv_icmp_ge K (by omega) (by omega) d_R_single_182 rfl (fun _ => ?_) (fun h => (by omega : False).elim)
    refine nv_iconst (v := 4) K d_R_single_190 (by decide) ?_
    exact qri K hr hlk hw (by rfl) (by rfl) d_R_single_191

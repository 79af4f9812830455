theorem d_R_single_87 : decode b_R_single 87 = .ok (.getfield 41, 3) := by decide +kernel
theorem d_R_single_90 : decode b_R_single 90 = .ok (.iload_n 2, 1) := by decide +kernel
theorem d_R_single_91 : decode b_R_single 91 = .ok (.sipush 256, 3) := by decide +kernel
theorem d_R_single_94 : decode b_R_single 94 = .ok (.irem, 1) := by decide +kernel
theorem d_R_single_95 : decode b_R_single 95 = .ok (.invokevirtual 37, 3) := by decide +kernel
theorem d_R_single_98 : decode b_R_single 98 = .ok (.aload_n 0, 1) := by decide +kernel
theorem d_R_single_99 : decode b_R_single 99 = .ok (.aload_n 0, 1) := by decide +kernel
theorem d_R_single_100 : decode b_R_single 100 = .ok (.getfield 41, 3) := by decide +kernel
theorem d_R_single_103 : decode b_R_single 103 = .ok (.iconst 1, 1) := by decide +kernel
theorem d_R_single_104 : decode b_R_single 104 = .ok (.iadd, 1) := by decide +kernel
theorem d_R_single_105 : decode b_R_single 105 = .ok (.ldc 48, 2) := by decide +kernel
theorem d_R_single_107 : decode b_R_single 107 = .ok (.irem, 1) := by decide +kernel
theorem d_R_single_108 : decode b_R_single 108 = .ok (.iload_n 2, 1) := by decide +kernel
theorem d_R_single_109 : decode b_R_single 109 = .ok (.sipush 256, 3) := by decide +kernel
theorem d_R_single_112 : decode b_R_single 112 = .ok (.idiv, 1) := by decide +kernel
theorem d_R_single_113 : decode b_R_single 113 = .ok (.invokevirtual 37, 3) := by decide +kernel
theorem d_R_single_116 : decode b_R_single 116 = .ok (.bipush 18, 2) := by decide +kernel
theorem d_R_single_118 : decode b_R_single 118 = .ok (.ireturn, 1) := by decide +kernel
theorem d_R_single_119 : decode b_R_single 119 = .ok (.iload_n 1, 1) := by decide +kernel
theorem d_R_single_120 : decode b_R_single 120 = .ok (.iconst 5, 1) := by decide +kernel
theorem d_R_single_121 : decode b_R_single 121 = .ok (.if_icmp .ne 24, 3) := by decide +kernel
theorem d_R_single_124 : decode b_R_single 124 = .ok (.aload_n 0, 1) := by decide +kernel
theorem d_R_single_125 : decode b_R_single 125 = .ok (.invokevirtual 29, 3) := by decide +kernel
theorem d_R_single_128 : decode b_R_single 128 = .ok (.istore_n 2, 1) := by decide +kernel
theorem d_R_single_129 : decode b_R_single 129 = .ok (.aload_n 0, 1) := by decide +kernel
theorem d_R_single_130 : decode b_R_single 130 = .ok (.iconst 2, 1) := by decide +kernel
theorem d_R_single_131 : decode b_R_single 131 = .ok (.aload_n 0, 1) := by decide +kernel
theorem d_R_single_132 : decode b_R_single 132 = .ok (.iconst 1, 1) := by decide +kernel
theorem d_R_single_133 : decode b_R_single 133 = .ok (.invokevirtual 103, 3) := by decide +kernel
theorem d_R_single_136 : decode b_R_single 136 = .ok (.invokevirtual 100, 3) := by decide +kernel
theorem d_R_single_139 : decode b_R_single 139 = .ok (.aload_n 0, 1) := by decide +kernel
theorem d_R_single_140 : decode b_R_single 140 = .ok (.iconst 1, 1) := by decide +kernel
theorem d_R_single_141 : decode b_R_single 141 = .ok (.iload_n 2, 1) := by decide +kernel
theorem d_R_single_142 : decode b_R_single 142 = .ok (.invokevirtual 100, 3) := by decide +kernel
theorem d_R_single_145 : decode b_R_single 145 = .ok (.iload_n 1, 1) := by decide +kernel
theorem d_R_single_146 : decode b_R_single 146 = .ok (.iconst 5, 1) := by decide +kernel
theorem d_R_single_147 : decode b_R_single 147 = .ok (.if_icmp .le 33, 3) := by decide +kernel
theorem d_R_single_150 : decode b_R_single 150 = .ok (.aload_n 0, 1) := by decide +kernel
theorem d_R_single_151 : decode b_R_single 151 = .ok (.iload_n 1, 1) := by decide +kernel
theorem d_R_single_152 : decode b_R_single 152 = .ok (.bipush 7, 2) := by decide +kernel
theorem d_R_single_154 : decode b_R_single 154 = .ok (.if_icmp .ne 7, 3) := by decide +kernel
theorem d_R_single_157 : decode b_R_single 157 = .ok (.iconst 1, 1) := by decide +kernel
theorem d_R_single_158 : decode b_R_single 158 = .ok (.goto 4, 3) := by decide +kernel
theorem d_R_single_161 : decode b_R_single 161 = .ok (.iconst 0, 1) := by decide +kernel
theorem d_R_single_162 : decode b_R_single 162 = .ok (.putfield 137, 3) := by decide +kernel
theorem d_R_single_165 : decode b_R_single 165 = .ok (.aload_n 0, 1) := by decide +kernel
theorem d_R_single_166 : decode b_R_single 166 = .ok (.iload_n 1, 1) := by decide +kernel
theorem d_R_single_167 : decode b_R_single 167 = .ok (.bipush 7, 2) := by decide +kernel
theorem d_R_single_169 : decode b_R_single 169 = .ok (.if_icmp .ne 7, 3) := by decide +kernel
theorem d_R_single_172 : decode b_R_single 172 = .ok (.iconst 1, 1) := by decide +kernel
theorem d_R_single_173 : decode b_R_single 173 = .ok (.goto 4, 3) := by decide +kernel
theorem d_R_single_176 : decode b_R_single 176 = .ok (.iconst 0, 1) := by decide +kernel
theorem d_R_single_177 : decode b_R_single 177 = .ok (.putfield 140, 3) := by decide +kernel
theorem d_R_single_180 : decode b_R_single 180 = .ok (.iload_n 1, 1) := by decide +kernel
theorem d_R_single_181 : decode b_R_single 181 = .ok (.iconst 4, 1) := by decide +kernel
theorem d_R_single_182 : decode b_R_single 182 = .ok (.if_icmp .ge 8, 3) := by decide +kernel
theorem d_R_single_185 : decode b_R_single 185 = .ok (.bipush 10, 2) := by decide +kernel
theorem d_R_single_187 : decode b_R_single 187 = .ok (.goto 4, 3) := by decide +kernel
theorem d_R_single_190 : decode b_R_single 190 = .ok (.iconst 4, 1) := by decide +kernel
theorem d_R_single_191 : decode b_R_single 191 = .ok (.ireturn, 1) := by decide +kernel
theorem d_R_step_0 : decode b_R_step 0 = .ok (.aload_n 0, 1) := by decide +kernel
theorem d_R_step_1 : decode b_R_step 1 = .ok (.getfield 137, 3) := by decide +kernel
theorem d_R_step_4 : decode b_R_step 4 = .ok (.ifCond .eq 21, 3) := by decide +kernel
theorem d_R_step_7 : decode b_R_step 7 = .ok (.aload_n 0, 1) := by decide +kernel
theorem d_R_step_8 : decode b_R_step 8 = .ok (.getfield 140, 3) := by decide +kernel
theorem d_R_step_11 : decode b_R_step 11 = .ok (.ifCond .ne 14, 3) := by decide +kernel
theorem d_R_step_14 : decode b_R_step 14 = .ok (.aload_n 0, 1) := by decide +kernel
theorem d_R_step_15 : decode b_R_step 15 = .ok (.getfield 16, 3) := by decide +kernel
theorem d_R_step_18 : decode b_R_step 18 = .ok (.ifCond .lt 7, 3) := by decide +kernel
theorem d_R_step_21 : decode b_R_step 21 = .ok (.iconst 1, 1) := by decide +kernel
theorem d_R_step_22 : decode b_R_step 22 = .ok (.goto 4, 3) := by decide +kernel
theorem d_R_step_25 : decode b_R_step 25 = .ok (.iconst 0, 1) := by decide +kernel
theorem d_R_step_26 : decode b_R_step 26 = .ok (.istore_n 1, 1) := by decide +kernel
theorem d_R_step_27 : decode b_R_step 27 = .ok (.aload_n 0, 1) := by decide +kernel
theorem d_R_step_28 : decode b_R_step 28 = .ok (.iconst 0, 1) := by decide +kernel
theorem d_R_step_29 : decode b_R_step 29 = .ok (.putfield 140, 3) := by decide +kernel
theorem d_R_step_32 : decode b_R_step 32 = .ok (.iload_n 1, 1) := by decide +kernel
theorem d_R_step_33 : decode b_R_step 33 = .ok (.ifCond .eq 51, 3) := by decide +kernel
theorem d_R_step_36 : decode b_R_step 36 = .ok (.aload_n 0, 1) := by decide +kernel
theorem d_R_step_37 : decode b_R_step 37 = .ok (.aload_n 0, 1) := by decide +kernel
theorem d_R_step_38 : decode b_R_step 38 = .ok (.getfield 45, 3) := by decide +kernel
theorem d_R_step_41 : decode b_R_step 41 = .ok (.invokevirtual 122, 3) := by decide +kernel
theorem d_R_step_44 : decode b_R_step 44 = .ok (.aload_n 0, 1) := by decide +kernel
theorem d_R_step_45 : decode b_R_step 45 = .ok (.bipush 8, 2) := by decide +kernel
theorem d_R_step_47 : decode b_R_step 47 = .ok (.aload_n 0, 1) := by decide +kernel
theorem d_R_step_48 : decode b_R_step 48 = .ok (.getfield 16, 3) := by decide +kernel
theorem d_R_step_51 : decode b_R_step 51 = .ok (.imul, 1) := by decide +kernel
theorem d_R_step_52 : decode b_R_step 52 = .ok (.putfield 45, 3) := by decide +kernel
theorem d_R_step_55 : decode b_R_step 55 = .ok (.aload_n 0, 1) := by decide +kernel
theorem d_R_step_56 : decode b_R_step 56 = .ok (.iconst (-1), 1) := by decide +kernel
theorem d_R_step_57 : decode b_R_step 57 = .ok (.putfield 16, 3) := by decide +kernel
theorem d_R_step_60 : decode b_R_step 60 = .ok (.aload_n 0, 1) := by decide +kernel
theorem d_R_step_61 : decode b_R_step 61 = .ok (.iconst 0, 1) := by decide +kernel
theorem d_R_step_62 : decode b_R_step 62 = .ok (.putfield 137, 3) := by decide +kernel
theorem d_R_step_65 : decode b_R_step 65 = .ok (.aload_n 0, 1) := by decide +kernel
theorem d_R_step_66 : decode b_R_step 66 = .ok (.iconst 0, 1) := by decide +kernel
theorem d_R_step_67 : decode b_R_step 67 = .ok (.putfield 78, 3) := by decide +kernel
theorem d_R_step_70 : decode b_R_step 70 = .ok (.aload_n 0, 1) := by decide +kernel
theorem d_R_step_71 : decode b_R_step 71 = .ok (.aload_n 0, 1) := by decide +kernel
theorem d_R_step_72 : decode b_R_step 72 = .ok (.getfield 143, 3) := by decide +kernel
theorem d_R_step_75 : decode b_R_step 75 = .ok (.ldc2_w 147, 3) := by decide +kernel
theorem d_R_step_78 : decode b_R_step 78 = .ok (.ladd, 1) := by decide +kernel
theorem d_R_step_79 : decode b_R_step 79 = .ok (.putfield 143, 3) := by decide +kernel
theorem d_R_step_82 : decode b_R_step 82 = .ok (.iconst 1, 1) := by decide +kernel
theorem d_R_step_83 : decode b_R_step 83 = .ok (.ireturn, 1) := by decide +kernel
theorem d_R_step_84 : decode b_R_step 84 = .ok (.aload_n 0, 1) := by decide +kernel
theorem d_R_step_85 : decode b_R_step 85 = .ok (.getfield 78, 3) := by decide +kernel
theorem d_R_step_88 : decode b_R_step 88 = .ok (.ifCond .ne 7, 3) := by decide +kernel
theorem d_R_step_91 : decode b_R_step 91 = .ok (.iconst 1, 1) := by decide +kernel
theorem d_R_step_92 : decode b_R_step 92 = .ok (.goto 4, 3) := by decide +kernel
theorem d_R_step_95 : decode b_R_step 95 = .ok (.iconst 0, 1) := by decide +kernel
theorem d_R_step_96 : decode b_R_step 96 = .ok (.istore_n 2, 1) := by decide +kernel
theorem d_R_step_97 : decode b_R_step 97 = .ok (.aload_n 0, 1) := by decide +kernel
theorem d_R_step_98 : decode b_R_step 98 = .ok (.aload_n 0, 1) := by decide +kernel
theorem d_R_step_99 : decode b_R_step 99 = .ok (.getfield 143, 3) := by decide +kernel
theorem d_R_step_102 : decode b_R_step 102 = .ok (.iload_n 2, 1) := by decide +kernel
theorem d_R_step_103 : decode b_R_step 103 = .ok (.ifCond .eq 14, 3) := by decide +kernel
theorem d_R_step_106 : decode b_R_step 106 = .ok (.aload_n 0, 1) := by decide +kernel
theorem d_R_step_107 : decode b_R_step 107 = .ok (.aload_n 0, 1) := by decide +kernel
theorem d_R_step_108 : decode b_R_step 108 = .ok (.invokevirtual 49, 3) := by decide +kernel
theorem d_R_step_111 : decode b_R_step 111 = .ok (.invokevirtual 149, 3) := by decide +kernel
theorem d_R_step_114 : decode b_R_step 114 = .ok (.goto 4, 3) := by decide +kernel
theorem d_R_step_117 : decode b_R_step 117 = .ok (.iconst 4, 1) := by decide +kernel
theorem d_R_step_118 : decode b_R_step 118 = .ok (.i2l, 1) := by decide +kernel
theorem d_R_step_119 : decode b_R_step 119 = .ok (.ladd, 1) := by decide +kernel
theorem d_R_step_120 : decode b_R_step 120 = .ok (.putfield 143, 3) := by decide +kernel
theorem d_R_step_123 : decode b_R_step 123 = .ok (.iload_n 2, 1) := by decide +kernel
theorem d_R_step_124 : decode b_R_step 124 = .ok (.ireturn, 1) := by decide +kernel
theorem d_R_load_0 : decode b_R_load 0 = .ok (.aload_n 0, 1) := by decide +kernel
theorem d_R_load_1 : decode b_R_load 1 = .ok (.iload 4, 2) := by decide +kernel
theorem d_R_load_3 : decode b_R_load 3 = .ok (.iconst 1, 1) := by decide +kernel
theorem d_R_load_4 : decode b_R_load 4 = .ok (.if_icmp .lt 24, 3) := by decide +kernel
theorem d_R_load_7 : decode b_R_load 7 = .ok (.iload 4, 2) := by decide +kernel
theorem d_R_load_9 : decode b_R_load 9 = .ok (.bipush 8, 2) := by decide +kernel
theorem d_R_load_11 : decode b_R_load 11 = .ok (.if_icmp .gt 17, 3) := by decide +kernel
theorem d_R_load_14 : decode b_R_load 14 = .ok (.iload_n 1, 1) := by decide +kernel
theorem d_R_load_15 : decode b_R_load 15 = .ok (.ifCond .lt 13, 3) := by decide +kernel
theorem d_R_load_18 : decode b_R_load 18 = .ok (.iload_n 1, 1) := by decide +kernel
theorem d_R_load_19 : decode b_R_load 19 = .ok (.sipush 1024, 3) := by decide +kernel
theorem d_R_load_22 : decode b_R_load 22 = .ok (.iload 4, 2) := by decide +kernel
theorem d_R_load_24 : decode b_R_load 24 = .ok (.isub, 1) := by decide +kernel
theorem d_R_load_25 : decode b_R_load 25 = .ok (.if_icmp .le 7, 3) := by decide +kernel
theorem d_R_load_28 : decode b_R_load 28 = .ok (.iconst 1, 1) := by decide +kernel
theorem d_R_load_29 : decode b_R_load 29 = .ok (.goto 4, 3) := by decide +kernel
theorem d_R_load_32 : decode b_R_load 32 = .ok (.iconst 0, 1) := by decide +kernel
theorem d_R_load_33 : decode b_R_load 33 = .ok (.putfield 26, 3) := by decide +kernel
theorem d_R_load_36 : decode b_R_load 36 = .ok (.iconst 0, 1) := by decide +kernel
theorem d_R_load_37 : decode b_R_load 37 = .ok (.istore 5, 2) := by decide +kernel
theorem d_R_load_39 : decode b_R_load 39 = .ok (.iload 5, 2) := by decide +kernel
theorem d_R_load_41 : decode b_R_load 41 = .ok (.iload 4, 2) := by decide +kernel
theorem d_R_load_43 : decode b_R_load 43 = .ok (.if_icmp .ge 42, 3) := by decide +kernel
theorem d_R_load_46 : decode b_R_load 46 = .ok (.aload_n 0, 1) := by decide +kernel
theorem d_R_load_47 : decode b_R_load 47 = .ok (.getfield 26, 3) := by decide +kernel
theorem d_R_load_50 : decode b_R_load 50 = .ok (.ifCond .ne 35, 3) := by decide +kernel
theorem d_R_load_53 : decode b_R_load 53 = .ok (.aload_n 0, 1) := by decide +kernel
theorem d_R_load_54 : decode b_R_load 54 = .ok (.getfield 7, 3) := by decide +kernel
theorem d_R_load_57 : decode b_R_load 57 = .ok (.iload_n 1, 1) := by decide +kernel
theorem d_R_load_58 : decode b_R_load 58 = .ok (.iload 4, 2) := by decide +kernel
theorem d_R_load_60 : decode b_R_load 60 = .ok (.iadd, 1) := by decide +kernel
theorem d_R_load_61 : decode b_R_load 61 = .ok (.iconst 1, 1) := by decide +kernel
theorem d_R_load_62 : decode b_R_load 62 = .ok (.isub, 1) := by decide +kernel
theorem d_R_load_63 : decode b_R_load 63 = .ok (.iload 5, 2) := by decide +kernel
theorem d_R_load_65 : decode b_R_load 65 = .ok (.isub, 1) := by decide +kernel
theorem d_R_load_66 : decode b_R_load 66 = .ok (.lload_n 2, 1) := by decide +kernel
theorem d_R_load_67 : decode b_R_load 67 = .ok (.bipush 8, 2) := by decide +kernel
theorem d_R_load_69 : decode b_R_load 69 = .ok (.iload 5, 2) := by decide +kernel
theorem d_R_load_71 : decode b_R_load 71 = .ok (.imul, 1) := by decide +kernel
theorem d_R_load_72 : decode b_R_load 72 = .ok (.lshr, 1) := by decide +kernel
theorem d_R_load_73 : decode b_R_load 73 = .ok (.ldc2_w 152, 3) := by decide +kernel
theorem d_R_load_76 : decode b_R_load 76 = .ok (.land, 1) := by decide +kernel
theorem d_R_load_77 : decode b_R_load 77 = .ok (.l2i, 1) := by decide +kernel
theorem d_R_load_78 : decode b_R_load 78 = .ok (.iastore, 1) := by decide +kernel
theorem d_R_load_79 : decode b_R_load 79 = .ok (.iinc 5 1, 3) := by decide +kernel
theorem d_R_load_82 : decode b_R_load 82 = .ok (.goto (-43), 3) := by decide +kernel
theorem d_R_load_85 : decode b_R_load 85 = .ok (.return_, 1) := by decide +kernel
theorem d_R_peek_0 : decode b_R_peek 0 = .ok (.aload_n 0, 1) := by decide +kernel
theorem d_R_peek_1 : decode b_R_peek 1 = .ok (.iload_n 1, 1) := by decide +kernel
theorem d_R_peek_2 : decode b_R_peek 2 = .ok (.sipush 1024, 3) := by decide +kernel
theorem d_R_peek_5 : decode b_R_peek 5 = .ok (.invokestatic 154, 3) := by decide +kernel
theorem d_R_peek_8 : decode b_R_peek 8 = .ok (.ifCond .eq 7, 3) := by decide +kernel
theorem d_R_peek_11 : decode b_R_peek 11 = .ok (.iconst 1, 1) := by decide +kernel
theorem d_R_peek_12 : decode b_R_peek 12 = .ok (.goto 4, 3) := by decide +kernel
theorem d_R_peek_15 : decode b_R_peek 15 = .ok (.iconst 0, 1) := by decide +kernel
theorem d_R_peek_16 : decode b_R_peek 16 = .ok (.putfield 26, 3) := by decide +kernel
theorem d_R_peek_19 : decode b_R_peek 19 = .ok (.aload_n 0, 1) := by decide +kernel
theorem d_R_peek_20 : decode b_R_peek 20 = .ok (.getfield 26, 3) := by decide +kernel
theorem d_R_peek_23 : decode b_R_peek 23 = .ok (.ifCond .le 7, 3) := by decide +kernel
theorem d_R_peek_26 : decode b_R_peek 26 = .ok (.iconst 0, 1) := by decide +kernel
theorem d_R_peek_27 : decode b_R_peek 27 = .ok (.goto 9, 3) := by decide +kernel
theorem d_R_peek_30 : decode b_R_peek 30 = .ok (.aload_n 0, 1) := by decide +kernel
theorem d_R_peek_31 : decode b_R_peek 31 = .ok (.getfield 7, 3) := by decide +kernel
theorem d_R_peek_34 : decode b_R_peek 34 = .ok (.iload_n 1, 1) := by decide +kernel
theorem d_R_peek_35 : decode b_R_peek 35 = .ok (.iaload, 1) := by decide +kernel
theorem d_R_peek_36 : decode b_R_peek 36 = .ok (.ireturn, 1) := by decide +kernel
theorem d_R_start_0 : decode b_R_start 0 = .ok (.aload_n 0, 1) := by decide +kernel
theorem d_R_start_1 : decode b_R_start 1 = .ok (.iload_n 1, 1) := by decide +kernel
theorem d_R_start_2 : decode b_R_start 2 = .ok (.ldc 48, 2) := by decide +kernel
theorem d_R_start_4 : decode b_R_start 4 = .ok (.invokestatic 154, 3) := by decide +kernel
theorem d_R_start_7 : decode b_R_start 7 = .ok (.ifCond .eq 7, 3) := by decide +kernel
theorem d_R_start_10 : decode b_R_start 10 = .ok (.iconst 1, 1) := by decide +kernel
theorem d_R_start_11 : decode b_R_start 11 = .ok (.goto 4, 3) := by decide +kernel
theorem d_R_start_14 : decode b_R_start 14 = .ok (.iconst 0, 1) := by decide +kernel
theorem d_R_start_15 : decode b_R_start 15 = .ok (.putfield 26, 3) := by decide +kernel
theorem d_R_start_18 : decode b_R_start 18 = .ok (.aload_n 0, 1) := by decide +kernel
theorem d_R_start_19 : decode b_R_start 19 = .ok (.getfield 26, 3) := by decide +kernel
theorem d_R_start_22 : decode b_R_start 22 = .ok (.ifCond .le 4, 3) := by decide +kernel
theorem d_R_start_25 : decode b_R_start 25 = .ok (.return_, 1) := by decide +kernel
theorem d_R_start_26 : decode b_R_start 26 = .ok (.aload_n 0, 1) := by decide +kernel
theorem d_R_start_27 : decode b_R_start 27 = .ok (.iload_n 1, 1) := by decide +kernel
theorem d_R_start_28 : decode b_R_start 28 = .ok (.putfield 45, 3) := by decide +kernel
theorem d_R_start_31 : decode b_R_start 31 = .ok (.aload_n 0, 1) := by decide +kernel
theorem d_R_start_32 : decode b_R_start 32 = .ok (.iconst 0, 1) := by decide +kernel
theorem d_R_start_33 : decode b_R_start 33 = .ok (.putfield 78, 3) := by decide +kernel
theorem d_R_start_36 : decode b_R_start 36 = .ok (.return_, 1) := by decide +kernel
theorem d_R_run_0 : decode b_R_run 0 = .ok (.aload_n 0, 1) := by decide +kernel
theorem d_R_run_1 : decode b_R_run 1 = .ok (.iload_n 1, 1) := by decide +kernel
theorem d_R_run_2 : decode b_R_run 2 = .ok (.iconst 1, 1) := by decide +kernel
theorem d_R_run_3 : decode b_R_run 3 = .ok (.if_icmp .lt 10, 3) := by decide +kernel
theorem d_R_run_6 : decode b_R_run 6 = .ok (.iload_n 1, 1) := by decide +kernel
theorem d_R_run_7 : decode b_R_run 7 = .ok (.sipush 500, 3) := by decide +kernel
theorem d_R_run_10 : decode b_R_run 10 = .ok (.if_icmp .le 7, 3) := by decide +kernel
theorem d_R_run_13 : decode b_R_run 13 = .ok (.iconst 1, 1) := by decide +kernel
theorem d_R_run_14 : decode b_R_run 14 = .ok (.goto 4, 3) := by decide +kernel
theorem d_R_run_17 : decode b_R_run 17 = .ok (.iconst 0, 1) := by decide +kernel
theorem d_R_run_18 : decode b_R_run 18 = .ok (.putfield 26, 3) := by decide +kernel
theorem d_R_run_21 : decode b_R_run 21 = .ok (.iconst 0, 1) := by decide +kernel
theorem d_R_run_22 : decode b_R_run 22 = .ok (.istore_n 2, 1) := by decide +kernel
theorem d_R_run_23 : decode b_R_run 23 = .ok (.iconst 0, 1) := by decide +kernel
theorem d_R_run_24 : decode b_R_run 24 = .ok (.istore_n 3, 1) := by decide +kernel
theorem d_R_run_25 : decode b_R_run 25 = .ok (.iload_n 3, 1) := by decide +kernel
theorem d_R_run_26 : decode b_R_run 26 = .ok (.iload_n 1, 1) := by decide +kernel
theorem d_R_run_27 : decode b_R_run 27 = .ok (.if_icmp .ge 31, 3) := by decide +kernel
theorem d_R_run_30 : decode b_R_run 30 = .ok (.aload_n 0, 1) := by decide +kernel
theorem d_R_run_31 : decode b_R_run 31 = .ok (.getfield 26, 3) := by decide +kernel
theorem d_R_run_34 : decode b_R_run 34 = .ok (.ifCond .ne 24, 3) := by decide +kernel
theorem d_R_run_37 : decode b_R_run 37 = .ok (.aload_n 0, 1) := by decide +kernel
theorem d_R_run_38 : decode b_R_run 38 = .ok (.invokevirtual 158, 3) := by decide +kernel
theorem d_R_run_41 : decode b_R_run 41 = .ok (.ifCond .eq 9, 3) := by decide +kernel
theorem d_R_run_44 : decode b_R_run 44 = .ok (.iload_n 2, 1) := by decide +kernel
theorem d_R_run_45 : decode b_R_run 45 = .ok (.iconst 1, 1) := by decide +kernel
theorem d_R_run_46 : decode b_R_run 46 = .ok (.iadd, 1) := by decide +kernel
theorem d_R_run_47 : decode b_R_run 47 = .ok (.goto 4, 3) := by decide +kernel
theorem d_R_run_50 : decode b_R_run 50 = .ok (.iload_n 2, 1) := by decide +kernel
theorem d_R_run_51 : decode b_R_run 51 = .ok (.istore_n 2, 1) := by decide +kernel
theorem d_R_run_52 : decode b_R_run 52 = .ok (.iinc 3 1, 3) := by decide +kernel
theorem d_R_run_55 : decode b_R_run 55 = .ok (.goto (-30), 3) := by decide +kernel
theorem d_R_run_58 : decode b_R_run 58 = .ok (.iload_n 2, 1) := by decide +kernel
theorem d_R_run_59 : decode b_R_run 59 = .ok (.ireturn, 1) := by decide +kernel
theorem d_R_interrupt_0 : decode b_R_interrupt 0 = .ok (.aload_n 0, 1) := by decide +kernel
theorem d_R_interrupt_1 : decode b_R_interrupt 1 = .ok (.iload_n 1, 1) := by decide +kernel
theorem d_R_interrupt_2 : decode b_R_interrupt 2 = .ok (.bipush 8, 2) := by decide +kernel
theorem d_R_interrupt_4 : decode b_R_interrupt 4 = .ok (.invokestatic 154, 3) := by decide +kernel
theorem d_R_interrupt_7 : decode b_R_interrupt 7 = .ok (.ifCond .eq 7, 3) := by decide +kernel
theorem d_R_interrupt_10 : decode b_R_interrupt 10 = .ok (.iconst 1, 1) := by decide +kernel
theorem d_R_interrupt_11 : decode b_R_interrupt 11 = .ok (.goto 4, 3) := by decide +kernel
theorem d_R_interrupt_14 : decode b_R_interrupt 14 = .ok (.iconst 0, 1) := by decide +kernel
theorem d_R_interrupt_15 : decode b_R_interrupt 15 = .ok (.putfield 26, 3) := by decide +kernel
theorem d_R_interrupt_18 : decode b_R_interrupt 18 = .ok (.aload_n 0, 1) := by decide +kernel
theorem d_R_interrupt_19 : decode b_R_interrupt 19 = .ok (.getfield 26, 3) := by decide +kernel
theorem d_R_interrupt_22 : decode b_R_interrupt 22 = .ok (.ifCond .ne 8, 3) := by decide +kernel
theorem d_R_interrupt_25 : decode b_R_interrupt 25 = .ok (.aload_n 0, 1) := by decide +kernel
theorem d_R_interrupt_26 : decode b_R_interrupt 26 = .ok (.iload_n 1, 1) := by decide +kernel
theorem d_R_interrupt_27 : decode b_R_interrupt 27 = .ok (.putfield 16, 3) := by decide +kernel
theorem d_R_interrupt_30 : decode b_R_interrupt 30 = .ok (.return_, 1) := by decide +kernel
theorem d_R_bring_0 : decode b_R_bring 0 = .ok (.aload_n 0, 1) := by decide +kernel
theorem d_R_bring_1 : decode b_R_bring 1 = .ok (.iload_n 1, 1) := by decide +kernel
theorem d_R_bring_2 : decode b_R_bring 2 = .ok (.sipush 256, 3) := by decide +kernel
theorem d_R_bring_5 : decode b_R_bring 5 = .ok (.invokestatic 154, 3) := by decide +kernel
theorem d_R_bring_8 : decode b_R_bring 8 = .ok (.ifCond .ne 13, 3) := by decide +kernel
theorem d_R_bring_11 : decode b_R_bring 11 = .ok (.iload_n 2, 1) := by decide +kernel
theorem d_R_bring_12 : decode b_R_bring 12 = .ok (.sipush 256, 3) := by decide +kernel
theorem d_R_bring_15 : decode b_R_bring 15 = .ok (.invokestatic 154, 3) := by decide +kernel
theorem d_R_bring_18 : decode b_R_bring 18 = .ok (.ifCond .eq 7, 3) := by decide +kernel
theorem d_R_bring_21 : decode b_R_bring 21 = .ok (.iconst 1, 1) := by decide +kernel
theorem d_R_bring_22 : decode b_R_bring 22 = .ok (.goto 4, 3) := by decide +kernel
theorem d_R_bring_25 : decode b_R_bring 25 = .ok (.iconst 0, 1) := by decide +kernel
theorem d_R_bring_26 : decode b_R_bring 26 = .ok (.putfield 26, 3) := by decide +kernel
theorem d_R_bring_29 : decode b_R_bring 29 = .ok (.aload_n 0, 1) := by decide +kernel
theorem d_R_bring_30 : decode b_R_bring 30 = .ok (.getfield 26, 3) := by decide +kernel
theorem d_R_bring_33 : decode b_R_bring 33 = .ok (.ifCond .ne 10, 3) := by decide +kernel
theorem d_R_bring_36 : decode b_R_bring 36 = .ok (.aload_n 0, 1) := by decide +kernel
theorem d_R_bring_37 : decode b_R_bring 37 = .ok (.getfield 20, 3) := by decide +kernel
theorem d_R_bring_40 : decode b_R_bring 40 = .ok (.iload_n 1, 1) := by decide +kernel
theorem d_R_bring_41 : decode b_R_bring 41 = .ok (.iload_n 2, 1) := by decide +kernel
theorem d_R_bring_42 : decode b_R_bring 42 = .ok (.iastore, 1) := by decide +kernel
theorem d_R_bring_43 : decode b_R_bring 43 = .ok (.return_, 1) := by decide +kernel
theorem d_R_out_0 : decode b_R_out 0 = .ok (.aload_n 0, 1) := by decide +kernel
theorem d_R_out_1 : decode b_R_out 1 = .ok (.iload_n 1, 1) := by decide +kernel
theorem d_R_out_2 : decode b_R_out 2 = .ok (.sipush 256, 3) := by decide +kernel
theorem d_R_out_5 : decode b_R_out 5 = .ok (.invokestatic 154, 3) := by decide +kernel
theorem d_R_out_8 : decode b_R_out 8 = .ok (.ifCond .eq 7, 3) := by decide +kernel
theorem d_R_out_11 : decode b_R_out 11 = .ok (.iconst 1, 1) := by decide +kernel
theorem d_R_out_12 : decode b_R_out 12 = .ok (.goto 4, 3) := by decide +kernel
theorem d_R_out_15 : decode b_R_out 15 = .ok (.iconst 0, 1) := by decide +kernel
theorem d_R_out_16 : decode b_R_out 16 = .ok (.putfield 26, 3) := by decide +kernel
theorem d_R_out_19 : decode b_R_out 19 = .ok (.aload_n 0, 1) := by decide +kernel
theorem d_R_out_20 : decode b_R_out 20 = .ok (.getfield 26, 3) := by decide +kernel
theorem d_R_out_23 : decode b_R_out 23 = .ok (.ifCond .le 7, 3) := by decide +kernel
theorem d_R_out_26 : decode b_R_out 26 = .ok (.iconst 0, 1) := by decide +kernel
theorem d_R_out_27 : decode b_R_out 27 = .ok (.goto 11, 3) := by decide +kernel
theorem d_R_out_30 : decode b_R_out 30 = .ok (.aload_n 0, 1) := by decide +kernel
theorem d_R_out_31 : decode b_R_out 31 = .ok (.getfield 23, 3) := by decide +kernel
theorem d_R_out_34 : decode b_R_out 34 = .ok (.iload_n 1, 1) := by decide +kernel
theorem d_R_out_35 : decode b_R_out 35 = .ok (.iaload, 1) := by decide +kernel
theorem d_R_out_36 : decode b_R_out 36 = .ok (.iconst 1, 1) := by decide +kernel
theorem d_R_out_37 : decode b_R_out 37 = .ok (.isub, 1) := by decide +kernel
theorem d_R_out_38 : decode b_R_out 38 = .ok (.ireturn, 1) := by decide +kernel
theorem d_R_register_0 : decode b_R_register 0 = .ok (.aload_n 0, 1) := by decide +kernel
theorem d_R_register_1 : decode b_R_register 1 = .ok (.iload_n 1, 1) := by decide +kernel
theorem d_R_register_2 : decode b_R_register 2 = .ok (.bipush 11, 2) := by decide +kernel
theorem d_R_register_4 : decode b_R_register 4 = .ok (.invokestatic 154, 3) := by decide +kernel
theorem d_R_register_7 : decode b_R_register 7 = .ok (.ifCond .eq 7, 3) := by decide +kernel
theorem d_R_register_10 : decode b_R_register 10 = .ok (.iconst 1, 1) := by decide +kernel
theorem d_R_register_11 : decode b_R_register 11 = .ok (.goto 4, 3) := by decide +kernel
theorem d_R_register_14 : decode b_R_register 14 = .ok (.iconst 0, 1) := by decide +kernel
theorem d_R_register_15 : decode b_R_register 15 = .ok (.putfield 26, 3) := by decide +kernel
theorem d_R_register_18 : decode b_R_register 18 = .ok (.aload_n 0, 1) := by decide +kernel
theorem d_R_register_19 : decode b_R_register 19 = .ok (.getfield 26, 3) := by decide +kernel
theorem d_R_register_22 : decode b_R_register 22 = .ok (.ifCond .le 5, 3) := by decide +kernel
theorem d_R_register_25 : decode b_R_register 25 = .ok (.iconst 0, 1) := by decide +kernel
theorem d_R_register_26 : decode b_R_register 26 = .ok (.ireturn, 1) := by decide +kernel
theorem d_R_register_27 : decode b_R_register 27 = .ok (.iload_n 1, 1) := by decide +kernel
theorem d_R_register_28 : decode b_R_register 28 = .ok (.bipush 8, 2) := by decide +kernel
theorem d_R_register_30 : decode b_R_register 30 = .ok (.if_icmp .ge 11, 3) := by decide +kernel
theorem d_R_register_33 : decode b_R_register 33 = .ok (.aload_n 0, 1) := by decide +kernel
theorem d_R_register_34 : decode b_R_register 34 = .ok (.iload_n 1, 1) := by decide +kernel
theorem d_R_register_35 : decode b_R_register 35 = .ok (.invokevirtual 85, 3) := by decide +kernel
theorem d_R_register_38 : decode b_R_register 38 = .ok (.goto 33, 3) := by decide +kernel
theorem d_R_register_41 : decode b_R_register 41 = .ok (.iload_n 1, 1) := by decide +kernel
theorem d_R_register_42 : decode b_R_register 42 = .ok (.bipush 8, 2) := by decide +kernel
theorem d_R_register_44 : decode b_R_register 44 = .ok (.if_icmp .ne 10, 3) := by decide +kernel
theorem d_R_register_47 : decode b_R_register 47 = .ok (.aload_n 0, 1) := by decide +kernel
theorem d_R_register_48 : decode b_R_register 48 = .ok (.invokevirtual 125, 3) := by decide +kernel
theorem d_R_register_51 : decode b_R_register 51 = .ok (.goto 20, 3) := by decide +kernel
theorem d_R_register_54 : decode b_R_register 54 = .ok (.iload_n 1, 1) := by decide +kernel
theorem d_R_register_55 : decode b_R_register 55 = .ok (.bipush 9, 2) := by decide +kernel
theorem d_R_register_57 : decode b_R_register 57 = .ok (.if_icmp .ne 10, 3) := by decide +kernel
theorem d_R_register_60 : decode b_R_register 60 = .ok (.aload_n 0, 1) := by decide +kernel
theorem d_R_register_61 : decode b_R_register 61 = .ok (.getfield 41, 3) := by decide +kernel
theorem d_R_register_64 : decode b_R_register 64 = .ok (.goto 7, 3) := by decide +kernel
theorem d_R_register_67 : decode b_R_register 67 = .ok (.aload_n 0, 1) := by decide +kernel
theorem d_R_register_68 : decode b_R_register 68 = .ok (.getfield 45, 3) := by decide +kernel
theorem d_R_register_71 : decode b_R_register 71 = .ok (.ireturn, 1) := by decide +kernel
theorem d_R_set_0 : decode b_R_set 0 = .ok (.aload_n 0, 1) := by decide +kernel
theorem d_R_set_1 : decode b_R_set 1 = .ok (.iload_n 1, 1) := by decide +kernel
theorem d_R_set_2 : decode b_R_set 2 = .ok (.bipush 10, 2) := by decide +kernel
theorem d_R_set_4 : decode b_R_set 4 = .ok (.invokestatic 154, 3) := by decide +kernel
theorem d_R_set_7 : decode b_R_set 7 = .ok (.ifCond .ne 30, 3) := by decide +kernel
theorem d_R_set_10 : decode b_R_set 10 = .ok (.iload_n 1, 1) := by decide +kernel
theorem d_R_set_11 : decode b_R_set 11 = .ok (.bipush 6, 2) := by decide +kernel
theorem d_R_set_13 : decode b_R_set 13 = .ok (.if_icmp .eq 24, 3) := by decide +kernel
theorem d_R_set_16 : decode b_R_set 16 = .ok (.iload_n 2, 1) := by decide +kernel
theorem d_R_set_17 : decode b_R_set 17 = .ok (.iload_n 1, 1) := by decide +kernel
theorem d_R_set_18 : decode b_R_set 18 = .ok (.bipush 9, 2) := by decide +kernel
theorem d_R_set_20 : decode b_R_set 20 = .ok (.if_icmp .ne 8, 3) := by decide +kernel
theorem d_R_set_23 : decode b_R_set 23 = .ok (.ldc 48, 2) := by decide +kernel
theorem d_R_set_25 : decode b_R_set 25 = .ok (.goto 6, 3) := by decide +kernel
theorem d_R_set_28 : decode b_R_set 28 = .ok (.sipush 256, 3) := by decide +kernel
theorem d_R_set_31 : decode b_R_set 31 = .ok (.invokestatic 154, 3) := by decide +kernel
theorem d_R_set_34 : decode b_R_set 34 = .ok (.ifCond .eq 7, 3) := by decide +kernel
theorem d_R_set_37 : decode b_R_set 37 = .ok (.iconst 1, 1) := by decide +kernel
theorem d_R_set_38 : decode b_R_set 38 = .ok (.goto 4, 3) := by decide +kernel
theorem d_R_set_41 : decode b_R_set 41 = .ok (.iconst 0, 1) := by decide +kernel
theorem d_R_set_42 : decode b_R_set 42 = .ok (.putfield 26, 3) := by decide +kernel
theorem d_R_set_45 : decode b_R_set 45 = .ok (.aload_n 0, 1) := by decide +kernel
theorem d_R_set_46 : decode b_R_set 46 = .ok (.getfield 26, 3) := by decide +kernel
theorem d_R_set_49 : decode b_R_set 49 = .ok (.ifCond .le 4, 3) := by decide +kernel
theorem d_R_set_52 : decode b_R_set 52 = .ok (.return_, 1) := by decide +kernel
theorem d_R_set_53 : decode b_R_set 53 = .ok (.iload_n 1, 1) := by decide +kernel
theorem d_R_set_54 : decode b_R_set 54 = .ok (.bipush 8, 2) := by decide +kernel
theorem d_R_set_56 : decode b_R_set 56 = .ok (.if_icmp .ge 13, 3) := by decide +kernel
theorem d_R_set_59 : decode b_R_set 59 = .ok (.aload_n 0, 1) := by decide +kernel
theorem d_R_set_60 : decode b_R_set 60 = .ok (.getfield 13, 3) := by decide +kernel
theorem d_R_set_63 : decode b_R_set 63 = .ok (.iload_n 1, 1) := by decide +kernel
theorem d_R_set_64 : decode b_R_set 64 = .ok (.iload_n 2, 1) := by decide +kernel
theorem d_R_set_65 : decode b_R_set 65 = .ok (.iastore, 1) := by decide +kernel
theorem d_R_set_66 : decode b_R_set 66 = .ok (.goto 22, 3) := by decide +kernel
theorem d_R_set_69 : decode b_R_set 69 = .ok (.iload_n 1, 1) := by decide +kernel
theorem d_R_set_70 : decode b_R_set 70 = .ok (.bipush 8, 2) := by decide +kernel
theorem d_R_set_72 : decode b_R_set 72 = .ok (.if_icmp .ne 11, 3) := by decide +kernel
theorem d_R_set_75 : decode b_R_set 75 = .ok (.aload_n 0, 1) := by decide +kernel
theorem d_R_set_76 : decode b_R_set 76 = .ok (.iload_n 2, 1) := by decide +kernel
theorem d_R_set_77 : decode b_R_set 77 = .ok (.invokevirtual 134, 3) := by decide +kernel
theorem d_R_set_80 : decode b_R_set 80 = .ok (.goto 8, 3) := by decide +kernel
theorem d_R_set_83 : decode b_R_set 83 = .ok (.aload_n 0, 1) := by decide +kernel
theorem d_R_set_84 : decode b_R_set 84 = .ok (.iload_n 2, 1) := by decide +kernel
theorem d_R_set_85 : decode b_R_set 85 = .ok (.putfield 41, 3) := by decide +kernel
theorem d_R_set_88 : decode b_R_set 88 = .ok (.return_, 1) := by decide +kernel
theorem d_R_is_0 : decode b_R_is 0 = .ok (.aload_n 0, 1) := by decide +kernel
theorem d_R_is_1 : decode b_R_is 1 = .ok (.iload_n 1, 1) := by decide +kernel
theorem d_R_is_2 : decode b_R_is 2 = .ok (.iconst 3, 1) := by decide +kernel
theorem d_R_is_3 : decode b_R_is 3 = .ok (.invokestatic 154, 3) := by decide +kernel
theorem d_R_is_6 : decode b_R_is 6 = .ok (.ifCond .eq 7, 3) := by decide +kernel
theorem d_R_is_9 : decode b_R_is 9 = .ok (.iconst 1, 1) := by decide +kernel
theorem d_R_is_10 : decode b_R_is 10 = .ok (.goto 4, 3) := by decide +kernel
theorem d_R_is_13 : decode b_R_is 13 = .ok (.iconst 0, 1) := by decide +kernel
theorem d_R_is_14 : decode b_R_is 14 = .ok (.putfield 26, 3) := by decide +kernel
theorem d_R_is_17 : decode b_R_is 17 = .ok (.aload_n 0, 1) := by decide +kernel
theorem d_R_is_18 : decode b_R_is 18 = .ok (.getfield 26, 3) := by decide +kernel
theorem d_R_is_21 : decode b_R_is 21 = .ok (.ifCond .ne 43, 3) := by decide +kernel
theorem d_R_is_24 : decode b_R_is 24 = .ok (.iload_n 1, 1) := by decide +kernel
theorem d_R_is_25 : decode b_R_is 25 = .ok (.ifCond .ne 13, 3) := by decide +kernel
theorem d_R_is_28 : decode b_R_is 28 = .ok (.aload_n 0, 1) := by decide +kernel
theorem d_R_is_29 : decode b_R_is 29 = .ok (.getfield 78, 3) := by decide +kernel
theorem d_R_is_32 : decode b_R_is 32 = .ok (.ifCond .eq 32, 3) := by decide +kernel
theorem d_R_is_35 : decode b_R_is 35 = .ok (.goto 25, 3) := by decide +kernel
theorem d_R_is_38 : decode b_R_is 38 = .ok (.iload_n 1, 1) := by decide +kernel
theorem d_R_is_39 : decode b_R_is 39 = .ok (.iconst 1, 1) := by decide +kernel
theorem d_R_is_40 : decode b_R_is 40 = .ok (.if_icmp .ne 13, 3) := by decide +kernel
theorem d_R_is_43 : decode b_R_is 43 = .ok (.aload_n 0, 1) := by decide +kernel
theorem d_R_is_44 : decode b_R_is 44 = .ok (.getfield 137, 3) := by decide +kernel
theorem d_R_is_47 : decode b_R_is 47 = .ok (.ifCond .eq 17, 3) := by decide +kernel
theorem d_R_is_50 : decode b_R_is 50 = .ok (.goto 10, 3) := by decide +kernel
theorem d_R_is_53 : decode b_R_is 53 = .ok (.aload_n 0, 1) := by decide +kernel
theorem d_R_is_54 : decode b_R_is 54 = .ok (.getfield 16, 3) := by decide +kernel
theorem d_R_is_57 : decode b_R_is 57 = .ok (.ifCond .lt 7, 3) := by decide +kernel
theorem d_R_is_60 : decode b_R_is 60 = .ok (.iconst 1, 1) := by decide +kernel
theorem d_R_is_61 : decode b_R_is 61 = .ok (.goto 4, 3) := by decide +kernel
theorem d_R_is_64 : decode b_R_is 64 = .ok (.iconst 0, 1) := by decide +kernel
theorem d_R_is_65 : decode b_R_is 65 = .ok (.ireturn, 1) := by decide +kernel
theorem d_R_states_0 : decode b_R_states 0 = .ok (.aload_n 0, 1) := by decide +kernel
theorem d_R_states_1 : decode b_R_states 1 = .ok (.iconst 0, 1) := by decide +kernel
theorem d_R_states_2 : decode b_R_states 2 = .ok (.putfield 26, 3) := by decide +kernel
theorem d_R_states_5 : decode b_R_states 5 = .ok (.aload_n 0, 1) := by decide +kernel
theorem d_R_states_6 : decode b_R_states 6 = .ok (.getfield 143, 3) := by decide +kernel
theorem d_R_states_9 : decode b_R_states 9 = .ok (.lreturn, 1) := by decide +kernel

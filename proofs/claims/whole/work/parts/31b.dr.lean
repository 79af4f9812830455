theorem d_R_difference_18 : decode b_R_difference 18 = .ok (.getfield 64, 3) := by decide +kernel
theorem d_R_difference_21 : decode b_R_difference 21 = .ok (.isub, 1) := by decide +kernel
theorem d_R_difference_22 : decode b_R_difference 22 = .ok (.putfield 64, 3) := by decide +kernel
theorem d_R_difference_25 : decode b_R_difference 25 = .ok (.iload 4, 2) := by decide +kernel
theorem d_R_difference_27 : decode b_R_difference 27 = .ok (.ireturn, 1) := by decide +kernel
theorem d_R_reckon_0 : decode b_R_reckon 0 = .ok (.aload_n 0, 1) := by decide +kernel
theorem d_R_reckon_1 : decode b_R_reckon 1 = .ok (.getfield 13, 3) := by decide +kernel
theorem d_R_reckon_4 : decode b_R_reckon 4 = .ok (.bipush 7, 2) := by decide +kernel
theorem d_R_reckon_6 : decode b_R_reckon 6 = .ok (.iaload, 1) := by decide +kernel
theorem d_R_reckon_7 : decode b_R_reckon 7 = .ok (.istore_n 3, 1) := by decide +kernel
theorem d_R_reckon_8 : decode b_R_reckon 8 = .ok (.iload_n 1, 1) := by decide +kernel
theorem d_R_reckon_9 : decode b_R_reckon 9 = .ok (.iconst 2, 1) := by decide +kernel
theorem d_R_reckon_10 : decode b_R_reckon 10 = .ok (.if_icmp .ge 32, 3) := by decide +kernel
theorem d_R_reckon_13 : decode b_R_reckon 13 = .ok (.aload_n 0, 1) := by decide +kernel
theorem d_R_reckon_14 : decode b_R_reckon 14 = .ok (.getfield 13, 3) := by decide +kernel
theorem d_R_reckon_17 : decode b_R_reckon 17 = .ok (.bipush 7, 2) := by decide +kernel
theorem d_R_reckon_19 : decode b_R_reckon 19 = .ok (.aload_n 0, 1) := by decide +kernel
theorem d_R_reckon_20 : decode b_R_reckon 20 = .ok (.iload_n 3, 1) := by decide +kernel
theorem d_R_reckon_21 : decode b_R_reckon 21 = .ok (.iload_n 2, 1) := by decide +kernel
theorem d_R_reckon_22 : decode b_R_reckon 22 = .ok (.iload_n 1, 1) := by decide +kernel
theorem d_R_reckon_23 : decode b_R_reckon 23 = .ok (.iconst 1, 1) := by decide +kernel
theorem d_R_reckon_24 : decode b_R_reckon 24 = .ok (.if_icmp .ne 10, 3) := by decide +kernel
theorem d_R_reckon_27 : decode b_R_reckon 27 = .ok (.aload_n 0, 1) := by decide +kernel
theorem d_R_reckon_28 : decode b_R_reckon 28 = .ok (.getfield 64, 3) := by decide +kernel
theorem d_R_reckon_31 : decode b_R_reckon 31 = .ok (.goto 4, 3) := by decide +kernel
theorem d_R_reckon_34 : decode b_R_reckon 34 = .ok (.iconst 0, 1) := by decide +kernel
theorem d_R_reckon_35 : decode b_R_reckon 35 = .ok (.invokevirtual 71, 3) := by decide +kernel
theorem d_R_reckon_38 : decode b_R_reckon 38 = .ok (.iastore, 1) := by decide +kernel
theorem d_R_reckon_39 : decode b_R_reckon 39 = .ok (.goto 137, 3) := by decide +kernel
theorem d_R_reckon_42 : decode b_R_reckon 42 = .ok (.iload_n 1, 1) := by decide +kernel
theorem d_R_reckon_43 : decode b_R_reckon 43 = .ok (.iconst 4, 1) := by decide +kernel
theorem d_R_reckon_44 : decode b_R_reckon 44 = .ok (.if_icmp .ge 32, 3) := by decide +kernel
theorem d_R_reckon_47 : decode b_R_reckon 47 = .ok (.aload_n 0, 1) := by decide +kernel
theorem d_R_reckon_48 : decode b_R_reckon 48 = .ok (.getfield 13, 3) := by decide +kernel
theorem d_R_reckon_51 : decode b_R_reckon 51 = .ok (.bipush 7, 2) := by decide +kernel
theorem d_R_reckon_53 : decode b_R_reckon 53 = .ok (.aload_n 0, 1) := by decide +kernel
theorem d_R_reckon_54 : decode b_R_reckon 54 = .ok (.iload_n 3, 1) := by decide +kernel
theorem d_R_reckon_55 : decode b_R_reckon 55 = .ok (.iload_n 2, 1) := by decide +kernel
theorem d_R_reckon_56 : decode b_R_reckon 56 = .ok (.iload_n 1, 1) := by decide +kernel
theorem d_R_reckon_57 : decode b_R_reckon 57 = .ok (.iconst 3, 1) := by decide +kernel
theorem d_R_reckon_58 : decode b_R_reckon 58 = .ok (.if_icmp .ne 10, 3) := by decide +kernel
theorem d_R_reckon_61 : decode b_R_reckon 61 = .ok (.aload_n 0, 1) := by decide +kernel
theorem d_R_reckon_62 : decode b_R_reckon 62 = .ok (.getfield 64, 3) := by decide +kernel
theorem d_R_reckon_65 : decode b_R_reckon 65 = .ok (.goto 4, 3) := by decide +kernel
theorem d_R_reckon_68 : decode b_R_reckon 68 = .ok (.iconst 0, 1) := by decide +kernel
theorem d_R_reckon_69 : decode b_R_reckon 69 = .ok (.invokevirtual 75, 3) := by decide +kernel
theorem d_R_reckon_72 : decode b_R_reckon 72 = .ok (.iastore, 1) := by decide +kernel
theorem d_R_reckon_73 : decode b_R_reckon 73 = .ok (.goto 103, 3) := by decide +kernel
theorem d_R_reckon_76 : decode b_R_reckon 76 = .ok (.iload_n 1, 1) := by decide +kernel
theorem d_R_reckon_77 : decode b_R_reckon 77 = .ok (.bipush 7, 2) := by decide +kernel
theorem d_R_reckon_79 : decode b_R_reckon 79 = .ok (.if_icmp .ne 15, 3) := by decide +kernel
theorem d_R_reckon_82 : decode b_R_reckon 82 = .ok (.aload_n 0, 1) := by decide +kernel
theorem d_R_reckon_83 : decode b_R_reckon 83 = .ok (.iload_n 3, 1) := by decide +kernel
theorem d_R_reckon_84 : decode b_R_reckon 84 = .ok (.iload_n 2, 1) := by decide +kernel
theorem d_R_reckon_85 : decode b_R_reckon 85 = .ok (.iconst 0, 1) := by decide +kernel
theorem d_R_reckon_86 : decode b_R_reckon 86 = .ok (.invokevirtual 75, 3) := by decide +kernel
theorem d_R_reckon_89 : decode b_R_reckon 89 = .ok (.istore 4, 2) := by decide +kernel
theorem d_R_reckon_91 : decode b_R_reckon 91 = .ok (.goto 85, 3) := by decide +kernel
theorem d_R_reckon_94 : decode b_R_reckon 94 = .ok (.aload_n 0, 1) := by decide +kernel
theorem d_R_reckon_95 : decode b_R_reckon 95 = .ok (.getfield 13, 3) := by decide +kernel
theorem d_R_reckon_98 : decode b_R_reckon 98 = .ok (.bipush 7, 2) := by decide +kernel
theorem d_R_reckon_100 : decode b_R_reckon 100 = .ok (.iload_n 1, 1) := by decide +kernel
theorem d_R_reckon_101 : decode b_R_reckon 101 = .ok (.iconst 4, 1) := by decide +kernel
theorem d_R_reckon_102 : decode b_R_reckon 102 = .ok (.if_icmp .ne 9, 3) := by decide +kernel
theorem d_R_reckon_105 : decode b_R_reckon 105 = .ok (.iload_n 3, 1) := by decide +kernel
theorem d_R_reckon_106 : decode b_R_reckon 106 = .ok (.iload_n 2, 1) := by decide +kernel
theorem d_R_reckon_107 : decode b_R_reckon 107 = .ok (.iand, 1) := by decide +kernel
theorem d_R_reckon_108 : decode b_R_reckon 108 = .ok (.goto 17, 3) := by decide +kernel
theorem d_R_reckon_111 : decode b_R_reckon 111 = .ok (.iload_n 1, 1) := by decide +kernel
theorem d_R_reckon_112 : decode b_R_reckon 112 = .ok (.iconst 5, 1) := by decide +kernel
theorem d_R_reckon_113 : decode b_R_reckon 113 = .ok (.if_icmp .ne 9, 3) := by decide +kernel
theorem d_R_reckon_116 : decode b_R_reckon 116 = .ok (.iload_n 3, 1) := by decide +kernel
theorem d_R_reckon_117 : decode b_R_reckon 117 = .ok (.iload_n 2, 1) := by decide +kernel
theorem d_R_reckon_118 : decode b_R_reckon 118 = .ok (.ixor, 1) := by decide +kernel
theorem d_R_reckon_119 : decode b_R_reckon 119 = .ok (.goto 6, 3) := by decide +kernel
theorem d_R_reckon_122 : decode b_R_reckon 122 = .ok (.iload_n 3, 1) := by decide +kernel
theorem d_R_reckon_123 : decode b_R_reckon 123 = .ok (.iload_n 2, 1) := by decide +kernel
theorem d_R_reckon_124 : decode b_R_reckon 124 = .ok (.ior, 1) := by decide +kernel
theorem d_R_reckon_125 : decode b_R_reckon 125 = .ok (.iastore, 1) := by decide +kernel
theorem d_R_reckon_126 : decode b_R_reckon 126 = .ok (.aload_n 0, 1) := by decide +kernel
theorem d_R_reckon_127 : decode b_R_reckon 127 = .ok (.iload_n 1, 1) := by decide +kernel
theorem d_R_reckon_128 : decode b_R_reckon 128 = .ok (.iconst 4, 1) := by decide +kernel
theorem d_R_reckon_129 : decode b_R_reckon 129 = .ok (.if_icmp .ne 27, 3) := by decide +kernel
theorem d_R_reckon_132 : decode b_R_reckon 132 = .ok (.iload_n 3, 1) := by decide +kernel
theorem d_R_reckon_133 : decode b_R_reckon 133 = .ok (.bipush 8, 2) := by decide +kernel
theorem d_R_reckon_135 : decode b_R_reckon 135 = .ok (.idiv, 1) := by decide +kernel
theorem d_R_reckon_136 : decode b_R_reckon 136 = .ok (.iconst 2, 1) := by decide +kernel
theorem d_R_reckon_137 : decode b_R_reckon 137 = .ok (.irem, 1) := by decide +kernel
theorem d_R_reckon_138 : decode b_R_reckon 138 = .ok (.iconst 1, 1) := by decide +kernel
theorem d_R_reckon_139 : decode b_R_reckon 139 = .ok (.if_icmp .eq 13, 3) := by decide +kernel
theorem d_R_reckon_142 : decode b_R_reckon 142 = .ok (.iload_n 2, 1) := by decide +kernel
theorem d_R_reckon_143 : decode b_R_reckon 143 = .ok (.bipush 8, 2) := by decide +kernel
theorem d_R_reckon_145 : decode b_R_reckon 145 = .ok (.idiv, 1) := by decide +kernel
theorem d_R_reckon_146 : decode b_R_reckon 146 = .ok (.iconst 2, 1) := by decide +kernel
theorem d_R_reckon_147 : decode b_R_reckon 147 = .ok (.irem, 1) := by decide +kernel
theorem d_R_reckon_148 : decode b_R_reckon 148 = .ok (.iconst 1, 1) := by decide +kernel
theorem d_R_reckon_149 : decode b_R_reckon 149 = .ok (.if_icmp .ne 7, 3) := by decide +kernel
theorem d_R_reckon_152 : decode b_R_reckon 152 = .ok (.iconst 1, 1) := by decide +kernel
theorem d_R_reckon_153 : decode b_R_reckon 153 = .ok (.goto 4, 3) := by decide +kernel
theorem d_R_reckon_156 : decode b_R_reckon 156 = .ok (.iconst 0, 1) := by decide +kernel
theorem d_R_reckon_157 : decode b_R_reckon 157 = .ok (.putfield 61, 3) := by decide +kernel
theorem d_R_reckon_160 : decode b_R_reckon 160 = .ok (.aload_n 0, 1) := by decide +kernel
theorem d_R_reckon_161 : decode b_R_reckon 161 = .ok (.iconst 0, 1) := by decide +kernel
theorem d_R_reckon_162 : decode b_R_reckon 162 = .ok (.putfield 64, 3) := by decide +kernel
theorem d_R_reckon_165 : decode b_R_reckon 165 = .ok (.aload_n 0, 1) := by decide +kernel
theorem d_R_reckon_166 : decode b_R_reckon 166 = .ok (.aload_n 0, 1) := by decide +kernel
theorem d_R_reckon_167 : decode b_R_reckon 167 = .ok (.getfield 13, 3) := by decide +kernel
theorem d_R_reckon_170 : decode b_R_reckon 170 = .ok (.bipush 7, 2) := by decide +kernel
theorem d_R_reckon_172 : decode b_R_reckon 172 = .ok (.iaload, 1) := by decide +kernel
theorem d_R_reckon_173 : decode b_R_reckon 173 = .ok (.invokevirtual 67, 3) := by decide +kernel
theorem d_R_reckon_176 : decode b_R_reckon 176 = .ok (.return_, 1) := by decide +kernel
theorem d_R_instruction_0 : decode b_R_instruction 0 = .ok (.iload_n 1, 1) := by decide +kernel
theorem d_R_instruction_1 : decode b_R_instruction 1 = .ok (.bipush 118, 2) := by decide +kernel
theorem d_R_instruction_3 : decode b_R_instruction 3 = .ok (.if_icmp .ne 11, 3) := by decide +kernel
theorem d_R_instruction_6 : decode b_R_instruction 6 = .ok (.aload_n 0, 1) := by decide +kernel
theorem d_R_instruction_7 : decode b_R_instruction 7 = .ok (.iconst 1, 1) := by decide +kernel
theorem d_R_instruction_8 : decode b_R_instruction 8 = .ok (.putfield 78, 3) := by decide +kernel
theorem d_R_instruction_11 : decode b_R_instruction 11 = .ok (.bipush 7, 2) := by decide +kernel
theorem d_R_instruction_13 : decode b_R_instruction 13 = .ok (.ireturn, 1) := by decide +kernel
theorem d_R_instruction_14 : decode b_R_instruction 14 = .ok (.iload_n 1, 1) := by decide +kernel
theorem d_R_instruction_15 : decode b_R_instruction 15 = .ok (.bipush 64, 2) := by decide +kernel
theorem d_R_instruction_17 : decode b_R_instruction 17 = .ok (.if_icmp .ge 9, 3) := by decide +kernel
theorem d_R_instruction_20 : decode b_R_instruction 20 = .ok (.aload_n 0, 1) := by decide +kernel
theorem d_R_instruction_21 : decode b_R_instruction 21 = .ok (.iload_n 1, 1) := by decide +kernel
theorem d_R_instruction_22 : decode b_R_instruction 22 = .ok (.invokevirtual 82, 3) := by decide +kernel
theorem d_R_instruction_25 : decode b_R_instruction 25 = .ok (.ireturn, 1) := by decide +kernel
theorem d_R_instruction_26 : decode b_R_instruction 26 = .ok (.iload_n 1, 1) := by decide +kernel
theorem d_R_instruction_27 : decode b_R_instruction 27 = .ok (.bipush 8, 2) := by decide +kernel
theorem d_R_instruction_29 : decode b_R_instruction 29 = .ok (.irem, 1) := by decide +kernel
theorem d_R_instruction_30 : decode b_R_instruction 30 = .ok (.istore_n 2, 1) := by decide +kernel
theorem d_R_instruction_31 : decode b_R_instruction 31 = .ok (.iload_n 1, 1) := by decide +kernel
theorem d_R_instruction_32 : decode b_R_instruction 32 = .ok (.bipush 8, 2) := by decide +kernel
theorem d_R_instruction_34 : decode b_R_instruction 34 = .ok (.idiv, 1) := by decide +kernel
theorem d_R_instruction_35 : decode b_R_instruction 35 = .ok (.bipush 8, 2) := by decide +kernel
theorem d_R_instruction_37 : decode b_R_instruction 37 = .ok (.irem, 1) := by decide +kernel
theorem d_R_instruction_38 : decode b_R_instruction 38 = .ok (.istore_n 3, 1) := by decide +kernel
theorem d_R_instruction_39 : decode b_R_instruction 39 = .ok (.iload_n 1, 1) := by decide +kernel
theorem d_R_instruction_40 : decode b_R_instruction 40 = .ok (.sipush 128, 3) := by decide +kernel
theorem d_R_instruction_43 : decode b_R_instruction 43 = .ok (.if_icmp .ge 32, 3) := by decide +kernel
theorem d_R_instruction_46 : decode b_R_instruction 46 = .ok (.aload_n 0, 1) := by decide +kernel
theorem d_R_instruction_47 : decode b_R_instruction 47 = .ok (.iload_n 3, 1) := by decide +kernel
theorem d_R_instruction_48 : decode b_R_instruction 48 = .ok (.aload_n 0, 1) := by decide +kernel
theorem d_R_instruction_49 : decode b_R_instruction 49 = .ok (.iload_n 2, 1) := by decide +kernel
theorem d_R_instruction_50 : decode b_R_instruction 50 = .ok (.invokevirtual 85, 3) := by decide +kernel
theorem d_R_instruction_53 : decode b_R_instruction 53 = .ok (.invokevirtual 88, 3) := by decide +kernel
theorem d_R_instruction_56 : decode b_R_instruction 56 = .ok (.iload_n 2, 1) := by decide +kernel
theorem d_R_instruction_57 : decode b_R_instruction 57 = .ok (.bipush 6, 2) := by decide +kernel
theorem d_R_instruction_59 : decode b_R_instruction 59 = .ok (.if_icmp .eq 9, 3) := by decide +kernel
theorem d_R_instruction_62 : decode b_R_instruction 62 = .ok (.iload_n 3, 1) := by decide +kernel
theorem d_R_instruction_63 : decode b_R_instruction 63 = .ok (.bipush 6, 2) := by decide +kernel
theorem d_R_instruction_65 : decode b_R_instruction 65 = .ok (.if_icmp .ne 8, 3) := by decide +kernel
theorem d_R_instruction_68 : decode b_R_instruction 68 = .ok (.bipush 7, 2) := by decide +kernel
theorem d_R_instruction_70 : decode b_R_instruction 70 = .ok (.goto 4, 3) := by decide +kernel
theorem d_R_instruction_73 : decode b_R_instruction 73 = .ok (.iconst 5, 1) := by decide +kernel
theorem d_R_instruction_74 : decode b_R_instruction 74 = .ok (.ireturn, 1) := by decide +kernel
theorem d_R_instruction_75 : decode b_R_instruction 75 = .ok (.iload_n 1, 1) := by decide +kernel
theorem d_R_instruction_76 : decode b_R_instruction 76 = .ok (.sipush 192, 3) := by decide +kernel
theorem d_R_instruction_79 : decode b_R_instruction 79 = .ok (.if_icmp .ge 26, 3) := by decide +kernel
theorem d_R_instruction_82 : decode b_R_instruction 82 = .ok (.aload_n 0, 1) := by decide +kernel
theorem d_R_instruction_83 : decode b_R_instruction 83 = .ok (.iload_n 3, 1) := by decide +kernel
theorem d_R_instruction_84 : decode b_R_instruction 84 = .ok (.aload_n 0, 1) := by decide +kernel
theorem d_R_instruction_85 : decode b_R_instruction 85 = .ok (.iload_n 2, 1) := by decide +kernel
theorem d_R_instruction_86 : decode b_R_instruction 86 = .ok (.invokevirtual 85, 3) := by decide +kernel
theorem d_R_instruction_89 : decode b_R_instruction 89 = .ok (.invokevirtual 91, 3) := by decide +kernel
theorem d_R_instruction_92 : decode b_R_instruction 92 = .ok (.iload_n 2, 1) := by decide +kernel
theorem d_R_instruction_93 : decode b_R_instruction 93 = .ok (.bipush 6, 2) := by decide +kernel
theorem d_R_instruction_95 : decode b_R_instruction 95 = .ok (.if_icmp .ne 8, 3) := by decide +kernel
theorem d_R_instruction_98 : decode b_R_instruction 98 = .ok (.bipush 7, 2) := by decide +kernel
theorem d_R_instruction_100 : decode b_R_instruction 100 = .ok (.goto 4, 3) := by decide +kernel
theorem d_R_instruction_103 : decode b_R_instruction 103 = .ok (.iconst 4, 1) := by decide +kernel
theorem d_R_instruction_104 : decode b_R_instruction 104 = .ok (.ireturn, 1) := by decide +kernel
theorem d_R_instruction_105 : decode b_R_instruction 105 = .ok (.aload_n 0, 1) := by decide +kernel
theorem d_R_instruction_106 : decode b_R_instruction 106 = .ok (.iload_n 1, 1) := by decide +kernel
theorem d_R_instruction_107 : decode b_R_instruction 107 = .ok (.invokevirtual 94, 3) := by decide +kernel
theorem d_R_instruction_110 : decode b_R_instruction 110 = .ok (.ireturn, 1) := by decide +kernel
theorem d_R_first_0 : decode b_R_first 0 = .ok (.iload_n 1, 1) := by decide +kernel
theorem d_R_first_1 : decode b_R_first 1 = .ok (.bipush 8, 2) := by decide +kernel
theorem d_R_first_3 : decode b_R_first 3 = .ok (.irem, 1) := by decide +kernel
theorem d_R_first_4 : decode b_R_first 4 = .ok (.istore_n 2, 1) := by decide +kernel
theorem d_R_first_5 : decode b_R_first 5 = .ok (.iload_n 1, 1) := by decide +kernel
theorem d_R_first_6 : decode b_R_first 6 = .ok (.bipush 8, 2) := by decide +kernel
theorem d_R_first_8 : decode b_R_first 8 = .ok (.idiv, 1) := by decide +kernel
theorem d_R_first_9 : decode b_R_first 9 = .ok (.istore_n 3, 1) := by decide +kernel
theorem d_R_first_10 : decode b_R_first 10 = .ok (.iload_n 1, 1) := by decide +kernel
theorem d_R_first_11 : decode b_R_first 11 = .ok (.bipush 16, 2) := by decide +kernel
theorem d_R_first_13 : decode b_R_first 13 = .ok (.idiv, 1) := by decide +kernel
theorem d_R_first_14 : decode b_R_first 14 = .ok (.istore 4, 2) := by decide +kernel
theorem d_R_first_16 : decode b_R_first 16 = .ok (.iload_n 1, 1) := by decide +kernel
theorem d_R_first_17 : decode b_R_first 17 = .ok (.bipush 8, 2) := by decide +kernel
theorem d_R_first_19 : decode b_R_first 19 = .ok (.idiv, 1) := by decide +kernel
theorem d_R_first_20 : decode b_R_first 20 = .ok (.iconst 2, 1) := by decide +kernel
theorem d_R_first_21 : decode b_R_first 21 = .ok (.irem, 1) := by decide +kernel
theorem d_R_first_22 : decode b_R_first 22 = .ok (.iconst 1, 1) := by decide +kernel
theorem d_R_first_23 : decode b_R_first 23 = .ok (.if_icmp .ne 7, 3) := by decide +kernel
theorem d_R_first_26 : decode b_R_first 26 = .ok (.iconst 1, 1) := by decide +kernel
theorem d_R_first_27 : decode b_R_first 27 = .ok (.goto 4, 3) := by decide +kernel
theorem d_R_first_30 : decode b_R_first 30 = .ok (.iconst 0, 1) := by decide +kernel
theorem d_R_first_31 : decode b_R_first 31 = .ok (.istore 5, 2) := by decide +kernel
theorem d_R_first_33 : decode b_R_first 33 = .ok (.iload_n 2, 1) := by decide +kernel
theorem d_R_first_34 : decode b_R_first 34 = .ok (.ifCond .ne 5, 3) := by decide +kernel
theorem d_R_first_37 : decode b_R_first 37 = .ok (.iconst 4, 1) := by decide +kernel
theorem d_R_first_38 : decode b_R_first 38 = .ok (.ireturn, 1) := by decide +kernel
theorem d_R_first_39 : decode b_R_first 39 = .ok (.iload_n 2, 1) := by decide +kernel
theorem d_R_first_40 : decode b_R_first 40 = .ok (.iconst 1, 1) := by decide +kernel
theorem d_R_first_41 : decode b_R_first 41 = .ok (.if_icmp .ne 18, 3) := by decide +kernel
theorem d_R_first_44 : decode b_R_first 44 = .ok (.iload 5, 2) := by decide +kernel
theorem d_R_first_46 : decode b_R_first 46 = .ok (.ifCond .ne 13, 3) := by decide +kernel
theorem d_R_first_49 : decode b_R_first 49 = .ok (.aload_n 0, 1) := by decide +kernel
theorem d_R_first_50 : decode b_R_first 50 = .ok (.iload 4, 2) := by decide +kernel
theorem d_R_first_52 : decode b_R_first 52 = .ok (.aload_n 0, 1) := by decide +kernel
theorem d_R_first_53 : decode b_R_first 53 = .ok (.invokevirtual 97, 3) := by decide +kernel
theorem d_R_first_56 : decode b_R_first 56 = .ok (.invokevirtual 100, 3) := by decide +kernel
theorem d_R_first_59 : decode b_R_first 59 = .ok (.iload_n 2, 1) := by decide +kernel
theorem d_R_first_60 : decode b_R_first 60 = .ok (.iconst 1, 1) := by decide +kernel
theorem d_R_first_61 : decode b_R_first 61 = .ok (.if_icmp .ne 37, 3) := by decide +kernel
theorem d_R_first_64 : decode b_R_first 64 = .ok (.iload 5, 2) := by decide +kernel
theorem d_R_first_66 : decode b_R_first 66 = .ok (.ifCond .eq 32, 3) := by decide +kernel
theorem d_R_first_69 : decode b_R_first 69 = .ok (.aload_n 0, 1) := by decide +kernel
theorem d_R_first_70 : decode b_R_first 70 = .ok (.invokevirtual 29, 3) := by decide +kernel
theorem d_R_first_73 : decode b_R_first 73 = .ok (.aload_n 0, 1) := by decide +kernel
theorem d_R_first_74 : decode b_R_first 74 = .ok (.iload 4, 2) := by decide +kernel
theorem d_R_first_76 : decode b_R_first 76 = .ok (.invokevirtual 103, 3) := by decide +kernel
theorem d_R_first_79 : decode b_R_first 79 = .ok (.iadd, 1) := by decide +kernel
theorem d_R_first_80 : decode b_R_first 80 = .ok (.istore 6, 2) := by decide +kernel
theorem d_R_first_82 : decode b_R_first 82 = .ok (.aload_n 0, 1) := by decide +kernel
theorem d_R_first_83 : decode b_R_first 83 = .ok (.iload 6, 2) := by decide +kernel
theorem d_R_first_85 : decode b_R_first 85 = .ok (.ldc 48, 2) := by decide +kernel
theorem d_R_first_87 : decode b_R_first 87 = .ok (.idiv, 1) := by decide +kernel
theorem d_R_first_88 : decode b_R_first 88 = .ok (.putfield 64, 3) := by decide +kernel
theorem d_R_first_91 : decode b_R_first 91 = .ok (.aload_n 0, 1) := by decide +kernel
theorem d_R_first_92 : decode b_R_first 92 = .ok (.iconst 2, 1) := by decide +kernel
theorem d_R_first_93 : decode b_R_first 93 = .ok (.iload 6, 2) := by decide +kernel
theorem d_R_first_95 : decode b_R_first 95 = .ok (.invokevirtual 100, 3) := by decide +kernel
theorem d_R_first_98 : decode b_R_first 98 = .ok (.iload_n 2, 1) := by decide +kernel
theorem d_R_first_99 : decode b_R_first 99 = .ok (.iconst 1, 1) := by decide +kernel
theorem d_R_first_100 : decode b_R_first 100 = .ok (.if_icmp .ne 6, 3) := by decide +kernel
theorem d_R_first_103 : decode b_R_first 103 = .ok (.bipush 10, 2) := by decide +kernel
theorem d_R_first_105 : decode b_R_first 105 = .ok (.ireturn, 1) := by decide +kernel
theorem d_R_first_106 : decode b_R_first 106 = .ok (.iload_n 2, 1) := by decide +kernel
theorem d_R_first_107 : decode b_R_first 107 = .ok (.iconst 2, 1) := by decide +kernel
theorem d_R_first_108 : decode b_R_first 108 = .ok (.if_icmp .ne 9, 3) := by decide +kernel
theorem d_R_first_111 : decode b_R_first 111 = .ok (.aload_n 0, 1) := by decide +kernel
theorem d_R_first_112 : decode b_R_first 112 = .ok (.iload_n 1, 1) := by decide +kernel
theorem d_R_first_113 : decode b_R_first 113 = .ok (.invokevirtual 106, 3) := by decide +kernel
theorem d_R_first_116 : decode b_R_first 116 = .ok (.ireturn, 1) := by decide +kernel
theorem d_R_first_117 : decode b_R_first 117 = .ok (.iload_n 2, 1) := by decide +kernel
theorem d_R_first_118 : decode b_R_first 118 = .ok (.iconst 3, 1) := by decide +kernel
theorem d_R_first_119 : decode b_R_first 119 = .ok (.if_icmp .ne 29, 3) := by decide +kernel
theorem d_R_first_122 : decode b_R_first 122 = .ok (.aload_n 0, 1) := by decide +kernel
theorem d_R_first_123 : decode b_R_first 123 = .ok (.iload 4, 2) := by decide +kernel
theorem d_R_first_125 : decode b_R_first 125 = .ok (.aload_n 0, 1) := by decide +kernel
theorem d_R_first_126 : decode b_R_first 126 = .ok (.iload 4, 2) := by decide +kernel
theorem d_R_first_128 : decode b_R_first 128 = .ok (.invokevirtual 103, 3) := by decide +kernel
theorem d_R_first_131 : decode b_R_first 131 = .ok (.iload 5, 2) := by decide +kernel
theorem d_R_first_133 : decode b_R_first 133 = .ok (.ifCond .eq 8, 3) := by decide +kernel
theorem d_R_first_136 : decode b_R_first 136 = .ok (.ldc 44, 2) := by decide +kernel
theorem d_R_first_138 : decode b_R_first 138 = .ok (.goto 4, 3) := by decide +kernel
theorem d_R_first_141 : decode b_R_first 141 = .ok (.iconst 1, 1) := by decide +kernel
theorem d_R_first_142 : decode b_R_first 142 = .ok (.iadd, 1) := by decide +kernel
theorem d_R_first_143 : decode b_R_first 143 = .ok (.invokevirtual 100, 3) := by decide +kernel
theorem d_R_first_146 : decode b_R_first 146 = .ok (.iconst 5, 1) := by decide +kernel
theorem d_R_first_147 : decode b_R_first 147 = .ok (.ireturn, 1) := by decide +kernel
theorem d_R_first_148 : decode b_R_first 148 = .ok (.iload_n 2, 1) := by decide +kernel
theorem d_R_first_149 : decode b_R_first 149 = .ok (.bipush 6, 2) := by decide +kernel
theorem d_R_first_151 : decode b_R_first 151 = .ok (.if_icmp .ne 26, 3) := by decide +kernel
theorem d_R_first_154 : decode b_R_first 154 = .ok (.aload_n 0, 1) := by decide +kernel
theorem d_R_first_155 : decode b_R_first 155 = .ok (.iload_n 3, 1) := by decide +kernel
theorem d_R_first_156 : decode b_R_first 156 = .ok (.aload_n 0, 1) := by decide +kernel
theorem d_R_first_157 : decode b_R_first 157 = .ok (.invokevirtual 49, 3) := by decide +kernel
theorem d_R_first_160 : decode b_R_first 160 = .ok (.invokevirtual 88, 3) := by decide +kernel
theorem d_R_first_163 : decode b_R_first 163 = .ok (.iload_n 3, 1) := by decide +kernel
theorem d_R_first_164 : decode b_R_first 164 = .ok (.bipush 6, 2) := by decide +kernel
theorem d_R_first_166 : decode b_R_first 166 = .ok (.if_icmp .ne 8, 3) := by decide +kernel
theorem d_R_first_169 : decode b_R_first 169 = .ok (.bipush 10, 2) := by decide +kernel
theorem d_R_first_171 : decode b_R_first 171 = .ok (.goto 5, 3) := by decide +kernel
theorem d_R_first_174 : decode b_R_first 174 = .ok (.bipush 7, 2) := by decide +kernel
theorem d_R_first_176 : decode b_R_first 176 = .ok (.ireturn, 1) := by decide +kernel
theorem d_R_first_177 : decode b_R_first 177 = .ok (.iload_n 2, 1) := by decide +kernel
theorem d_R_first_178 : decode b_R_first 178 = .ok (.bipush 7, 2) := by decide +kernel
theorem d_R_first_180 : decode b_R_first 180 = .ok (.if_icmp .ne 10, 3) := by decide +kernel
theorem d_R_first_183 : decode b_R_first 183 = .ok (.aload_n 0, 1) := by decide +kernel
theorem d_R_first_184 : decode b_R_first 184 = .ok (.iload_n 3, 1) := by decide +kernel
theorem d_R_first_185 : decode b_R_first 185 = .ok (.invokevirtual 109, 3) := by decide +kernel
theorem d_R_first_188 : decode b_R_first 188 = .ok (.iconst 4, 1) := by decide +kernel
theorem d_R_first_189 : decode b_R_first 189 = .ok (.ireturn, 1) := by decide +kernel
theorem d_R_first_190 : decode b_R_first 190 = .ok (.aload_n 0, 1) := by decide +kernel
theorem d_R_first_191 : decode b_R_first 191 = .ok (.iload_n 3, 1) := by decide +kernel
theorem d_R_first_192 : decode b_R_first 192 = .ok (.invokevirtual 85, 3) := by decide +kernel
theorem d_R_first_195 : decode b_R_first 195 = .ok (.iload_n 2, 1) := by decide +kernel
theorem d_R_first_196 : decode b_R_first 196 = .ok (.iconst 4, 1) := by decide +kernel
theorem d_R_first_197 : decode b_R_first 197 = .ok (.if_icmp .ne 7, 3) := by decide +kernel
theorem d_R_first_200 : decode b_R_first 200 = .ok (.iconst 1, 1) := by decide +kernel
theorem d_R_first_201 : decode b_R_first 201 = .ok (.goto 6, 3) := by decide +kernel
theorem d_R_first_204 : decode b_R_first 204 = .ok (.sipush 255, 3) := by decide +kernel
theorem d_R_first_207 : decode b_R_first 207 = .ok (.iadd, 1) := by decide +kernel
theorem d_R_first_208 : decode b_R_first 208 = .ok (.sipush 256, 3) := by decide +kernel
theorem d_R_first_211 : decode b_R_first 211 = .ok (.irem, 1) := by decide +kernel
theorem d_R_first_212 : decode b_R_first 212 = .ok (.istore 6, 2) := by decide +kernel
theorem d_R_first_214 : decode b_R_first 214 = .ok (.aload_n 0, 1) := by decide +kernel
theorem d_R_first_215 : decode b_R_first 215 = .ok (.iload_n 2, 1) := by decide +kernel
theorem d_R_first_216 : decode b_R_first 216 = .ok (.iconst 4, 1) := by decide +kernel
theorem d_R_first_217 : decode b_R_first 217 = .ok (.if_icmp .ne 19, 3) := by decide +kernel
theorem d_R_first_220 : decode b_R_first 220 = .ok (.iload 6, 2) := by decide +kernel
theorem d_R_first_222 : decode b_R_first 222 = .ok (.bipush 16, 2) := by decide +kernel
theorem d_R_first_224 : decode b_R_first 224 = .ok (.irem, 1) := by decide +kernel
theorem d_R_first_225 : decode b_R_first 225 = .ok (.ifCond .ne 7, 3) := by decide +kernel
theorem d_R_first_228 : decode b_R_first 228 = .ok (.iconst 1, 1) := by decide +kernel
theorem d_R_first_229 : decode b_R_first 229 = .ok (.goto 22, 3) := by decide +kernel
theorem d_R_first_232 : decode b_R_first 232 = .ok (.iconst 0, 1) := by decide +kernel
theorem d_R_first_233 : decode b_R_first 233 = .ok (.goto 18, 3) := by decide +kernel
theorem d_R_first_236 : decode b_R_first 236 = .ok (.iload 6, 2) := by decide +kernel
theorem d_R_first_238 : decode b_R_first 238 = .ok (.bipush 16, 2) := by decide +kernel
theorem d_R_first_240 : decode b_R_first 240 = .ok (.irem, 1) := by decide +kernel
theorem d_R_first_241 : decode b_R_first 241 = .ok (.bipush 15, 2) := by decide +kernel
theorem d_R_first_243 : decode b_R_first 243 = .ok (.if_icmp .ne 7, 3) := by decide +kernel
theorem d_R_first_246 : decode b_R_first 246 = .ok (.iconst 0, 1) := by decide +kernel
theorem d_R_first_247 : decode b_R_first 247 = .ok (.goto 4, 3) := by decide +kernel
theorem d_R_first_250 : decode b_R_first 250 = .ok (.iconst 1, 1) := by decide +kernel
theorem d_R_first_251 : decode b_R_first 251 = .ok (.putfield 61, 3) := by decide +kernel
theorem d_R_first_254 : decode b_R_first 254 = .ok (.aload_n 0, 1) := by decide +kernel
theorem d_R_first_255 : decode b_R_first 255 = .ok (.iload 6, 2) := by decide +kernel
theorem d_R_first_257 : decode b_R_first 257 = .ok (.invokevirtual 67, 3) := by decide +kernel
theorem d_R_first_260 : decode b_R_first 260 = .ok (.aload_n 0, 1) := by decide +kernel
theorem d_R_first_261 : decode b_R_first 261 = .ok (.iload_n 3, 1) := by decide +kernel
theorem d_R_first_262 : decode b_R_first 262 = .ok (.iload 6, 2) := by decide +kernel
theorem d_R_first_264 : decode b_R_first 264 = .ok (.invokevirtual 88, 3) := by decide +kernel
theorem d_R_first_267 : decode b_R_first 267 = .ok (.iload_n 3, 1) := by decide +kernel
theorem d_R_first_268 : decode b_R_first 268 = .ok (.bipush 6, 2) := by decide +kernel
theorem d_R_first_270 : decode b_R_first 270 = .ok (.if_icmp .ne 8, 3) := by decide +kernel
theorem d_R_first_273 : decode b_R_first 273 = .ok (.bipush 10, 2) := by decide +kernel
theorem d_R_first_275 : decode b_R_first 275 = .ok (.goto 4, 3) := by decide +kernel
theorem d_R_first_278 : decode b_R_first 278 = .ok (.iconst 5, 1) := by decide +kernel
theorem d_R_first_279 : decode b_R_first 279 = .ok (.ireturn, 1) := by decide +kernel
theorem d_R_direct_0 : decode b_R_direct 0 = .ok (.iload_n 1, 1) := by decide +kernel
theorem d_R_direct_1 : decode b_R_direct 1 = .ok (.bipush 8, 2) := by decide +kernel
theorem d_R_direct_3 : decode b_R_direct 3 = .ok (.idiv, 1) := by decide +kernel
theorem d_R_direct_4 : decode b_R_direct 4 = .ok (.istore_n 2, 1) := by decide +kernel
theorem d_R_direct_5 : decode b_R_direct 5 = .ok (.iload_n 2, 1) := by decide +kernel
theorem d_R_direct_6 : decode b_R_direct 6 = .ok (.iconst 4, 1) := by decide +kernel
theorem d_R_direct_7 : decode b_R_direct 7 = .ok (.if_icmp .ge 13, 3) := by decide +kernel
theorem d_R_direct_10 : decode b_R_direct 10 = .ok (.aload_n 0, 1) := by decide +kernel
theorem d_R_direct_11 : decode b_R_direct 11 = .ok (.iload_n 2, 1) := by decide +kernel
theorem d_R_direct_12 : decode b_R_direct 12 = .ok (.iconst 2, 1) := by decide +kernel
theorem d_R_direct_13 : decode b_R_direct 13 = .ok (.idiv, 1) := by decide +kernel
theorem d_R_direct_14 : decode b_R_direct 14 = .ok (.invokevirtual 103, 3) := by decide +kernel
theorem d_R_direct_17 : decode b_R_direct 17 = .ok (.goto 7, 3) := by decide +kernel
theorem d_R_direct_20 : decode b_R_direct 20 = .ok (.aload_n 0, 1) := by decide +kernel
theorem d_R_direct_21 : decode b_R_direct 21 = .ok (.invokevirtual 97, 3) := by decide +kernel
theorem d_R_direct_24 : decode b_R_direct 24 = .ok (.istore_n 3, 1) := by decide +kernel
theorem d_R_direct_25 : decode b_R_direct 25 = .ok (.iload_n 2, 1) := by decide +kernel
theorem d_R_direct_26 : decode b_R_direct 26 = .ok (.iconst 4, 1) := by decide +kernel
theorem d_R_direct_27 : decode b_R_direct 27 = .ok (.if_icmp .ne 33, 3) := by decide +kernel
theorem d_R_direct_30 : decode b_R_direct 30 = .ok (.aload_n 0, 1) := by decide +kernel
theorem d_R_direct_31 : decode b_R_direct 31 = .ok (.iload_n 3, 1) := by decide +kernel
theorem d_R_direct_32 : decode b_R_direct 32 = .ok (.aload_n 0, 1) := by decide +kernel
theorem d_R_direct_33 : decode b_R_direct 33 = .ok (.getfield 13, 3) := by decide +kernel
theorem d_R_direct_36 : decode b_R_direct 36 = .ok (.iconst 5, 1) := by decide +kernel
theorem d_R_direct_37 : decode b_R_direct 37 = .ok (.iaload, 1) := by decide +kernel
theorem d_R_direct_38 : decode b_R_direct 38 = .ok (.invokevirtual 37, 3) := by decide +kernel
theorem d_R_direct_41 : decode b_R_direct 41 = .ok (.aload_n 0, 1) := by decide +kernel
theorem d_R_direct_42 : decode b_R_direct 42 = .ok (.iload_n 3, 1) := by decide +kernel
theorem d_R_direct_43 : decode b_R_direct 43 = .ok (.iconst 1, 1) := by decide +kernel
theorem d_R_direct_44 : decode b_R_direct 44 = .ok (.iadd, 1) := by decide +kernel
theorem d_R_direct_45 : decode b_R_direct 45 = .ok (.ldc 48, 2) := by decide +kernel
theorem d_R_direct_47 : decode b_R_direct 47 = .ok (.irem, 1) := by decide +kernel
theorem d_R_direct_48 : decode b_R_direct 48 = .ok (.aload_n 0, 1) := by decide +kernel
theorem d_R_direct_49 : decode b_R_direct 49 = .ok (.getfield 13, 3) := by decide +kernel
theorem d_R_direct_52 : decode b_R_direct 52 = .ok (.iconst 4, 1) := by decide +kernel
theorem d_R_direct_53 : decode b_R_direct 53 = .ok (.iaload, 1) := by decide +kernel
theorem d_R_direct_54 : decode b_R_direct 54 = .ok (.invokevirtual 37, 3) := by decide +kernel
theorem d_R_direct_57 : decode b_R_direct 57 = .ok (.goto 71, 3) := by decide +kernel
theorem d_R_direct_60 : decode b_R_direct 60 = .ok (.iload_n 2, 1) := by decide +kernel
theorem d_R_direct_61 : decode b_R_direct 61 = .ok (.iconst 5, 1) := by decide +kernel
theorem d_R_direct_62 : decode b_R_direct 62 = .ok (.if_icmp .ne 33, 3) := by decide +kernel
theorem d_R_direct_65 : decode b_R_direct 65 = .ok (.aload_n 0, 1) := by decide +kernel
theorem d_R_direct_66 : decode b_R_direct 66 = .ok (.getfield 13, 3) := by decide +kernel
theorem d_R_direct_69 : decode b_R_direct 69 = .ok (.iconst 5, 1) := by decide +kernel
theorem d_R_direct_70 : decode b_R_direct 70 = .ok (.aload_n 0, 1) := by decide +kernel
theorem d_R_direct_71 : decode b_R_direct 71 = .ok (.iload_n 3, 1) := by decide +kernel
theorem d_R_direct_72 : decode b_R_direct 72 = .ok (.invokevirtual 33, 3) := by decide +kernel
theorem d_R_direct_75 : decode b_R_direct 75 = .ok (.iastore, 1) := by decide +kernel
theorem d_R_direct_76 : decode b_R_direct 76 = .ok (.aload_n 0, 1) := by decide +kernel
theorem d_R_direct_77 : decode b_R_direct 77 = .ok (.getfield 13, 3) := by decide +kernel
theorem d_R_direct_80 : decode b_R_direct 80 = .ok (.iconst 4, 1) := by decide +kernel
theorem d_R_direct_81 : decode b_R_direct 81 = .ok (.aload_n 0, 1) := by decide +kernel
theorem d_R_direct_82 : decode b_R_direct 82 = .ok (.iload_n 3, 1) := by decide +kernel
theorem d_R_direct_83 : decode b_R_direct 83 = .ok (.iconst 1, 1) := by decide +kernel
theorem d_R_direct_84 : decode b_R_direct 84 = .ok (.iadd, 1) := by decide +kernel
theorem d_R_direct_85 : decode b_R_direct 85 = .ok (.ldc 48, 2) := by decide +kernel
theorem d_R_direct_87 : decode b_R_direct 87 = .ok (.irem, 1) := by decide +kernel
theorem d_R_direct_88 : decode b_R_direct 88 = .ok (.invokevirtual 33, 3) := by decide +kernel
theorem d_R_direct_91 : decode b_R_direct 91 = .ok (.iastore, 1) := by decide +kernel
theorem d_R_direct_92 : decode b_R_direct 92 = .ok (.goto 36, 3) := by decide +kernel
theorem d_R_direct_95 : decode b_R_direct 95 = .ok (.iload_n 2, 1) := by decide +kernel
theorem d_R_direct_96 : decode b_R_direct 96 = .ok (.iconst 2, 1) := by decide +kernel
theorem d_R_direct_97 : decode b_R_direct 97 = .ok (.irem, 1) := by decide +kernel
theorem d_R_direct_98 : decode b_R_direct 98 = .ok (.ifCond .ne 18, 3) := by decide +kernel
theorem d_R_direct_101 : decode b_R_direct 101 = .ok (.aload_n 0, 1) := by decide +kernel
theorem d_R_direct_102 : decode b_R_direct 102 = .ok (.iload_n 3, 1) := by decide +kernel
theorem d_R_direct_103 : decode b_R_direct 103 = .ok (.aload_n 0, 1) := by decide +kernel
theorem d_R_direct_104 : decode b_R_direct 104 = .ok (.getfield 13, 3) := by decide +kernel
theorem d_R_direct_107 : decode b_R_direct 107 = .ok (.bipush 7, 2) := by decide +kernel
theorem d_R_direct_109 : decode b_R_direct 109 = .ok (.iaload, 1) := by decide +kernel
theorem d_R_direct_110 : decode b_R_direct 110 = .ok (.invokevirtual 37, 3) := by decide +kernel
theorem d_R_direct_113 : decode b_R_direct 113 = .ok (.goto 15, 3) := by decide +kernel
theorem d_R_direct_116 : decode b_R_direct 116 = .ok (.aload_n 0, 1) := by decide +kernel
theorem d_R_direct_117 : decode b_R_direct 117 = .ok (.getfield 13, 3) := by decide +kernel
theorem d_R_direct_120 : decode b_R_direct 120 = .ok (.bipush 7, 2) := by decide +kernel
theorem d_R_direct_122 : decode b_R_direct 122 = .ok (.aload_n 0, 1) := by decide +kernel
theorem d_R_direct_123 : decode b_R_direct 123 = .ok (.iload_n 3, 1) := by decide +kernel
theorem d_R_direct_124 : decode b_R_direct 124 = .ok (.invokevirtual 33, 3) := by decide +kernel
theorem d_R_direct_127 : decode b_R_direct 127 = .ok (.iastore, 1) := by decide +kernel
theorem d_R_direct_128 : decode b_R_direct 128 = .ok (.iload_n 2, 1) := by decide +kernel
theorem d_R_direct_129 : decode b_R_direct 129 = .ok (.iconst 4, 1) := by decide +kernel
theorem d_R_direct_130 : decode b_R_direct 130 = .ok (.if_icmp .ge 8, 3) := by decide +kernel
theorem d_R_direct_133 : decode b_R_direct 133 = .ok (.bipush 7, 2) := by decide +kernel
theorem d_R_direct_135 : decode b_R_direct 135 = .ok (.goto 16, 3) := by decide +kernel
theorem d_R_direct_138 : decode b_R_direct 138 = .ok (.iload_n 2, 1) := by decide +kernel
theorem d_R_direct_139 : decode b_R_direct 139 = .ok (.bipush 6, 2) := by decide +kernel
theorem d_R_direct_141 : decode b_R_direct 141 = .ok (.if_icmp .ge 8, 3) := by decide +kernel
theorem d_R_direct_144 : decode b_R_direct 144 = .ok (.bipush 16, 2) := by decide +kernel
theorem d_R_direct_146 : decode b_R_direct 146 = .ok (.goto 5, 3) := by decide +kernel
theorem d_R_direct_149 : decode b_R_direct 149 = .ok (.bipush 13, 2) := by decide +kernel
theorem d_R_direct_151 : decode b_R_direct 151 = .ok (.ireturn, 1) := by decide +kernel
theorem d_R_alter_0 : decode b_R_alter 0 = .ok (.aload_n 0, 1) := by decide +kernel

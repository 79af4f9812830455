theorem d_R_alter_1 : decode b_R_alter 1 = .ok (.getfield 13, 3) := by decide +kernel
theorem d_R_alter_4 : decode b_R_alter 4 = .ok (.bipush 7, 2) := by decide +kernel
theorem d_R_alter_6 : decode b_R_alter 6 = .ok (.iaload, 1) := by decide +kernel
theorem d_R_alter_7 : decode b_R_alter 7 = .ok (.istore_n 2, 1) := by decide +kernel
theorem d_R_alter_8 : decode b_R_alter 8 = .ok (.aload_n 0, 1) := by decide +kernel
theorem d_R_alter_9 : decode b_R_alter 9 = .ok (.getfield 64, 3) := by decide +kernel
theorem d_R_alter_12 : decode b_R_alter 12 = .ok (.istore_n 3, 1) := by decide +kernel
theorem d_R_alter_13 : decode b_R_alter 13 = .ok (.iload_n 1, 1) := by decide +kernel
theorem d_R_alter_14 : decode b_R_alter 14 = .ok (.ifCond .eq 8, 3) := by decide +kernel
theorem d_R_alter_17 : decode b_R_alter 17 = .ok (.iload_n 1, 1) := by decide +kernel
theorem d_R_alter_18 : decode b_R_alter 18 = .ok (.iconst 2, 1) := by decide +kernel
theorem d_R_alter_19 : decode b_R_alter 19 = .ok (.if_icmp .ne 42, 3) := by decide +kernel
theorem d_R_alter_22 : decode b_R_alter 22 = .ok (.aload_n 0, 1) := by decide +kernel
theorem d_R_alter_23 : decode b_R_alter 23 = .ok (.iload_n 2, 1) := by decide +kernel
theorem d_R_alter_24 : decode b_R_alter 24 = .ok (.sipush 128, 3) := by decide +kernel
theorem d_R_alter_27 : decode b_R_alter 27 = .ok (.idiv, 1) := by decide +kernel
theorem d_R_alter_28 : decode b_R_alter 28 = .ok (.putfield 64, 3) := by decide +kernel
theorem d_R_alter_31 : decode b_R_alter 31 = .ok (.aload_n 0, 1) := by decide +kernel
theorem d_R_alter_32 : decode b_R_alter 32 = .ok (.getfield 13, 3) := by decide +kernel
theorem d_R_alter_35 : decode b_R_alter 35 = .ok (.bipush 7, 2) := by decide +kernel
theorem d_R_alter_37 : decode b_R_alter 37 = .ok (.iload_n 2, 1) := by decide +kernel
theorem d_R_alter_38 : decode b_R_alter 38 = .ok (.sipush 128, 3) := by decide +kernel
theorem d_R_alter_41 : decode b_R_alter 41 = .ok (.irem, 1) := by decide +kernel
theorem d_R_alter_42 : decode b_R_alter 42 = .ok (.iconst 2, 1) := by decide +kernel
theorem d_R_alter_43 : decode b_R_alter 43 = .ok (.imul, 1) := by decide +kernel
theorem d_R_alter_44 : decode b_R_alter 44 = .ok (.iload_n 1, 1) := by decide +kernel
theorem d_R_alter_45 : decode b_R_alter 45 = .ok (.ifCond .ne 10, 3) := by decide +kernel
theorem d_R_alter_48 : decode b_R_alter 48 = .ok (.aload_n 0, 1) := by decide +kernel
theorem d_R_alter_49 : decode b_R_alter 49 = .ok (.getfield 64, 3) := by decide +kernel
theorem d_R_alter_52 : decode b_R_alter 52 = .ok (.goto 4, 3) := by decide +kernel
theorem d_R_alter_55 : decode b_R_alter 55 = .ok (.iload_n 3, 1) := by decide +kernel
theorem d_R_alter_56 : decode b_R_alter 56 = .ok (.iadd, 1) := by decide +kernel
theorem d_R_alter_57 : decode b_R_alter 57 = .ok (.iastore, 1) := by decide +kernel
theorem d_R_alter_58 : decode b_R_alter 58 = .ok (.goto 103, 3) := by decide +kernel
theorem d_R_alter_61 : decode b_R_alter 61 = .ok (.iload_n 1, 1) := by decide +kernel
theorem d_R_alter_62 : decode b_R_alter 62 = .ok (.iconst 1, 1) := by decide +kernel
theorem d_R_alter_63 : decode b_R_alter 63 = .ok (.if_icmp .eq 8, 3) := by decide +kernel
theorem d_R_alter_66 : decode b_R_alter 66 = .ok (.iload_n 1, 1) := by decide +kernel
theorem d_R_alter_67 : decode b_R_alter 67 = .ok (.iconst 3, 1) := by decide +kernel
theorem d_R_alter_68 : decode b_R_alter 68 = .ok (.if_icmp .ne 41, 3) := by decide +kernel
theorem d_R_alter_71 : decode b_R_alter 71 = .ok (.aload_n 0, 1) := by decide +kernel
theorem d_R_alter_72 : decode b_R_alter 72 = .ok (.iload_n 2, 1) := by decide +kernel
theorem d_R_alter_73 : decode b_R_alter 73 = .ok (.iconst 2, 1) := by decide +kernel
theorem d_R_alter_74 : decode b_R_alter 74 = .ok (.irem, 1) := by decide +kernel
theorem d_R_alter_75 : decode b_R_alter 75 = .ok (.putfield 64, 3) := by decide +kernel
theorem d_R_alter_78 : decode b_R_alter 78 = .ok (.aload_n 0, 1) := by decide +kernel
theorem d_R_alter_79 : decode b_R_alter 79 = .ok (.getfield 13, 3) := by decide +kernel
theorem d_R_alter_82 : decode b_R_alter 82 = .ok (.bipush 7, 2) := by decide +kernel
theorem d_R_alter_84 : decode b_R_alter 84 = .ok (.iload_n 2, 1) := by decide +kernel
theorem d_R_alter_85 : decode b_R_alter 85 = .ok (.iconst 2, 1) := by decide +kernel
theorem d_R_alter_86 : decode b_R_alter 86 = .ok (.idiv, 1) := by decide +kernel
theorem d_R_alter_87 : decode b_R_alter 87 = .ok (.sipush 128, 3) := by decide +kernel
theorem d_R_alter_90 : decode b_R_alter 90 = .ok (.iload_n 1, 1) := by decide +kernel
theorem d_R_alter_91 : decode b_R_alter 91 = .ok (.iconst 1, 1) := by decide +kernel
theorem d_R_alter_92 : decode b_R_alter 92 = .ok (.if_icmp .ne 10, 3) := by decide +kernel
theorem d_R_alter_95 : decode b_R_alter 95 = .ok (.aload_n 0, 1) := by decide +kernel
theorem d_R_alter_96 : decode b_R_alter 96 = .ok (.getfield 64, 3) := by decide +kernel
theorem d_R_alter_99 : decode b_R_alter 99 = .ok (.goto 4, 3) := by decide +kernel
theorem d_R_alter_102 : decode b_R_alter 102 = .ok (.iload_n 3, 1) := by decide +kernel
theorem d_R_alter_103 : decode b_R_alter 103 = .ok (.imul, 1) := by decide +kernel
theorem d_R_alter_104 : decode b_R_alter 104 = .ok (.iadd, 1) := by decide +kernel
theorem d_R_alter_105 : decode b_R_alter 105 = .ok (.iastore, 1) := by decide +kernel
theorem d_R_alter_106 : decode b_R_alter 106 = .ok (.goto 55, 3) := by decide +kernel
theorem d_R_alter_109 : decode b_R_alter 109 = .ok (.iload_n 1, 1) := by decide +kernel
theorem d_R_alter_110 : decode b_R_alter 110 = .ok (.iconst 4, 1) := by decide +kernel
theorem d_R_alter_111 : decode b_R_alter 111 = .ok (.if_icmp .ne 10, 3) := by decide +kernel
theorem d_R_alter_114 : decode b_R_alter 114 = .ok (.aload_n 0, 1) := by decide +kernel
theorem d_R_alter_115 : decode b_R_alter 115 = .ok (.invokevirtual 112, 3) := by decide +kernel
theorem d_R_alter_118 : decode b_R_alter 118 = .ok (.goto 43, 3) := by decide +kernel
theorem d_R_alter_121 : decode b_R_alter 121 = .ok (.iload_n 1, 1) := by decide +kernel
theorem d_R_alter_122 : decode b_R_alter 122 = .ok (.iconst 5, 1) := by decide +kernel
theorem d_R_alter_123 : decode b_R_alter 123 = .ok (.if_icmp .ne 18, 3) := by decide +kernel
theorem d_R_alter_126 : decode b_R_alter 126 = .ok (.aload_n 0, 1) := by decide +kernel
theorem d_R_alter_127 : decode b_R_alter 127 = .ok (.getfield 13, 3) := by decide +kernel
theorem d_R_alter_130 : decode b_R_alter 130 = .ok (.bipush 7, 2) := by decide +kernel
theorem d_R_alter_132 : decode b_R_alter 132 = .ok (.sipush 255, 3) := by decide +kernel
theorem d_R_alter_135 : decode b_R_alter 135 = .ok (.iload_n 2, 1) := by decide +kernel
theorem d_R_alter_136 : decode b_R_alter 136 = .ok (.isub, 1) := by decide +kernel
theorem d_R_alter_137 : decode b_R_alter 137 = .ok (.iastore, 1) := by decide +kernel
theorem d_R_alter_138 : decode b_R_alter 138 = .ok (.goto 23, 3) := by decide +kernel
theorem d_R_alter_141 : decode b_R_alter 141 = .ok (.aload_n 0, 1) := by decide +kernel
theorem d_R_alter_142 : decode b_R_alter 142 = .ok (.iload_n 1, 1) := by decide +kernel
theorem d_R_alter_143 : decode b_R_alter 143 = .ok (.bipush 6, 2) := by decide +kernel
theorem d_R_alter_145 : decode b_R_alter 145 = .ok (.if_icmp .ne 7, 3) := by decide +kernel
theorem d_R_alter_148 : decode b_R_alter 148 = .ok (.iconst 1, 1) := by decide +kernel
theorem d_R_alter_149 : decode b_R_alter 149 = .ok (.goto 9, 3) := by decide +kernel
theorem d_R_alter_152 : decode b_R_alter 152 = .ok (.iconst 1, 1) := by decide +kernel
theorem d_R_alter_153 : decode b_R_alter 153 = .ok (.aload_n 0, 1) := by decide +kernel
theorem d_R_alter_154 : decode b_R_alter 154 = .ok (.getfield 64, 3) := by decide +kernel
theorem d_R_alter_157 : decode b_R_alter 157 = .ok (.isub, 1) := by decide +kernel
theorem d_R_alter_158 : decode b_R_alter 158 = .ok (.putfield 64, 3) := by decide +kernel
theorem d_R_alter_161 : decode b_R_alter 161 = .ok (.return_, 1) := by decide +kernel
theorem d_R_decimal_0 : decode b_R_decimal 0 = .ok (.aload_n 0, 1) := by decide +kernel
theorem d_R_decimal_1 : decode b_R_decimal 1 = .ok (.getfield 13, 3) := by decide +kernel
theorem d_R_decimal_4 : decode b_R_decimal 4 = .ok (.bipush 7, 2) := by decide +kernel
theorem d_R_decimal_6 : decode b_R_decimal 6 = .ok (.iaload, 1) := by decide +kernel
theorem d_R_decimal_7 : decode b_R_decimal 7 = .ok (.istore_n 1, 1) := by decide +kernel
theorem d_R_decimal_8 : decode b_R_decimal 8 = .ok (.iload_n 1, 1) := by decide +kernel
theorem d_R_decimal_9 : decode b_R_decimal 9 = .ok (.bipush 16, 2) := by decide +kernel
theorem d_R_decimal_11 : decode b_R_decimal 11 = .ok (.irem, 1) := by decide +kernel
theorem d_R_decimal_12 : decode b_R_decimal 12 = .ok (.bipush 9, 2) := by decide +kernel
theorem d_R_decimal_14 : decode b_R_decimal 14 = .ok (.if_icmp .gt 11, 3) := by decide +kernel
theorem d_R_decimal_17 : decode b_R_decimal 17 = .ok (.aload_n 0, 1) := by decide +kernel
theorem d_R_decimal_18 : decode b_R_decimal 18 = .ok (.getfield 61, 3) := by decide +kernel
theorem d_R_decimal_21 : decode b_R_decimal 21 = .ok (.iconst 1, 1) := by decide +kernel
theorem d_R_decimal_22 : decode b_R_decimal 22 = .ok (.if_icmp .ne 7, 3) := by decide +kernel
theorem d_R_decimal_25 : decode b_R_decimal 25 = .ok (.iconst 1, 1) := by decide +kernel
theorem d_R_decimal_26 : decode b_R_decimal 26 = .ok (.goto 4, 3) := by decide +kernel
theorem d_R_decimal_29 : decode b_R_decimal 29 = .ok (.iconst 0, 1) := by decide +kernel
theorem d_R_decimal_30 : decode b_R_decimal 30 = .ok (.istore_n 2, 1) := by decide +kernel
theorem d_R_decimal_31 : decode b_R_decimal 31 = .ok (.iload_n 1, 1) := by decide +kernel
theorem d_R_decimal_32 : decode b_R_decimal 32 = .ok (.bipush 16, 2) := by decide +kernel
theorem d_R_decimal_34 : decode b_R_decimal 34 = .ok (.irem, 1) := by decide +kernel
theorem d_R_decimal_35 : decode b_R_decimal 35 = .ok (.bipush 9, 2) := by decide +kernel
theorem d_R_decimal_37 : decode b_R_decimal 37 = .ok (.if_icmp .le 7, 3) := by decide +kernel
theorem d_R_decimal_40 : decode b_R_decimal 40 = .ok (.iconst 1, 1) := by decide +kernel
theorem d_R_decimal_41 : decode b_R_decimal 41 = .ok (.goto 4, 3) := by decide +kernel
theorem d_R_decimal_44 : decode b_R_decimal 44 = .ok (.iconst 0, 1) := by decide +kernel
theorem d_R_decimal_45 : decode b_R_decimal 45 = .ok (.istore_n 3, 1) := by decide +kernel
theorem d_R_decimal_46 : decode b_R_decimal 46 = .ok (.iload_n 2, 1) := by decide +kernel
theorem d_R_decimal_47 : decode b_R_decimal 47 = .ok (.ifCond .eq 10, 3) := by decide +kernel
theorem d_R_decimal_50 : decode b_R_decimal 50 = .ok (.iload_n 1, 1) := by decide +kernel
theorem d_R_decimal_51 : decode b_R_decimal 51 = .ok (.bipush 6, 2) := by decide +kernel
theorem d_R_decimal_53 : decode b_R_decimal 53 = .ok (.iadd, 1) := by decide +kernel
theorem d_R_decimal_54 : decode b_R_decimal 54 = .ok (.goto 4, 3) := by decide +kernel
theorem d_R_decimal_57 : decode b_R_decimal 57 = .ok (.iload_n 1, 1) := by decide +kernel
theorem d_R_decimal_58 : decode b_R_decimal 58 = .ok (.istore 4, 2) := by decide +kernel
theorem d_R_decimal_60 : decode b_R_decimal 60 = .ok (.iload 4, 2) := by decide +kernel
theorem d_R_decimal_62 : decode b_R_decimal 62 = .ok (.sipush 159, 3) := by decide +kernel
theorem d_R_decimal_65 : decode b_R_decimal 65 = .ok (.if_icmp .gt 11, 3) := by decide +kernel
theorem d_R_decimal_68 : decode b_R_decimal 68 = .ok (.aload_n 0, 1) := by decide +kernel
theorem d_R_decimal_69 : decode b_R_decimal 69 = .ok (.getfield 64, 3) := by decide +kernel
theorem d_R_decimal_72 : decode b_R_decimal 72 = .ok (.iconst 1, 1) := by decide +kernel
theorem d_R_decimal_73 : decode b_R_decimal 73 = .ok (.if_icmp .ne 7, 3) := by decide +kernel
theorem d_R_decimal_76 : decode b_R_decimal 76 = .ok (.iconst 1, 1) := by decide +kernel
theorem d_R_decimal_77 : decode b_R_decimal 77 = .ok (.goto 4, 3) := by decide +kernel
theorem d_R_decimal_80 : decode b_R_decimal 80 = .ok (.iconst 0, 1) := by decide +kernel
theorem d_R_decimal_81 : decode b_R_decimal 81 = .ok (.istore 5, 2) := by decide +kernel
theorem d_R_decimal_83 : decode b_R_decimal 83 = .ok (.iload 5, 2) := by decide +kernel
theorem d_R_decimal_85 : decode b_R_decimal 85 = .ok (.ifCond .eq 11, 3) := by decide +kernel
theorem d_R_decimal_88 : decode b_R_decimal 88 = .ok (.iload 4, 2) := by decide +kernel
theorem d_R_decimal_90 : decode b_R_decimal 90 = .ok (.bipush 96, 2) := by decide +kernel
theorem d_R_decimal_92 : decode b_R_decimal 92 = .ok (.iadd, 1) := by decide +kernel
theorem d_R_decimal_93 : decode b_R_decimal 93 = .ok (.goto 5, 3) := by decide +kernel
theorem d_R_decimal_96 : decode b_R_decimal 96 = .ok (.iload 4, 2) := by decide +kernel
theorem d_R_decimal_98 : decode b_R_decimal 98 = .ok (.istore 4, 2) := by decide +kernel
theorem d_R_decimal_100 : decode b_R_decimal 100 = .ok (.aload_n 0, 1) := by decide +kernel
theorem d_R_decimal_101 : decode b_R_decimal 101 = .ok (.getfield 13, 3) := by decide +kernel
theorem d_R_decimal_104 : decode b_R_decimal 104 = .ok (.bipush 7, 2) := by decide +kernel
theorem d_R_decimal_106 : decode b_R_decimal 106 = .ok (.iload 4, 2) := by decide +kernel
theorem d_R_decimal_108 : decode b_R_decimal 108 = .ok (.sipush 256, 3) := by decide +kernel
theorem d_R_decimal_111 : decode b_R_decimal 111 = .ok (.irem, 1) := by decide +kernel
theorem d_R_decimal_112 : decode b_R_decimal 112 = .ok (.iastore, 1) := by decide +kernel
theorem d_R_decimal_113 : decode b_R_decimal 113 = .ok (.aload_n 0, 1) := by decide +kernel
theorem d_R_decimal_114 : decode b_R_decimal 114 = .ok (.aload_n 0, 1) := by decide +kernel
theorem d_R_decimal_115 : decode b_R_decimal 115 = .ok (.getfield 13, 3) := by decide +kernel
theorem d_R_decimal_118 : decode b_R_decimal 118 = .ok (.bipush 7, 2) := by decide +kernel
theorem d_R_decimal_120 : decode b_R_decimal 120 = .ok (.iaload, 1) := by decide +kernel
theorem d_R_decimal_121 : decode b_R_decimal 121 = .ok (.invokevirtual 67, 3) := by decide +kernel
theorem d_R_decimal_124 : decode b_R_decimal 124 = .ok (.aload_n 0, 1) := by decide +kernel
theorem d_R_decimal_125 : decode b_R_decimal 125 = .ok (.iload_n 2, 1) := by decide +kernel
theorem d_R_decimal_126 : decode b_R_decimal 126 = .ok (.ifCond .eq 7, 3) := by decide +kernel
theorem d_R_decimal_129 : decode b_R_decimal 129 = .ok (.iload_n 3, 1) := by decide +kernel
theorem d_R_decimal_130 : decode b_R_decimal 130 = .ok (.goto 4, 3) := by decide +kernel
theorem d_R_decimal_133 : decode b_R_decimal 133 = .ok (.iconst 0, 1) := by decide +kernel
theorem d_R_decimal_134 : decode b_R_decimal 134 = .ok (.putfield 61, 3) := by decide +kernel
theorem d_R_decimal_137 : decode b_R_decimal 137 = .ok (.aload_n 0, 1) := by decide +kernel
theorem d_R_decimal_138 : decode b_R_decimal 138 = .ok (.iload 5, 2) := by decide +kernel
theorem d_R_decimal_140 : decode b_R_decimal 140 = .ok (.ifCond .eq 7, 3) := by decide +kernel
theorem d_R_decimal_143 : decode b_R_decimal 143 = .ok (.iconst 1, 1) := by decide +kernel
theorem d_R_decimal_144 : decode b_R_decimal 144 = .ok (.goto 4, 3) := by decide +kernel
theorem d_R_decimal_147 : decode b_R_decimal 147 = .ok (.iconst 0, 1) := by decide +kernel
theorem d_R_decimal_148 : decode b_R_decimal 148 = .ok (.putfield 64, 3) := by decide +kernel
theorem d_R_decimal_151 : decode b_R_decimal 151 = .ok (.return_, 1) := by decide +kernel
theorem d_R_last_0 : decode b_R_last 0 = .ok (.iload_n 1, 1) := by decide +kernel
theorem d_R_last_1 : decode b_R_last 1 = .ok (.bipush 8, 2) := by decide +kernel
theorem d_R_last_3 : decode b_R_last 3 = .ok (.irem, 1) := by decide +kernel
theorem d_R_last_4 : decode b_R_last 4 = .ok (.istore_n 2, 1) := by decide +kernel
theorem d_R_last_5 : decode b_R_last 5 = .ok (.iload_n 1, 1) := by decide +kernel
theorem d_R_last_6 : decode b_R_last 6 = .ok (.bipush 8, 2) := by decide +kernel
theorem d_R_last_8 : decode b_R_last 8 = .ok (.idiv, 1) := by decide +kernel
theorem d_R_last_9 : decode b_R_last 9 = .ok (.bipush 8, 2) := by decide +kernel
theorem d_R_last_11 : decode b_R_last 11 = .ok (.irem, 1) := by decide +kernel
theorem d_R_last_12 : decode b_R_last 12 = .ok (.istore_n 3, 1) := by decide +kernel
theorem d_R_last_13 : decode b_R_last 13 = .ok (.iload_n 2, 1) := by decide +kernel
theorem d_R_last_14 : decode b_R_last 14 = .ok (.ifCond .ne 24, 3) := by decide +kernel
theorem d_R_last_17 : decode b_R_last 17 = .ok (.aload_n 0, 1) := by decide +kernel
theorem d_R_last_18 : decode b_R_last 18 = .ok (.iload_n 3, 1) := by decide +kernel
theorem d_R_last_19 : decode b_R_last 19 = .ok (.invokevirtual 115, 3) := by decide +kernel
theorem d_R_last_22 : decode b_R_last 22 = .ok (.ifCond .ne 5, 3) := by decide +kernel
theorem d_R_last_25 : decode b_R_last 25 = .ok (.iconst 5, 1) := by decide +kernel
theorem d_R_last_26 : decode b_R_last 26 = .ok (.ireturn, 1) := by decide +kernel
theorem d_R_last_27 : decode b_R_last 27 = .ok (.aload_n 0, 1) := by decide +kernel
theorem d_R_last_28 : decode b_R_last 28 = .ok (.aload_n 0, 1) := by decide +kernel
theorem d_R_last_29 : decode b_R_last 29 = .ok (.invokevirtual 119, 3) := by decide +kernel
theorem d_R_last_32 : decode b_R_last 32 = .ok (.putfield 45, 3) := by decide +kernel
theorem d_R_last_35 : decode b_R_last 35 = .ok (.bipush 11, 2) := by decide +kernel
theorem d_R_last_37 : decode b_R_last 37 = .ok (.ireturn, 1) := by decide +kernel
theorem d_R_last_38 : decode b_R_last 38 = .ok (.iload_n 2, 1) := by decide +kernel
theorem d_R_last_39 : decode b_R_last 39 = .ok (.iconst 2, 1) := by decide +kernel
theorem d_R_last_40 : decode b_R_last 40 = .ok (.if_icmp .eq 17, 3) := by decide +kernel
theorem d_R_last_43 : decode b_R_last 43 = .ok (.iload_n 1, 1) := by decide +kernel
theorem d_R_last_44 : decode b_R_last 44 = .ok (.sipush 195, 3) := by decide +kernel
theorem d_R_last_47 : decode b_R_last 47 = .ok (.if_icmp .eq 10, 3) := by decide +kernel
theorem d_R_last_50 : decode b_R_last 50 = .ok (.iload_n 1, 1) := by decide +kernel
theorem d_R_last_51 : decode b_R_last 51 = .ok (.sipush 203, 3) := by decide +kernel
theorem d_R_last_54 : decode b_R_last 54 = .ok (.if_icmp .ne 31, 3) := by decide +kernel
theorem d_R_last_57 : decode b_R_last 57 = .ok (.aload_n 0, 1) := by decide +kernel
theorem d_R_last_58 : decode b_R_last 58 = .ok (.invokevirtual 97, 3) := by decide +kernel
theorem d_R_last_61 : decode b_R_last 61 = .ok (.istore 4, 2) := by decide +kernel
theorem d_R_last_63 : decode b_R_last 63 = .ok (.iload_n 2, 1) := by decide +kernel
theorem d_R_last_64 : decode b_R_last 64 = .ok (.iconst 3, 1) := by decide +kernel
theorem d_R_last_65 : decode b_R_last 65 = .ok (.if_icmp .eq 11, 3) := by decide +kernel
theorem d_R_last_68 : decode b_R_last 68 = .ok (.aload_n 0, 1) := by decide +kernel
theorem d_R_last_69 : decode b_R_last 69 = .ok (.iload_n 3, 1) := by decide +kernel
theorem d_R_last_70 : decode b_R_last 70 = .ok (.invokevirtual 115, 3) := by decide +kernel
theorem d_R_last_73 : decode b_R_last 73 = .ok (.ifCond .eq 9, 3) := by decide +kernel
theorem d_R_last_76 : decode b_R_last 76 = .ok (.aload_n 0, 1) := by decide +kernel
theorem d_R_last_77 : decode b_R_last 77 = .ok (.iload 4, 2) := by decide +kernel
theorem d_R_last_79 : decode b_R_last 79 = .ok (.putfield 45, 3) := by decide +kernel
theorem d_R_last_82 : decode b_R_last 82 = .ok (.bipush 10, 2) := by decide +kernel
theorem d_R_last_84 : decode b_R_last 84 = .ok (.ireturn, 1) := by decide +kernel
theorem d_R_last_85 : decode b_R_last 85 = .ok (.iload_n 2, 1) := by decide +kernel
theorem d_R_last_86 : decode b_R_last 86 = .ok (.iconst 4, 1) := by decide +kernel
theorem d_R_last_87 : decode b_R_last 87 = .ok (.if_icmp .eq 15, 3) := by decide +kernel
theorem d_R_last_90 : decode b_R_last 90 = .ok (.iload_n 2, 1) := by decide +kernel
theorem d_R_last_91 : decode b_R_last 91 = .ok (.iconst 5, 1) := by decide +kernel
theorem d_R_last_92 : decode b_R_last 92 = .ok (.if_icmp .ne 49, 3) := by decide +kernel
theorem d_R_last_95 : decode b_R_last 95 = .ok (.iload_n 3, 1) := by decide +kernel
theorem d_R_last_96 : decode b_R_last 96 = .ok (.iconst 2, 1) := by decide +kernel
theorem d_R_last_97 : decode b_R_last 97 = .ok (.irem, 1) := by decide +kernel
theorem d_R_last_98 : decode b_R_last 98 = .ok (.iconst 1, 1) := by decide +kernel
theorem d_R_last_99 : decode b_R_last 99 = .ok (.if_icmp .ne 42, 3) := by decide +kernel
theorem d_R_last_102 : decode b_R_last 102 = .ok (.aload_n 0, 1) := by decide +kernel
theorem d_R_last_103 : decode b_R_last 103 = .ok (.invokevirtual 97, 3) := by decide +kernel
theorem d_R_last_106 : decode b_R_last 106 = .ok (.istore 4, 2) := by decide +kernel
theorem d_R_last_108 : decode b_R_last 108 = .ok (.iload_n 2, 1) := by decide +kernel
theorem d_R_last_109 : decode b_R_last 109 = .ok (.iconst 4, 1) := by decide +kernel
theorem d_R_last_110 : decode b_R_last 110 = .ok (.if_icmp .ne 14, 3) := by decide +kernel
theorem d_R_last_113 : decode b_R_last 113 = .ok (.aload_n 0, 1) := by decide +kernel
theorem d_R_last_114 : decode b_R_last 114 = .ok (.iload_n 3, 1) := by decide +kernel
theorem d_R_last_115 : decode b_R_last 115 = .ok (.invokevirtual 115, 3) := by decide +kernel
theorem d_R_last_118 : decode b_R_last 118 = .ok (.ifCond .ne 6, 3) := by decide +kernel
theorem d_R_last_121 : decode b_R_last 121 = .ok (.bipush 11, 2) := by decide +kernel
theorem d_R_last_123 : decode b_R_last 123 = .ok (.ireturn, 1) := by decide +kernel
theorem d_R_last_124 : decode b_R_last 124 = .ok (.aload_n 0, 1) := by decide +kernel
theorem d_R_last_125 : decode b_R_last 125 = .ok (.aload_n 0, 1) := by decide +kernel
theorem d_R_last_126 : decode b_R_last 126 = .ok (.getfield 45, 3) := by decide +kernel
theorem d_R_last_129 : decode b_R_last 129 = .ok (.invokevirtual 122, 3) := by decide +kernel
theorem d_R_last_132 : decode b_R_last 132 = .ok (.aload_n 0, 1) := by decide +kernel
theorem d_R_last_133 : decode b_R_last 133 = .ok (.iload 4, 2) := by decide +kernel
theorem d_R_last_135 : decode b_R_last 135 = .ok (.putfield 45, 3) := by decide +kernel
theorem d_R_last_138 : decode b_R_last 138 = .ok (.bipush 17, 2) := by decide +kernel
theorem d_R_last_140 : decode b_R_last 140 = .ok (.ireturn, 1) := by decide +kernel
theorem d_R_last_141 : decode b_R_last 141 = .ok (.iload_n 2, 1) := by decide +kernel
theorem d_R_last_142 : decode b_R_last 142 = .ok (.iconst 5, 1) := by decide +kernel
theorem d_R_last_143 : decode b_R_last 143 = .ok (.if_icmp .ne 42, 3) := by decide +kernel
theorem d_R_last_146 : decode b_R_last 146 = .ok (.aload_n 0, 1) := by decide +kernel
theorem d_R_last_147 : decode b_R_last 147 = .ok (.iload_n 3, 1) := by decide +kernel
theorem d_R_last_148 : decode b_R_last 148 = .ok (.bipush 6, 2) := by decide +kernel
theorem d_R_last_150 : decode b_R_last 150 = .ok (.if_icmp .ne 22, 3) := by decide +kernel
theorem d_R_last_153 : decode b_R_last 153 = .ok (.sipush 256, 3) := by decide +kernel
theorem d_R_last_156 : decode b_R_last 156 = .ok (.aload_n 0, 1) := by decide +kernel
theorem d_R_last_157 : decode b_R_last 157 = .ok (.getfield 13, 3) := by decide +kernel
theorem d_R_last_160 : decode b_R_last 160 = .ok (.bipush 7, 2) := by decide +kernel
theorem d_R_last_162 : decode b_R_last 162 = .ok (.iaload, 1) := by decide +kernel
theorem d_R_last_163 : decode b_R_last 163 = .ok (.imul, 1) := by decide +kernel
theorem d_R_last_164 : decode b_R_last 164 = .ok (.aload_n 0, 1) := by decide +kernel
theorem d_R_last_165 : decode b_R_last 165 = .ok (.invokevirtual 125, 3) := by decide +kernel
theorem d_R_last_168 : decode b_R_last 168 = .ok (.iadd, 1) := by decide +kernel
theorem d_R_last_169 : decode b_R_last 169 = .ok (.goto 10, 3) := by decide +kernel
theorem d_R_last_172 : decode b_R_last 172 = .ok (.aload_n 0, 1) := by decide +kernel
theorem d_R_last_173 : decode b_R_last 173 = .ok (.iload_n 3, 1) := by decide +kernel
theorem d_R_last_174 : decode b_R_last 174 = .ok (.iconst 2, 1) := by decide +kernel
theorem d_R_last_175 : decode b_R_last 175 = .ok (.idiv, 1) := by decide +kernel
theorem d_R_last_176 : decode b_R_last 176 = .ok (.invokevirtual 103, 3) := by decide +kernel
theorem d_R_last_179 : decode b_R_last 179 = .ok (.invokevirtual 122, 3) := by decide +kernel
theorem d_R_last_182 : decode b_R_last 182 = .ok (.bipush 11, 2) := by decide +kernel
theorem d_R_last_184 : decode b_R_last 184 = .ok (.ireturn, 1) := by decide +kernel
theorem d_R_last_185 : decode b_R_last 185 = .ok (.iload_n 2, 1) := by decide +kernel
theorem d_R_last_186 : decode b_R_last 186 = .ok (.bipush 6, 2) := by decide +kernel
theorem d_R_last_188 : decode b_R_last 188 = .ok (.if_icmp .ne 15, 3) := by decide +kernel
theorem d_R_last_191 : decode b_R_last 191 = .ok (.aload_n 0, 1) := by decide +kernel
theorem d_R_last_192 : decode b_R_last 192 = .ok (.iload_n 3, 1) := by decide +kernel
theorem d_R_last_193 : decode b_R_last 193 = .ok (.aload_n 0, 1) := by decide +kernel
theorem d_R_last_194 : decode b_R_last 194 = .ok (.invokevirtual 49, 3) := by decide +kernel
theorem d_R_last_197 : decode b_R_last 197 = .ok (.invokevirtual 91, 3) := by decide +kernel
theorem d_R_last_200 : decode b_R_last 200 = .ok (.bipush 7, 2) := by decide +kernel
theorem d_R_last_202 : decode b_R_last 202 = .ok (.ireturn, 1) := by decide +kernel
theorem d_R_last_203 : decode b_R_last 203 = .ok (.iload_n 2, 1) := by decide +kernel
theorem d_R_last_204 : decode b_R_last 204 = .ok (.bipush 7, 2) := by decide +kernel
theorem d_R_last_206 : decode b_R_last 206 = .ok (.if_icmp .ne 22, 3) := by decide +kernel
theorem d_R_last_209 : decode b_R_last 209 = .ok (.aload_n 0, 1) := by decide +kernel
theorem d_R_last_210 : decode b_R_last 210 = .ok (.aload_n 0, 1) := by decide +kernel
theorem d_R_last_211 : decode b_R_last 211 = .ok (.getfield 45, 3) := by decide +kernel
theorem d_R_last_214 : decode b_R_last 214 = .ok (.invokevirtual 122, 3) := by decide +kernel
theorem d_R_last_217 : decode b_R_last 217 = .ok (.aload_n 0, 1) := by decide +kernel
theorem d_R_last_218 : decode b_R_last 218 = .ok (.bipush 8, 2) := by decide +kernel
theorem d_R_last_220 : decode b_R_last 220 = .ok (.iload_n 3, 1) := by decide +kernel
theorem d_R_last_221 : decode b_R_last 221 = .ok (.imul, 1) := by decide +kernel
theorem d_R_last_222 : decode b_R_last 222 = .ok (.putfield 45, 3) := by decide +kernel
theorem d_R_last_225 : decode b_R_last 225 = .ok (.bipush 11, 2) := by decide +kernel
theorem d_R_last_227 : decode b_R_last 227 = .ok (.ireturn, 1) := by decide +kernel
theorem d_R_last_228 : decode b_R_last 228 = .ok (.iload_n 2, 1) := by decide +kernel
theorem d_R_last_229 : decode b_R_last 229 = .ok (.iconst 1, 1) := by decide +kernel
theorem d_R_last_230 : decode b_R_last 230 = .ok (.if_icmp .ne 11, 3) := by decide +kernel
theorem d_R_last_233 : decode b_R_last 233 = .ok (.aload_n 0, 1) := by decide +kernel
theorem d_R_last_234 : decode b_R_last 234 = .ok (.iload_n 3, 1) := by decide +kernel
theorem d_R_last_235 : decode b_R_last 235 = .ok (.invokevirtual 128, 3) := by decide +kernel
theorem d_R_last_238 : decode b_R_last 238 = .ok (.goto 8, 3) := by decide +kernel
theorem d_R_last_241 : decode b_R_last 241 = .ok (.aload_n 0, 1) := by decide +kernel
theorem d_R_last_242 : decode b_R_last 242 = .ok (.iload_n 3, 1) := by decide +kernel
theorem d_R_last_243 : decode b_R_last 243 = .ok (.invokevirtual 131, 3) := by decide +kernel
theorem d_R_last_246 : decode b_R_last 246 = .ok (.ireturn, 1) := by decide +kernel
theorem d_R_popped_0 : decode b_R_popped 0 = .ok (.iload_n 1, 1) := by decide +kernel
theorem d_R_popped_1 : decode b_R_popped 1 = .ok (.iconst 5, 1) := by decide +kernel
theorem d_R_popped_2 : decode b_R_popped 2 = .ok (.if_icmp .ne 11, 3) := by decide +kernel
theorem d_R_popped_5 : decode b_R_popped 5 = .ok (.aload_n 0, 1) := by decide +kernel
theorem d_R_popped_6 : decode b_R_popped 6 = .ok (.aload_n 0, 1) := by decide +kernel
theorem d_R_popped_7 : decode b_R_popped 7 = .ok (.invokevirtual 29, 3) := by decide +kernel
theorem d_R_popped_10 : decode b_R_popped 10 = .ok (.putfield 45, 3) := by decide +kernel
theorem d_R_popped_13 : decode b_R_popped 13 = .ok (.iload_n 1, 1) := by decide +kernel
theorem d_R_popped_14 : decode b_R_popped 14 = .ok (.bipush 7, 2) := by decide +kernel
theorem d_R_popped_16 : decode b_R_popped 16 = .ok (.if_icmp .ne 11, 3) := by decide +kernel
theorem d_R_popped_19 : decode b_R_popped 19 = .ok (.aload_n 0, 1) := by decide +kernel
theorem d_R_popped_20 : decode b_R_popped 20 = .ok (.aload_n 0, 1) := by decide +kernel
theorem d_R_popped_21 : decode b_R_popped 21 = .ok (.invokevirtual 29, 3) := by decide +kernel
theorem d_R_popped_24 : decode b_R_popped 24 = .ok (.putfield 41, 3) := by decide +kernel
theorem d_R_popped_27 : decode b_R_popped 27 = .ok (.iload_n 1, 1) := by decide +kernel
theorem d_R_popped_28 : decode b_R_popped 28 = .ok (.iconst 5, 1) := by decide +kernel
theorem d_R_popped_29 : decode b_R_popped 29 = .ok (.if_icmp .eq 9, 3) := by decide +kernel
theorem d_R_popped_32 : decode b_R_popped 32 = .ok (.iload_n 1, 1) := by decide +kernel
theorem d_R_popped_33 : decode b_R_popped 33 = .ok (.bipush 7, 2) := by decide +kernel
theorem d_R_popped_35 : decode b_R_popped 35 = .ok (.if_icmp .ne 5, 3) := by decide +kernel
theorem d_R_popped_38 : decode b_R_popped 38 = .ok (.iconst 5, 1) := by decide +kernel
theorem d_R_popped_39 : decode b_R_popped 39 = .ok (.ireturn, 1) := by decide +kernel
theorem d_R_popped_40 : decode b_R_popped 40 = .ok (.aload_n 0, 1) := by decide +kernel
theorem d_R_popped_41 : decode b_R_popped 41 = .ok (.invokevirtual 119, 3) := by decide +kernel
theorem d_R_popped_44 : decode b_R_popped 44 = .ok (.istore_n 2, 1) := by decide +kernel
theorem d_R_popped_45 : decode b_R_popped 45 = .ok (.iload_n 1, 1) := by decide +kernel
theorem d_R_popped_46 : decode b_R_popped 46 = .ok (.iconst 1, 1) := by decide +kernel
theorem d_R_popped_47 : decode b_R_popped 47 = .ok (.if_icmp .eq 8, 3) := by decide +kernel
theorem d_R_popped_50 : decode b_R_popped 50 = .ok (.iload_n 1, 1) := by decide +kernel
theorem d_R_popped_51 : decode b_R_popped 51 = .ok (.iconst 3, 1) := by decide +kernel
theorem d_R_popped_52 : decode b_R_popped 52 = .ok (.if_icmp .ne 11, 3) := by decide +kernel
theorem d_R_popped_55 : decode b_R_popped 55 = .ok (.aload_n 0, 1) := by decide +kernel
theorem d_R_popped_56 : decode b_R_popped 56 = .ok (.iload_n 2, 1) := by decide +kernel
theorem d_R_popped_57 : decode b_R_popped 57 = .ok (.putfield 45, 3) := by decide +kernel
theorem d_R_popped_60 : decode b_R_popped 60 = .ok (.goto 41, 3) := by decide +kernel
theorem d_R_popped_63 : decode b_R_popped 63 = .ok (.iload_n 1, 1) := by decide +kernel
theorem d_R_popped_64 : decode b_R_popped 64 = .ok (.bipush 6, 2) := by decide +kernel
theorem d_R_popped_66 : decode b_R_popped 66 = .ok (.if_icmp .ne 27, 3) := by decide +kernel
theorem d_R_popped_69 : decode b_R_popped 69 = .ok (.aload_n 0, 1) := by decide +kernel
theorem d_R_popped_70 : decode b_R_popped 70 = .ok (.getfield 13, 3) := by decide +kernel
theorem d_R_popped_73 : decode b_R_popped 73 = .ok (.bipush 7, 2) := by decide +kernel
theorem d_R_popped_75 : decode b_R_popped 75 = .ok (.iload_n 2, 1) := by decide +kernel
theorem d_R_popped_76 : decode b_R_popped 76 = .ok (.sipush 256, 3) := by decide +kernel
theorem d_R_popped_79 : decode b_R_popped 79 = .ok (.idiv, 1) := by decide +kernel
theorem d_R_popped_80 : decode b_R_popped 80 = .ok (.iastore, 1) := by decide +kernel
theorem d_R_popped_81 : decode b_R_popped 81 = .ok (.aload_n 0, 1) := by decide +kernel
theorem d_R_popped_82 : decode b_R_popped 82 = .ok (.iload_n 2, 1) := by decide +kernel
theorem d_R_popped_83 : decode b_R_popped 83 = .ok (.sipush 256, 3) := by decide +kernel
theorem d_R_popped_86 : decode b_R_popped 86 = .ok (.irem, 1) := by decide +kernel
theorem d_R_popped_87 : decode b_R_popped 87 = .ok (.invokevirtual 134, 3) := by decide +kernel
theorem d_R_popped_90 : decode b_R_popped 90 = .ok (.goto 11, 3) := by decide +kernel
theorem d_R_popped_93 : decode b_R_popped 93 = .ok (.aload_n 0, 1) := by decide +kernel
theorem d_R_popped_94 : decode b_R_popped 94 = .ok (.iload_n 1, 1) := by decide +kernel
theorem d_R_popped_95 : decode b_R_popped 95 = .ok (.iconst 2, 1) := by decide +kernel
theorem d_R_popped_96 : decode b_R_popped 96 = .ok (.idiv, 1) := by decide +kernel
theorem d_R_popped_97 : decode b_R_popped 97 = .ok (.iload_n 2, 1) := by decide +kernel
theorem d_R_popped_98 : decode b_R_popped 98 = .ok (.invokevirtual 100, 3) := by decide +kernel
theorem d_R_popped_101 : decode b_R_popped 101 = .ok (.bipush 10, 2) := by decide +kernel
theorem d_R_popped_103 : decode b_R_popped 103 = .ok (.ireturn, 1) := by decide +kernel
theorem d_R_single_0 : decode b_R_single 0 = .ok (.iload_n 1, 1) := by decide +kernel
theorem d_R_single_1 : decode b_R_single 1 = .ok (.iconst 2, 1) := by decide +kernel
theorem d_R_single_2 : decode b_R_single 2 = .ok (.if_icmp .ne 21, 3) := by decide +kernel
theorem d_R_single_5 : decode b_R_single 5 = .ok (.aload_n 0, 1) := by decide +kernel
theorem d_R_single_6 : decode b_R_single 6 = .ok (.getfield 23, 3) := by decide +kernel
theorem d_R_single_9 : decode b_R_single 9 = .ok (.aload_n 0, 1) := by decide +kernel
theorem d_R_single_10 : decode b_R_single 10 = .ok (.invokevirtual 49, 3) := by decide +kernel
theorem d_R_single_13 : decode b_R_single 13 = .ok (.aload_n 0, 1) := by decide +kernel
theorem d_R_single_14 : decode b_R_single 14 = .ok (.getfield 13, 3) := by decide +kernel
theorem d_R_single_17 : decode b_R_single 17 = .ok (.bipush 7, 2) := by decide +kernel
theorem d_R_single_19 : decode b_R_single 19 = .ok (.iaload, 1) := by decide +kernel
theorem d_R_single_20 : decode b_R_single 20 = .ok (.iconst 1, 1) := by decide +kernel
theorem d_R_single_21 : decode b_R_single 21 = .ok (.iadd, 1) := by decide +kernel
theorem d_R_single_22 : decode b_R_single 22 = .ok (.iastore, 1) := by decide +kernel
theorem d_R_single_23 : decode b_R_single 23 = .ok (.iload_n 1, 1) := by decide +kernel
theorem d_R_single_24 : decode b_R_single 24 = .ok (.iconst 3, 1) := by decide +kernel
theorem d_R_single_25 : decode b_R_single 25 = .ok (.if_icmp .ne 19, 3) := by decide +kernel
theorem d_R_single_28 : decode b_R_single 28 = .ok (.aload_n 0, 1) := by decide +kernel
theorem d_R_single_29 : decode b_R_single 29 = .ok (.getfield 13, 3) := by decide +kernel
theorem d_R_single_32 : decode b_R_single 32 = .ok (.bipush 7, 2) := by decide +kernel
theorem d_R_single_34 : decode b_R_single 34 = .ok (.aload_n 0, 1) := by decide +kernel
theorem d_R_single_35 : decode b_R_single 35 = .ok (.getfield 20, 3) := by decide +kernel
theorem d_R_single_38 : decode b_R_single 38 = .ok (.aload_n 0, 1) := by decide +kernel
theorem d_R_single_39 : decode b_R_single 39 = .ok (.invokevirtual 49, 3) := by decide +kernel
theorem d_R_single_42 : decode b_R_single 42 = .ok (.iaload, 1) := by decide +kernel
theorem d_R_single_43 : decode b_R_single 43 = .ok (.iastore, 1) := by decide +kernel
theorem d_R_single_44 : decode b_R_single 44 = .ok (.iload_n 1, 1) := by decide +kernel
theorem d_R_single_45 : decode b_R_single 45 = .ok (.iconst 4, 1) := by decide +kernel
theorem d_R_single_46 : decode b_R_single 46 = .ok (.if_icmp .ne 73, 3) := by decide +kernel
theorem d_R_single_49 : decode b_R_single 49 = .ok (.aload_n 0, 1) := by decide +kernel
theorem d_R_single_50 : decode b_R_single 50 = .ok (.invokevirtual 29, 3) := by decide +kernel
theorem d_R_single_53 : decode b_R_single 53 = .ok (.istore_n 2, 1) := by decide +kernel
theorem d_R_single_54 : decode b_R_single 54 = .ok (.aload_n 0, 1) := by decide +kernel
theorem d_R_single_55 : decode b_R_single 55 = .ok (.iconst 2, 1) := by decide +kernel
theorem d_R_single_56 : decode b_R_single 56 = .ok (.aload_n 0, 1) := by decide +kernel
theorem d_R_single_57 : decode b_R_single 57 = .ok (.aload_n 0, 1) := by decide +kernel
theorem d_R_single_58 : decode b_R_single 58 = .ok (.getfield 41, 3) := by decide +kernel
theorem d_R_single_61 : decode b_R_single 61 = .ok (.invokevirtual 33, 3) := by decide +kernel
theorem d_R_single_64 : decode b_R_single 64 = .ok (.sipush 256, 3) := by decide +kernel
theorem d_R_single_67 : decode b_R_single 67 = .ok (.aload_n 0, 1) := by decide +kernel
theorem d_R_single_68 : decode b_R_single 68 = .ok (.aload_n 0, 1) := by decide +kernel
theorem d_R_single_69 : decode b_R_single 69 = .ok (.getfield 41, 3) := by decide +kernel
theorem d_R_single_72 : decode b_R_single 72 = .ok (.iconst 1, 1) := by decide +kernel
theorem d_R_single_73 : decode b_R_single 73 = .ok (.iadd, 1) := by decide +kernel
theorem d_R_single_74 : decode b_R_single 74 = .ok (.ldc 48, 2) := by decide +kernel
theorem d_R_single_76 : decode b_R_single 76 = .ok (.irem, 1) := by decide +kernel
theorem d_R_single_77 : decode b_R_single 77 = .ok (.invokevirtual 33, 3) := by decide +kernel
theorem d_R_single_80 : decode b_R_single 80 = .ok (.imul, 1) := by decide +kernel
theorem d_R_single_81 : decode b_R_single 81 = .ok (.iadd, 1) := by decide +kernel
theorem d_R_single_82 : decode b_R_single 82 = .ok (.invokevirtual 100, 3) := by decide +kernel
theorem d_R_single_85 : decode b_R_single 85 = .ok (.aload_n 0, 1) := by decide +kernel
theorem d_R_single_86 : decode b_R_single 86 = .ok (.aload_n 0, 1) := by decide +kernel

theorem d_P_combineWithNext_7 : decode b_P_combineWithNext 7 = .ok (.getfield 19, 3) := by decide +kernel
theorem d_P_combineWithNext_10 : decode b_P_combineWithNext 10 = .ok (.iload_n 1, 1) := by decide +kernel
theorem d_P_combineWithNext_11 : decode b_P_combineWithNext 11 = .ok (.invokestatic 212, 3) := by decide +kernel
theorem d_P_combineWithNext_14 : decode b_P_combineWithNext 14 = .ok (.aload_n 0, 1) := by decide +kernel
theorem d_P_combineWithNext_15 : decode b_P_combineWithNext 15 = .ok (.getfield 23, 3) := by decide +kernel
theorem d_P_combineWithNext_18 : decode b_P_combineWithNext 18 = .ok (.bipush 7, 2) := by decide +kernel
theorem d_P_combineWithNext_20 : decode b_P_combineWithNext 20 = .ok (.iaload, 1) := by decide +kernel
theorem d_P_combineWithNext_21 : decode b_P_combineWithNext 21 = .ok (.aload_n 0, 1) := by decide +kernel
theorem d_P_combineWithNext_22 : decode b_P_combineWithNext 22 = .ok (.invokevirtual 121, 3) := by decide +kernel
theorem d_P_combineWithNext_25 : decode b_P_combineWithNext 25 = .ok (.invokevirtual 237, 3) := by decide +kernel
theorem d_P_combineWithNext_28 : decode b_P_combineWithNext 28 = .ok (.iastore, 1) := by decide +kernel
theorem d_P_combineWithNext_29 : decode b_P_combineWithNext 29 = .ok (.bipush 7, 2) := by decide +kernel
theorem d_P_combineWithNext_31 : decode b_P_combineWithNext 31 = .ok (.ireturn, 1) := by decide +kernel
theorem d_P_jumpOnCondition_0 : decode b_P_jumpOnCondition 0 = .ok (.aload_n 0, 1) := by decide +kernel
theorem d_P_jumpOnCondition_1 : decode b_P_jumpOnCondition 1 = .ok (.invokevirtual 193, 3) := by decide +kernel
theorem d_P_jumpOnCondition_4 : decode b_P_jumpOnCondition 4 = .ok (.istore_n 2, 1) := by decide +kernel
theorem d_P_jumpOnCondition_5 : decode b_P_jumpOnCondition 5 = .ok (.aload_n 0, 1) := by decide +kernel
theorem d_P_jumpOnCondition_6 : decode b_P_jumpOnCondition 6 = .ok (.getfield 19, 3) := by decide +kernel
theorem d_P_jumpOnCondition_9 : decode b_P_jumpOnCondition 9 = .ok (.iload_n 1, 1) := by decide +kernel
theorem d_P_jumpOnCondition_10 : decode b_P_jumpOnCondition 10 = .ok (.invokestatic 212, 3) := by decide +kernel
theorem d_P_jumpOnCondition_13 : decode b_P_jumpOnCondition 13 = .ok (.invokevirtual 241, 3) := by decide +kernel
theorem d_P_jumpOnCondition_16 : decode b_P_jumpOnCondition 16 = .ok (.ifCond .eq 8, 3) := by decide +kernel
theorem d_P_jumpOnCondition_19 : decode b_P_jumpOnCondition 19 = .ok (.aload_n 0, 1) := by decide +kernel
theorem d_P_jumpOnCondition_20 : decode b_P_jumpOnCondition 20 = .ok (.iload_n 2, 1) := by decide +kernel
theorem d_P_jumpOnCondition_21 : decode b_P_jumpOnCondition 21 = .ok (.putfield 59, 3) := by decide +kernel
theorem d_P_jumpOnCondition_24 : decode b_P_jumpOnCondition 24 = .ok (.bipush 10, 2) := by decide +kernel
theorem d_P_jumpOnCondition_26 : decode b_P_jumpOnCondition 26 = .ok (.ireturn, 1) := by decide +kernel
theorem d_P_callOnCondition_0 : decode b_P_callOnCondition 0 = .ok (.aload_n 0, 1) := by decide +kernel
theorem d_P_callOnCondition_1 : decode b_P_callOnCondition 1 = .ok (.invokevirtual 193, 3) := by decide +kernel
theorem d_P_callOnCondition_4 : decode b_P_callOnCondition 4 = .ok (.istore_n 2, 1) := by decide +kernel
theorem d_P_callOnCondition_5 : decode b_P_callOnCondition 5 = .ok (.aload_n 0, 1) := by decide +kernel
theorem d_P_callOnCondition_6 : decode b_P_callOnCondition 6 = .ok (.getfield 19, 3) := by decide +kernel
theorem d_P_callOnCondition_9 : decode b_P_callOnCondition 9 = .ok (.iload_n 1, 1) := by decide +kernel
theorem d_P_callOnCondition_10 : decode b_P_callOnCondition 10 = .ok (.invokestatic 212, 3) := by decide +kernel
theorem d_P_callOnCondition_13 : decode b_P_callOnCondition 13 = .ok (.invokevirtual 241, 3) := by decide +kernel
theorem d_P_callOnCondition_16 : decode b_P_callOnCondition 16 = .ok (.ifCond .ne 6, 3) := by decide +kernel
theorem d_P_callOnCondition_19 : decode b_P_callOnCondition 19 = .ok (.bipush 11, 2) := by decide +kernel
theorem d_P_callOnCondition_21 : decode b_P_callOnCondition 21 = .ok (.ireturn, 1) := by decide +kernel
theorem d_P_callOnCondition_22 : decode b_P_callOnCondition 22 = .ok (.aload_n 0, 1) := by decide +kernel
theorem d_P_callOnCondition_23 : decode b_P_callOnCondition 23 = .ok (.iload_n 2, 1) := by decide +kernel
theorem d_P_callOnCondition_24 : decode b_P_callOnCondition 24 = .ok (.invokevirtual 136, 3) := by decide +kernel
theorem d_P_callOnCondition_27 : decode b_P_callOnCondition 27 = .ok (.bipush 17, 2) := by decide +kernel
theorem d_P_callOnCondition_29 : decode b_P_callOnCondition 29 = .ok (.ireturn, 1) := by decide +kernel
theorem d_P_callAlways_0 : decode b_P_callAlways 0 = .ok (.aload_n 0, 1) := by decide +kernel
theorem d_P_callAlways_1 : decode b_P_callAlways 1 = .ok (.aload_n 0, 1) := by decide +kernel
theorem d_P_callAlways_2 : decode b_P_callAlways 2 = .ok (.invokevirtual 193, 3) := by decide +kernel
theorem d_P_callAlways_5 : decode b_P_callAlways 5 = .ok (.invokevirtual 136, 3) := by decide +kernel
theorem d_P_callAlways_8 : decode b_P_callAlways 8 = .ok (.bipush 17, 2) := by decide +kernel
theorem d_P_callAlways_10 : decode b_P_callAlways 10 = .ok (.ireturn, 1) := by decide +kernel
theorem d_P_returnOnCondition_0 : decode b_P_returnOnCondition 0 = .ok (.aload_n 0, 1) := by decide +kernel
theorem d_P_returnOnCondition_1 : decode b_P_returnOnCondition 1 = .ok (.getfield 19, 3) := by decide +kernel
theorem d_P_returnOnCondition_4 : decode b_P_returnOnCondition 4 = .ok (.iload_n 1, 1) := by decide +kernel
theorem d_P_returnOnCondition_5 : decode b_P_returnOnCondition 5 = .ok (.invokestatic 212, 3) := by decide +kernel
theorem d_P_returnOnCondition_8 : decode b_P_returnOnCondition 8 = .ok (.invokevirtual 241, 3) := by decide +kernel
theorem d_P_returnOnCondition_11 : decode b_P_returnOnCondition 11 = .ok (.ifCond .ne 5, 3) := by decide +kernel
theorem d_P_returnOnCondition_14 : decode b_P_returnOnCondition 14 = .ok (.iconst 5, 1) := by decide +kernel
theorem d_P_returnOnCondition_15 : decode b_P_returnOnCondition 15 = .ok (.ireturn, 1) := by decide +kernel
theorem d_P_returnOnCondition_16 : decode b_P_returnOnCondition 16 = .ok (.aload_n 0, 1) := by decide +kernel
theorem d_P_returnOnCondition_17 : decode b_P_returnOnCondition 17 = .ok (.aload_n 0, 1) := by decide +kernel
theorem d_P_returnOnCondition_18 : decode b_P_returnOnCondition 18 = .ok (.invokevirtual 244, 3) := by decide +kernel
theorem d_P_returnOnCondition_21 : decode b_P_returnOnCondition 21 = .ok (.putfield 59, 3) := by decide +kernel
theorem d_P_returnOnCondition_24 : decode b_P_returnOnCondition 24 = .ok (.bipush 11, 2) := by decide +kernel
theorem d_P_returnOnCondition_26 : decode b_P_returnOnCondition 26 = .ok (.ireturn, 1) := by decide +kernel
theorem d_P_returnOrCopyHl_0 : decode b_P_returnOrCopyHl 0 = .ok (.iload_n 1, 1) := by decide +kernel
theorem d_P_returnOrCopyHl_1 : decode b_P_returnOrCopyHl 1 = .ok (.invokestatic 190, 3) := by decide +kernel
theorem d_P_returnOrCopyHl_4 : decode b_P_returnOrCopyHl 4 = .ok (.lookupswitch 50 #[(2, 28), (3, 39)], 28) := by decide +kernel
theorem d_P_returnOrCopyHl_32 : decode b_P_returnOrCopyHl 32 = .ok (.aload_n 0, 1) := by decide +kernel
theorem d_P_returnOrCopyHl_33 : decode b_P_returnOrCopyHl 33 = .ok (.aload_n 0, 1) := by decide +kernel
theorem d_P_returnOrCopyHl_34 : decode b_P_returnOrCopyHl 34 = .ok (.iconst 2, 1) := by decide +kernel
theorem d_P_returnOrCopyHl_35 : decode b_P_returnOrCopyHl 35 = .ok (.invokevirtual 199, 3) := by decide +kernel
theorem d_P_returnOrCopyHl_38 : decode b_P_returnOrCopyHl 38 = .ok (.putfield 59, 3) := by decide +kernel
theorem d_P_returnOrCopyHl_41 : decode b_P_returnOrCopyHl 41 = .ok (.iconst 5, 1) := by decide +kernel
theorem d_P_returnOrCopyHl_42 : decode b_P_returnOrCopyHl 42 = .ok (.ireturn, 1) := by decide +kernel
theorem d_P_returnOrCopyHl_43 : decode b_P_returnOrCopyHl 43 = .ok (.aload_n 0, 1) := by decide +kernel
theorem d_P_returnOrCopyHl_44 : decode b_P_returnOrCopyHl 44 = .ok (.aload_n 0, 1) := by decide +kernel
theorem d_P_returnOrCopyHl_45 : decode b_P_returnOrCopyHl 45 = .ok (.iconst 2, 1) := by decide +kernel
theorem d_P_returnOrCopyHl_46 : decode b_P_returnOrCopyHl 46 = .ok (.invokevirtual 199, 3) := by decide +kernel
theorem d_P_returnOrCopyHl_49 : decode b_P_returnOrCopyHl 49 = .ok (.putfield 88, 3) := by decide +kernel
theorem d_P_returnOrCopyHl_52 : decode b_P_returnOrCopyHl 52 = .ok (.iconst 5, 1) := by decide +kernel
theorem d_P_returnOrCopyHl_53 : decode b_P_returnOrCopyHl 53 = .ok (.ireturn, 1) := by decide +kernel
theorem d_P_returnOrCopyHl_54 : decode b_P_returnOrCopyHl 54 = .ok (.aload_n 0, 1) := by decide +kernel
theorem d_P_returnOrCopyHl_55 : decode b_P_returnOrCopyHl 55 = .ok (.aload_n 0, 1) := by decide +kernel
theorem d_P_returnOrCopyHl_56 : decode b_P_returnOrCopyHl 56 = .ok (.invokevirtual 244, 3) := by decide +kernel
theorem d_P_returnOrCopyHl_59 : decode b_P_returnOrCopyHl 59 = .ok (.putfield 59, 3) := by decide +kernel
theorem d_P_returnOrCopyHl_62 : decode b_P_returnOrCopyHl 62 = .ok (.bipush 10, 2) := by decide +kernel
theorem d_P_returnOrCopyHl_64 : decode b_P_returnOrCopyHl 64 = .ok (.ireturn, 1) := by decide +kernel
theorem d_P_popPair_0 : decode b_P_popPair 0 = .ok (.aload_n 0, 1) := by decide +kernel
theorem d_P_popPair_1 : decode b_P_popPair 1 = .ok (.invokevirtual 244, 3) := by decide +kernel
theorem d_P_popPair_4 : decode b_P_popPair 4 = .ok (.istore_n 2, 1) := by decide +kernel
theorem d_P_popPair_5 : decode b_P_popPair 5 = .ok (.iload_n 1, 1) := by decide +kernel
theorem d_P_popPair_6 : decode b_P_popPair 6 = .ok (.invokestatic 190, 3) := by decide +kernel
theorem d_P_popPair_9 : decode b_P_popPair 9 = .ok (.istore_n 3, 1) := by decide +kernel
theorem d_P_popPair_10 : decode b_P_popPair 10 = .ok (.iload_n 3, 1) := by decide +kernel
theorem d_P_popPair_11 : decode b_P_popPair 11 = .ok (.iconst 3, 1) := by decide +kernel
theorem d_P_popPair_12 : decode b_P_popPair 12 = .ok (.if_icmp .ne 29, 3) := by decide +kernel
theorem d_P_popPair_15 : decode b_P_popPair 15 = .ok (.aload_n 0, 1) := by decide +kernel
theorem d_P_popPair_16 : decode b_P_popPair 16 = .ok (.getfield 23, 3) := by decide +kernel
theorem d_P_popPair_19 : decode b_P_popPair 19 = .ok (.bipush 7, 2) := by decide +kernel
theorem d_P_popPair_21 : decode b_P_popPair 21 = .ok (.iload_n 2, 1) := by decide +kernel
theorem d_P_popPair_22 : decode b_P_popPair 22 = .ok (.bipush 8, 2) := by decide +kernel
theorem d_P_popPair_24 : decode b_P_popPair 24 = .ok (.ishr, 1) := by decide +kernel
theorem d_P_popPair_25 : decode b_P_popPair 25 = .ok (.iastore, 1) := by decide +kernel
theorem d_P_popPair_26 : decode b_P_popPair 26 = .ok (.aload_n 0, 1) := by decide +kernel
theorem d_P_popPair_27 : decode b_P_popPair 27 = .ok (.getfield 19, 3) := by decide +kernel
theorem d_P_popPair_30 : decode b_P_popPair 30 = .ok (.iload_n 2, 1) := by decide +kernel
theorem d_P_popPair_31 : decode b_P_popPair 31 = .ok (.sipush 255, 3) := by decide +kernel
theorem d_P_popPair_34 : decode b_P_popPair 34 = .ok (.iand, 1) := by decide +kernel
theorem d_P_popPair_35 : decode b_P_popPair 35 = .ok (.invokevirtual 98, 3) := by decide +kernel
theorem d_P_popPair_38 : decode b_P_popPair 38 = .ok (.goto 9, 3) := by decide +kernel
theorem d_P_popPair_41 : decode b_P_popPair 41 = .ok (.aload_n 0, 1) := by decide +kernel
theorem d_P_popPair_42 : decode b_P_popPair 42 = .ok (.iload_n 3, 1) := by decide +kernel
theorem d_P_popPair_43 : decode b_P_popPair 43 = .ok (.iload_n 2, 1) := by decide +kernel
theorem d_P_popPair_44 : decode b_P_popPair 44 = .ok (.invokevirtual 196, 3) := by decide +kernel
theorem d_P_popPair_47 : decode b_P_popPair 47 = .ok (.bipush 10, 2) := by decide +kernel
theorem d_P_popPair_49 : decode b_P_popPair 49 = .ok (.ireturn, 1) := by decide +kernel
theorem d_P_pushPair_0 : decode b_P_pushPair 0 = .ok (.iload_n 1, 1) := by decide +kernel
theorem d_P_pushPair_1 : decode b_P_pushPair 1 = .ok (.invokestatic 190, 3) := by decide +kernel
theorem d_P_pushPair_4 : decode b_P_pushPair 4 = .ok (.istore_n 2, 1) := by decide +kernel
theorem d_P_pushPair_5 : decode b_P_pushPair 5 = .ok (.aload_n 0, 1) := by decide +kernel
theorem d_P_pushPair_6 : decode b_P_pushPair 6 = .ok (.iload_n 2, 1) := by decide +kernel
theorem d_P_pushPair_7 : decode b_P_pushPair 7 = .ok (.iconst 3, 1) := by decide +kernel
theorem d_P_pushPair_8 : decode b_P_pushPair 8 = .ok (.if_icmp .ne 24, 3) := by decide +kernel
theorem d_P_pushPair_11 : decode b_P_pushPair 11 = .ok (.aload_n 0, 1) := by decide +kernel
theorem d_P_pushPair_12 : decode b_P_pushPair 12 = .ok (.getfield 23, 3) := by decide +kernel
theorem d_P_pushPair_15 : decode b_P_pushPair 15 = .ok (.bipush 7, 2) := by decide +kernel
theorem d_P_pushPair_17 : decode b_P_pushPair 17 = .ok (.iaload, 1) := by decide +kernel
theorem d_P_pushPair_18 : decode b_P_pushPair 18 = .ok (.bipush 8, 2) := by decide +kernel
theorem d_P_pushPair_20 : decode b_P_pushPair 20 = .ok (.ishl, 1) := by decide +kernel
theorem d_P_pushPair_21 : decode b_P_pushPair 21 = .ok (.aload_n 0, 1) := by decide +kernel
theorem d_P_pushPair_22 : decode b_P_pushPair 22 = .ok (.getfield 19, 3) := by decide +kernel
theorem d_P_pushPair_25 : decode b_P_pushPair 25 = .ok (.invokevirtual 84, 3) := by decide +kernel
theorem d_P_pushPair_28 : decode b_P_pushPair 28 = .ok (.ior, 1) := by decide +kernel
theorem d_P_pushPair_29 : decode b_P_pushPair 29 = .ok (.goto 8, 3) := by decide +kernel
theorem d_P_pushPair_32 : decode b_P_pushPair 32 = .ok (.aload_n 0, 1) := by decide +kernel
theorem d_P_pushPair_33 : decode b_P_pushPair 33 = .ok (.iload_n 2, 1) := by decide +kernel
theorem d_P_pushPair_34 : decode b_P_pushPair 34 = .ok (.invokevirtual 199, 3) := by decide +kernel
theorem d_P_pushPair_37 : decode b_P_pushPair 37 = .ok (.invokevirtual 247, 3) := by decide +kernel
theorem d_P_pushPair_40 : decode b_P_pushPair 40 = .ok (.bipush 11, 2) := by decide +kernel
theorem d_P_pushPair_42 : decode b_P_pushPair 42 = .ok (.ireturn, 1) := by decide +kernel
theorem d_P_jumpExchangeOrSwitch_0 : decode b_P_jumpExchangeOrSwitch 0 = .ok (.iload_n 1, 1) := by decide +kernel
theorem d_P_jumpExchangeOrSwitch_1 : decode b_P_jumpExchangeOrSwitch 1 = .ok (.invokestatic 212, 3) := by decide +kernel
theorem d_P_jumpExchangeOrSwitch_4 : decode b_P_jumpExchangeOrSwitch 4 = .ok (.tableswitch 102 2 7 #[40, 59, 78, 83, 88, 95], 40) := by decide +kernel
theorem d_P_jumpExchangeOrSwitch_44 : decode b_P_jumpExchangeOrSwitch 44 = .ok (.aload_n 0, 1) := by decide +kernel
theorem d_P_jumpExchangeOrSwitch_45 : decode b_P_jumpExchangeOrSwitch 45 = .ok (.getfield 30, 3) := by decide +kernel
theorem d_P_jumpExchangeOrSwitch_48 : decode b_P_jumpExchangeOrSwitch 48 = .ok (.aload_n 0, 1) := by decide +kernel
theorem d_P_jumpExchangeOrSwitch_49 : decode b_P_jumpExchangeOrSwitch 49 = .ok (.invokevirtual 121, 3) := by decide +kernel
theorem d_P_jumpExchangeOrSwitch_52 : decode b_P_jumpExchangeOrSwitch 52 = .ok (.aload_n 0, 1) := by decide +kernel
theorem d_P_jumpExchangeOrSwitch_53 : decode b_P_jumpExchangeOrSwitch 53 = .ok (.getfield 23, 3) := by decide +kernel
theorem d_P_jumpExchangeOrSwitch_56 : decode b_P_jumpExchangeOrSwitch 56 = .ok (.bipush 7, 2) := by decide +kernel
theorem d_P_jumpExchangeOrSwitch_58 : decode b_P_jumpExchangeOrSwitch 58 = .ok (.iaload, 1) := by decide +kernel
theorem d_P_jumpExchangeOrSwitch_59 : decode b_P_jumpExchangeOrSwitch 59 = .ok (.iastore, 1) := by decide +kernel
theorem d_P_jumpExchangeOrSwitch_60 : decode b_P_jumpExchangeOrSwitch 60 = .ok (.bipush 10, 2) := by decide +kernel
theorem d_P_jumpExchangeOrSwitch_62 : decode b_P_jumpExchangeOrSwitch 62 = .ok (.ireturn, 1) := by decide +kernel
theorem d_P_jumpExchangeOrSwitch_63 : decode b_P_jumpExchangeOrSwitch 63 = .ok (.aload_n 0, 1) := by decide +kernel
theorem d_P_jumpExchangeOrSwitch_64 : decode b_P_jumpExchangeOrSwitch 64 = .ok (.getfield 23, 3) := by decide +kernel
theorem d_P_jumpExchangeOrSwitch_67 : decode b_P_jumpExchangeOrSwitch 67 = .ok (.bipush 7, 2) := by decide +kernel
theorem d_P_jumpExchangeOrSwitch_69 : decode b_P_jumpExchangeOrSwitch 69 = .ok (.aload_n 0, 1) := by decide +kernel
theorem d_P_jumpExchangeOrSwitch_70 : decode b_P_jumpExchangeOrSwitch 70 = .ok (.getfield 27, 3) := by decide +kernel
theorem d_P_jumpExchangeOrSwitch_73 : decode b_P_jumpExchangeOrSwitch 73 = .ok (.aload_n 0, 1) := by decide +kernel
theorem d_P_jumpExchangeOrSwitch_74 : decode b_P_jumpExchangeOrSwitch 74 = .ok (.invokevirtual 121, 3) := by decide +kernel
theorem d_P_jumpExchangeOrSwitch_77 : decode b_P_jumpExchangeOrSwitch 77 = .ok (.iaload, 1) := by decide +kernel
theorem d_P_jumpExchangeOrSwitch_78 : decode b_P_jumpExchangeOrSwitch 78 = .ok (.iastore, 1) := by decide +kernel
theorem d_P_jumpExchangeOrSwitch_79 : decode b_P_jumpExchangeOrSwitch 79 = .ok (.bipush 10, 2) := by decide +kernel
theorem d_P_jumpExchangeOrSwitch_81 : decode b_P_jumpExchangeOrSwitch 81 = .ok (.ireturn, 1) := by decide +kernel
theorem d_P_jumpExchangeOrSwitch_82 : decode b_P_jumpExchangeOrSwitch 82 = .ok (.aload_n 0, 1) := by decide +kernel
theorem d_P_jumpExchangeOrSwitch_83 : decode b_P_jumpExchangeOrSwitch 83 = .ok (.invokevirtual 250, 3) := by decide +kernel
theorem d_P_jumpExchangeOrSwitch_86 : decode b_P_jumpExchangeOrSwitch 86 = .ok (.ireturn, 1) := by decide +kernel
theorem d_P_jumpExchangeOrSwitch_87 : decode b_P_jumpExchangeOrSwitch 87 = .ok (.aload_n 0, 1) := by decide +kernel
theorem d_P_jumpExchangeOrSwitch_88 : decode b_P_jumpExchangeOrSwitch 88 = .ok (.invokevirtual 253, 3) := by decide +kernel
theorem d_P_jumpExchangeOrSwitch_91 : decode b_P_jumpExchangeOrSwitch 91 = .ok (.ireturn, 1) := by decide +kernel
theorem d_P_jumpExchangeOrSwitch_92 : decode b_P_jumpExchangeOrSwitch 92 = .ok (.aload_n 0, 1) := by decide +kernel
theorem d_P_jumpExchangeOrSwitch_93 : decode b_P_jumpExchangeOrSwitch 93 = .ok (.iconst 0, 1) := by decide +kernel
theorem d_P_jumpExchangeOrSwitch_94 : decode b_P_jumpExchangeOrSwitch 94 = .ok (.putfield 102, 3) := by decide +kernel
theorem d_P_jumpExchangeOrSwitch_97 : decode b_P_jumpExchangeOrSwitch 97 = .ok (.iconst 4, 1) := by decide +kernel
theorem d_P_jumpExchangeOrSwitch_98 : decode b_P_jumpExchangeOrSwitch 98 = .ok (.ireturn, 1) := by decide +kernel
theorem d_P_jumpExchangeOrSwitch_99 : decode b_P_jumpExchangeOrSwitch 99 = .ok (.aload_n 0, 1) := by decide +kernel
theorem d_P_jumpExchangeOrSwitch_100 : decode b_P_jumpExchangeOrSwitch 100 = .ok (.iconst 1, 1) := by decide +kernel
theorem d_P_jumpExchangeOrSwitch_101 : decode b_P_jumpExchangeOrSwitch 101 = .ok (.putfield 102, 3) := by decide +kernel
theorem d_P_jumpExchangeOrSwitch_104 : decode b_P_jumpExchangeOrSwitch 104 = .ok (.iconst 4, 1) := by decide +kernel
theorem d_P_jumpExchangeOrSwitch_105 : decode b_P_jumpExchangeOrSwitch 105 = .ok (.ireturn, 1) := by decide +kernel
theorem d_P_jumpExchangeOrSwitch_106 : decode b_P_jumpExchangeOrSwitch 106 = .ok (.aload_n 0, 1) := by decide +kernel
theorem d_P_jumpExchangeOrSwitch_107 : decode b_P_jumpExchangeOrSwitch 107 = .ok (.aload_n 0, 1) := by decide +kernel
theorem d_P_jumpExchangeOrSwitch_108 : decode b_P_jumpExchangeOrSwitch 108 = .ok (.invokevirtual 193, 3) := by decide +kernel
theorem d_P_jumpExchangeOrSwitch_111 : decode b_P_jumpExchangeOrSwitch 111 = .ok (.putfield 59, 3) := by decide +kernel
theorem d_P_jumpExchangeOrSwitch_114 : decode b_P_jumpExchangeOrSwitch 114 = .ok (.bipush 10, 2) := by decide +kernel
theorem d_P_jumpExchangeOrSwitch_116 : decode b_P_jumpExchangeOrSwitch 116 = .ok (.ireturn, 1) := by decide +kernel
theorem d_P_exchangeHlWithStack_0 : decode b_P_exchangeHlWithStack 0 = .ok (.aload_n 0, 1) := by decide +kernel
theorem d_P_exchangeHlWithStack_1 : decode b_P_exchangeHlWithStack 1 = .ok (.getfield 88, 3) := by decide +kernel
theorem d_P_exchangeHlWithStack_4 : decode b_P_exchangeHlWithStack 4 = .ok (.iconst 1, 1) := by decide +kernel
theorem d_P_exchangeHlWithStack_5 : decode b_P_exchangeHlWithStack 5 = .ok (.iadd, 1) := by decide +kernel
theorem d_P_exchangeHlWithStack_6 : decode b_P_exchangeHlWithStack 6 = .ok (.ldc 56, 2) := by decide +kernel
theorem d_P_exchangeHlWithStack_8 : decode b_P_exchangeHlWithStack 8 = .ok (.iand, 1) := by decide +kernel
theorem d_P_exchangeHlWithStack_9 : decode b_P_exchangeHlWithStack 9 = .ok (.istore_n 1, 1) := by decide +kernel
theorem d_P_exchangeHlWithStack_10 : decode b_P_exchangeHlWithStack 10 = .ok (.aload_n 0, 1) := by decide +kernel
theorem d_P_exchangeHlWithStack_11 : decode b_P_exchangeHlWithStack 11 = .ok (.getfield 10, 3) := by decide +kernel
theorem d_P_exchangeHlWithStack_14 : decode b_P_exchangeHlWithStack 14 = .ok (.aload_n 0, 1) := by decide +kernel
theorem d_P_exchangeHlWithStack_15 : decode b_P_exchangeHlWithStack 15 = .ok (.getfield 88, 3) := by decide +kernel
theorem d_P_exchangeHlWithStack_18 : decode b_P_exchangeHlWithStack 18 = .ok (.invokevirtual 52, 3) := by decide +kernel
theorem d_P_exchangeHlWithStack_21 : decode b_P_exchangeHlWithStack 21 = .ok (.istore_n 2, 1) := by decide +kernel
theorem d_P_exchangeHlWithStack_22 : decode b_P_exchangeHlWithStack 22 = .ok (.aload_n 0, 1) := by decide +kernel
theorem d_P_exchangeHlWithStack_23 : decode b_P_exchangeHlWithStack 23 = .ok (.getfield 10, 3) := by decide +kernel
theorem d_P_exchangeHlWithStack_26 : decode b_P_exchangeHlWithStack 26 = .ok (.iload_n 1, 1) := by decide +kernel
theorem d_P_exchangeHlWithStack_27 : decode b_P_exchangeHlWithStack 27 = .ok (.invokevirtual 52, 3) := by decide +kernel
theorem d_P_exchangeHlWithStack_30 : decode b_P_exchangeHlWithStack 30 = .ok (.istore_n 3, 1) := by decide +kernel
theorem d_P_exchangeHlWithStack_31 : decode b_P_exchangeHlWithStack 31 = .ok (.aload_n 0, 1) := by decide +kernel
theorem d_P_exchangeHlWithStack_32 : decode b_P_exchangeHlWithStack 32 = .ok (.getfield 10, 3) := by decide +kernel
theorem d_P_exchangeHlWithStack_35 : decode b_P_exchangeHlWithStack 35 = .ok (.aload_n 0, 1) := by decide +kernel
theorem d_P_exchangeHlWithStack_36 : decode b_P_exchangeHlWithStack 36 = .ok (.getfield 88, 3) := by decide +kernel
theorem d_P_exchangeHlWithStack_39 : decode b_P_exchangeHlWithStack 39 = .ok (.aload_n 0, 1) := by decide +kernel
theorem d_P_exchangeHlWithStack_40 : decode b_P_exchangeHlWithStack 40 = .ok (.getfield 23, 3) := by decide +kernel
theorem d_P_exchangeHlWithStack_43 : decode b_P_exchangeHlWithStack 43 = .ok (.iconst 5, 1) := by decide +kernel
theorem d_P_exchangeHlWithStack_44 : decode b_P_exchangeHlWithStack 44 = .ok (.iaload, 1) := by decide +kernel
theorem d_P_exchangeHlWithStack_45 : decode b_P_exchangeHlWithStack 45 = .ok (.invokevirtual 46, 3) := by decide +kernel
theorem d_P_exchangeHlWithStack_48 : decode b_P_exchangeHlWithStack 48 = .ok (.aload_n 0, 1) := by decide +kernel
theorem d_P_exchangeHlWithStack_49 : decode b_P_exchangeHlWithStack 49 = .ok (.getfield 10, 3) := by decide +kernel
theorem d_P_exchangeHlWithStack_52 : decode b_P_exchangeHlWithStack 52 = .ok (.iload_n 1, 1) := by decide +kernel
theorem d_P_exchangeHlWithStack_53 : decode b_P_exchangeHlWithStack 53 = .ok (.aload_n 0, 1) := by decide +kernel
theorem d_P_exchangeHlWithStack_54 : decode b_P_exchangeHlWithStack 54 = .ok (.getfield 23, 3) := by decide +kernel
theorem d_P_exchangeHlWithStack_57 : decode b_P_exchangeHlWithStack 57 = .ok (.iconst 4, 1) := by decide +kernel
theorem d_P_exchangeHlWithStack_58 : decode b_P_exchangeHlWithStack 58 = .ok (.iaload, 1) := by decide +kernel
theorem d_P_exchangeHlWithStack_59 : decode b_P_exchangeHlWithStack 59 = .ok (.invokevirtual 46, 3) := by decide +kernel
theorem d_P_exchangeHlWithStack_62 : decode b_P_exchangeHlWithStack 62 = .ok (.aload_n 0, 1) := by decide +kernel
theorem d_P_exchangeHlWithStack_63 : decode b_P_exchangeHlWithStack 63 = .ok (.getfield 23, 3) := by decide +kernel
theorem d_P_exchangeHlWithStack_66 : decode b_P_exchangeHlWithStack 66 = .ok (.iconst 5, 1) := by decide +kernel
theorem d_P_exchangeHlWithStack_67 : decode b_P_exchangeHlWithStack 67 = .ok (.iload_n 2, 1) := by decide +kernel
theorem d_P_exchangeHlWithStack_68 : decode b_P_exchangeHlWithStack 68 = .ok (.iastore, 1) := by decide +kernel
theorem d_P_exchangeHlWithStack_69 : decode b_P_exchangeHlWithStack 69 = .ok (.aload_n 0, 1) := by decide +kernel
theorem d_P_exchangeHlWithStack_70 : decode b_P_exchangeHlWithStack 70 = .ok (.getfield 23, 3) := by decide +kernel
theorem d_P_exchangeHlWithStack_73 : decode b_P_exchangeHlWithStack 73 = .ok (.iconst 4, 1) := by decide +kernel
theorem d_P_exchangeHlWithStack_74 : decode b_P_exchangeHlWithStack 74 = .ok (.iload_n 3, 1) := by decide +kernel
theorem d_P_exchangeHlWithStack_75 : decode b_P_exchangeHlWithStack 75 = .ok (.iastore, 1) := by decide +kernel
theorem d_P_exchangeHlWithStack_76 : decode b_P_exchangeHlWithStack 76 = .ok (.bipush 18, 2) := by decide +kernel
theorem d_P_exchangeHlWithStack_78 : decode b_P_exchangeHlWithStack 78 = .ok (.ireturn, 1) := by decide +kernel
theorem d_P_exchangeHlWithDe_0 : decode b_P_exchangeHlWithDe 0 = .ok (.aload_n 0, 1) := by decide +kernel
theorem d_P_exchangeHlWithDe_1 : decode b_P_exchangeHlWithDe 1 = .ok (.iconst 2, 1) := by decide +kernel
theorem d_P_exchangeHlWithDe_2 : decode b_P_exchangeHlWithDe 2 = .ok (.invokevirtual 199, 3) := by decide +kernel
theorem d_P_exchangeHlWithDe_5 : decode b_P_exchangeHlWithDe 5 = .ok (.istore_n 1, 1) := by decide +kernel
theorem d_P_exchangeHlWithDe_6 : decode b_P_exchangeHlWithDe 6 = .ok (.aload_n 0, 1) := by decide +kernel
theorem d_P_exchangeHlWithDe_7 : decode b_P_exchangeHlWithDe 7 = .ok (.iconst 2, 1) := by decide +kernel
theorem d_P_exchangeHlWithDe_8 : decode b_P_exchangeHlWithDe 8 = .ok (.aload_n 0, 1) := by decide +kernel
theorem d_P_exchangeHlWithDe_9 : decode b_P_exchangeHlWithDe 9 = .ok (.iconst 1, 1) := by decide +kernel
theorem d_P_exchangeHlWithDe_10 : decode b_P_exchangeHlWithDe 10 = .ok (.invokevirtual 199, 3) := by decide +kernel
theorem d_P_exchangeHlWithDe_13 : decode b_P_exchangeHlWithDe 13 = .ok (.invokevirtual 196, 3) := by decide +kernel
theorem d_P_exchangeHlWithDe_16 : decode b_P_exchangeHlWithDe 16 = .ok (.aload_n 0, 1) := by decide +kernel
theorem d_P_exchangeHlWithDe_17 : decode b_P_exchangeHlWithDe 17 = .ok (.iconst 1, 1) := by decide +kernel
theorem d_P_exchangeHlWithDe_18 : decode b_P_exchangeHlWithDe 18 = .ok (.iload_n 1, 1) := by decide +kernel
theorem d_P_exchangeHlWithDe_19 : decode b_P_exchangeHlWithDe 19 = .ok (.invokevirtual 196, 3) := by decide +kernel
theorem d_P_exchangeHlWithDe_22 : decode b_P_exchangeHlWithDe 22 = .ok (.iconst 4, 1) := by decide +kernel
theorem d_P_exchangeHlWithDe_23 : decode b_P_exchangeHlWithDe 23 = .ok (.ireturn, 1) := by decide +kernel
theorem d_P_targetOf_0 : decode b_P_targetOf 0 = .ok (.iload_n 0, 1) := by decide +kernel
theorem d_P_targetOf_1 : decode b_P_targetOf 1 = .ok (.iconst 3, 1) := by decide +kernel
theorem d_P_targetOf_2 : decode b_P_targetOf 2 = .ok (.ishr, 1) := by decide +kernel
theorem d_P_targetOf_3 : decode b_P_targetOf 3 = .ok (.bipush 7, 2) := by decide +kernel
theorem d_P_targetOf_5 : decode b_P_targetOf 5 = .ok (.iand, 1) := by decide +kernel
theorem d_P_targetOf_6 : decode b_P_targetOf 6 = .ok (.ireturn, 1) := by decide +kernel
theorem d_P_pairOf_0 : decode b_P_pairOf 0 = .ok (.iload_n 0, 1) := by decide +kernel
theorem d_P_pairOf_1 : decode b_P_pairOf 1 = .ok (.iconst 4, 1) := by decide +kernel
theorem d_P_pairOf_2 : decode b_P_pairOf 2 = .ok (.ishr, 1) := by decide +kernel
theorem d_P_pairOf_3 : decode b_P_pairOf 3 = .ok (.iconst 3, 1) := by decide +kernel
theorem d_P_pairOf_4 : decode b_P_pairOf 4 = .ok (.iand, 1) := by decide +kernel
theorem d_P_pairOf_5 : decode b_P_pairOf 5 = .ok (.ireturn, 1) := by decide +kernel
theorem d_P_nextByte_0 : decode b_P_nextByte 0 = .ok (.aload_n 0, 1) := by decide +kernel
theorem d_P_nextByte_1 : decode b_P_nextByte 1 = .ok (.getfield 10, 3) := by decide +kernel
theorem d_P_nextByte_4 : decode b_P_nextByte 4 = .ok (.aload_n 0, 1) := by decide +kernel
theorem d_P_nextByte_5 : decode b_P_nextByte 5 = .ok (.getfield 59, 3) := by decide +kernel
theorem d_P_nextByte_8 : decode b_P_nextByte 8 = .ok (.invokevirtual 52, 3) := by decide +kernel
theorem d_P_nextByte_11 : decode b_P_nextByte 11 = .ok (.istore_n 1, 1) := by decide +kernel
theorem d_P_nextByte_12 : decode b_P_nextByte 12 = .ok (.aload_n 0, 1) := by decide +kernel
theorem d_P_nextByte_13 : decode b_P_nextByte 13 = .ok (.aload_n 0, 1) := by decide +kernel
theorem d_P_nextByte_14 : decode b_P_nextByte 14 = .ok (.getfield 59, 3) := by decide +kernel
theorem d_P_nextByte_17 : decode b_P_nextByte 17 = .ok (.iconst 1, 1) := by decide +kernel
theorem d_P_nextByte_18 : decode b_P_nextByte 18 = .ok (.iadd, 1) := by decide +kernel
theorem d_P_nextByte_19 : decode b_P_nextByte 19 = .ok (.ldc 56, 2) := by decide +kernel
theorem d_P_nextByte_21 : decode b_P_nextByte 21 = .ok (.iand, 1) := by decide +kernel
theorem d_P_nextByte_22 : decode b_P_nextByte 22 = .ok (.putfield 59, 3) := by decide +kernel
theorem d_P_nextByte_25 : decode b_P_nextByte 25 = .ok (.iload_n 1, 1) := by decide +kernel
theorem d_P_nextByte_26 : decode b_P_nextByte 26 = .ok (.ireturn, 1) := by decide +kernel
theorem d_P_nextTwoBytes_0 : decode b_P_nextTwoBytes 0 = .ok (.aload_n 0, 1) := by decide +kernel
theorem d_P_nextTwoBytes_1 : decode b_P_nextTwoBytes 1 = .ok (.invokevirtual 121, 3) := by decide +kernel
theorem d_P_nextTwoBytes_4 : decode b_P_nextTwoBytes 4 = .ok (.istore_n 1, 1) := by decide +kernel
theorem d_P_nextTwoBytes_5 : decode b_P_nextTwoBytes 5 = .ok (.aload_n 0, 1) := by decide +kernel
theorem d_P_nextTwoBytes_6 : decode b_P_nextTwoBytes 6 = .ok (.invokevirtual 121, 3) := by decide +kernel
theorem d_P_nextTwoBytes_9 : decode b_P_nextTwoBytes 9 = .ok (.bipush 8, 2) := by decide +kernel
theorem d_P_nextTwoBytes_11 : decode b_P_nextTwoBytes 11 = .ok (.ishl, 1) := by decide +kernel
theorem d_P_nextTwoBytes_12 : decode b_P_nextTwoBytes 12 = .ok (.iload_n 1, 1) := by decide +kernel
theorem d_P_nextTwoBytes_13 : decode b_P_nextTwoBytes 13 = .ok (.ior, 1) := by decide +kernel
theorem d_P_nextTwoBytes_14 : decode b_P_nextTwoBytes 14 = .ok (.ireturn, 1) := by decide +kernel
theorem d_P_callTo_0 : decode b_P_callTo 0 = .ok (.aload_n 0, 1) := by decide +kernel
theorem d_P_callTo_1 : decode b_P_callTo 1 = .ok (.aload_n 0, 1) := by decide +kernel
theorem d_P_callTo_2 : decode b_P_callTo 2 = .ok (.getfield 59, 3) := by decide +kernel
theorem d_P_callTo_5 : decode b_P_callTo 5 = .ok (.invokevirtual 247, 3) := by decide +kernel
theorem d_P_callTo_8 : decode b_P_callTo 8 = .ok (.aload_n 0, 1) := by decide +kernel
theorem d_P_callTo_9 : decode b_P_callTo 9 = .ok (.iload_n 1, 1) := by decide +kernel
theorem d_P_callTo_10 : decode b_P_callTo 10 = .ok (.putfield 59, 3) := by decide +kernel
theorem d_P_callTo_13 : decode b_P_callTo 13 = .ok (.return_, 1) := by decide +kernel
theorem d_P_push_0 : decode b_P_push 0 = .ok (.aload_n 0, 1) := by decide +kernel
theorem d_P_push_1 : decode b_P_push 1 = .ok (.aload_n 0, 1) := by decide +kernel
theorem d_P_push_2 : decode b_P_push 2 = .ok (.getfield 88, 3) := by decide +kernel
theorem d_P_push_5 : decode b_P_push 5 = .ok (.iconst 1, 1) := by decide +kernel
theorem d_P_push_6 : decode b_P_push 6 = .ok (.isub, 1) := by decide +kernel
theorem d_P_push_7 : decode b_P_push 7 = .ok (.ldc 56, 2) := by decide +kernel
theorem d_P_push_9 : decode b_P_push 9 = .ok (.iand, 1) := by decide +kernel
theorem d_P_push_10 : decode b_P_push 10 = .ok (.putfield 88, 3) := by decide +kernel
theorem d_P_push_13 : decode b_P_push 13 = .ok (.aload_n 0, 1) := by decide +kernel
theorem d_P_push_14 : decode b_P_push 14 = .ok (.getfield 10, 3) := by decide +kernel
theorem d_P_push_17 : decode b_P_push 17 = .ok (.aload_n 0, 1) := by decide +kernel
theorem d_P_push_18 : decode b_P_push 18 = .ok (.getfield 88, 3) := by decide +kernel
theorem d_P_push_21 : decode b_P_push 21 = .ok (.iload_n 1, 1) := by decide +kernel
theorem d_P_push_22 : decode b_P_push 22 = .ok (.bipush 8, 2) := by decide +kernel
theorem d_P_push_24 : decode b_P_push 24 = .ok (.ishr, 1) := by decide +kernel
theorem d_P_push_25 : decode b_P_push 25 = .ok (.invokevirtual 46, 3) := by decide +kernel
theorem d_P_push_28 : decode b_P_push 28 = .ok (.aload_n 0, 1) := by decide +kernel
theorem d_P_push_29 : decode b_P_push 29 = .ok (.aload_n 0, 1) := by decide +kernel
theorem d_P_push_30 : decode b_P_push 30 = .ok (.getfield 88, 3) := by decide +kernel
theorem d_P_push_33 : decode b_P_push 33 = .ok (.iconst 1, 1) := by decide +kernel
theorem d_P_push_34 : decode b_P_push 34 = .ok (.isub, 1) := by decide +kernel
theorem d_P_push_35 : decode b_P_push 35 = .ok (.ldc 56, 2) := by decide +kernel
theorem d_P_push_37 : decode b_P_push 37 = .ok (.iand, 1) := by decide +kernel
theorem d_P_push_38 : decode b_P_push 38 = .ok (.putfield 88, 3) := by decide +kernel
theorem d_P_push_41 : decode b_P_push 41 = .ok (.aload_n 0, 1) := by decide +kernel
theorem d_P_push_42 : decode b_P_push 42 = .ok (.getfield 10, 3) := by decide +kernel
theorem d_P_push_45 : decode b_P_push 45 = .ok (.aload_n 0, 1) := by decide +kernel
theorem d_P_push_46 : decode b_P_push 46 = .ok (.getfield 88, 3) := by decide +kernel
theorem d_P_push_49 : decode b_P_push 49 = .ok (.iload_n 1, 1) := by decide +kernel
theorem d_P_push_50 : decode b_P_push 50 = .ok (.sipush 255, 3) := by decide +kernel
theorem d_P_push_53 : decode b_P_push 53 = .ok (.iand, 1) := by decide +kernel
theorem d_P_push_54 : decode b_P_push 54 = .ok (.invokevirtual 46, 3) := by decide +kernel
theorem d_P_push_57 : decode b_P_push 57 = .ok (.return_, 1) := by decide +kernel
theorem d_P_pop_0 : decode b_P_pop 0 = .ok (.aload_n 0, 1) := by decide +kernel
theorem d_P_pop_1 : decode b_P_pop 1 = .ok (.getfield 10, 3) := by decide +kernel
theorem d_P_pop_4 : decode b_P_pop 4 = .ok (.aload_n 0, 1) := by decide +kernel
theorem d_P_pop_5 : decode b_P_pop 5 = .ok (.getfield 88, 3) := by decide +kernel
theorem d_P_pop_8 : decode b_P_pop 8 = .ok (.invokevirtual 52, 3) := by decide +kernel
theorem d_P_pop_11 : decode b_P_pop 11 = .ok (.istore_n 1, 1) := by decide +kernel
theorem d_P_pop_12 : decode b_P_pop 12 = .ok (.aload_n 0, 1) := by decide +kernel
theorem d_P_pop_13 : decode b_P_pop 13 = .ok (.aload_n 0, 1) := by decide +kernel
theorem d_P_pop_14 : decode b_P_pop 14 = .ok (.getfield 88, 3) := by decide +kernel
theorem d_P_pop_17 : decode b_P_pop 17 = .ok (.iconst 1, 1) := by decide +kernel
theorem d_P_pop_18 : decode b_P_pop 18 = .ok (.iadd, 1) := by decide +kernel
theorem d_P_pop_19 : decode b_P_pop 19 = .ok (.ldc 56, 2) := by decide +kernel
theorem d_P_pop_21 : decode b_P_pop 21 = .ok (.iand, 1) := by decide +kernel
theorem d_P_pop_22 : decode b_P_pop 22 = .ok (.putfield 88, 3) := by decide +kernel
theorem d_P_pop_25 : decode b_P_pop 25 = .ok (.aload_n 0, 1) := by decide +kernel
theorem d_P_pop_26 : decode b_P_pop 26 = .ok (.getfield 10, 3) := by decide +kernel
theorem d_P_pop_29 : decode b_P_pop 29 = .ok (.aload_n 0, 1) := by decide +kernel
theorem d_P_pop_30 : decode b_P_pop 30 = .ok (.getfield 88, 3) := by decide +kernel
theorem d_P_pop_33 : decode b_P_pop 33 = .ok (.invokevirtual 52, 3) := by decide +kernel
theorem d_P_pop_36 : decode b_P_pop 36 = .ok (.istore_n 2, 1) := by decide +kernel
theorem d_P_pop_37 : decode b_P_pop 37 = .ok (.aload_n 0, 1) := by decide +kernel
theorem d_P_pop_38 : decode b_P_pop 38 = .ok (.aload_n 0, 1) := by decide +kernel
theorem d_P_pop_39 : decode b_P_pop 39 = .ok (.getfield 88, 3) := by decide +kernel
theorem d_P_pop_42 : decode b_P_pop 42 = .ok (.iconst 1, 1) := by decide +kernel
theorem d_P_pop_43 : decode b_P_pop 43 = .ok (.iadd, 1) := by decide +kernel
theorem d_P_pop_44 : decode b_P_pop 44 = .ok (.ldc 56, 2) := by decide +kernel
theorem d_P_pop_46 : decode b_P_pop 46 = .ok (.iand, 1) := by decide +kernel
theorem d_P_pop_47 : decode b_P_pop 47 = .ok (.putfield 88, 3) := by decide +kernel
theorem d_P_pop_50 : decode b_P_pop 50 = .ok (.iload_n 2, 1) := by decide +kernel
theorem d_P_pop_51 : decode b_P_pop 51 = .ok (.bipush 8, 2) := by decide +kernel
theorem d_P_pop_53 : decode b_P_pop 53 = .ok (.ishl, 1) := by decide +kernel
theorem d_P_pop_54 : decode b_P_pop 54 = .ok (.iload_n 1, 1) := by decide +kernel
theorem d_P_pop_55 : decode b_P_pop 55 = .ok (.ior, 1) := by decide +kernel
theorem d_P_pop_56 : decode b_P_pop 56 = .ok (.ireturn, 1) := by decide +kernel
theorem d_P_readRegister_0 : decode b_P_readRegister 0 = .ok (.iload_n 1, 1) := by decide +kernel
theorem d_P_readRegister_1 : decode b_P_readRegister 1 = .ok (.bipush 6, 2) := by decide +kernel
theorem d_P_readRegister_3 : decode b_P_readRegister 3 = .ok (.if_icmp .ne 18, 3) := by decide +kernel
theorem d_P_readRegister_6 : decode b_P_readRegister 6 = .ok (.aload_n 0, 1) := by decide +kernel
theorem d_P_readRegister_7 : decode b_P_readRegister 7 = .ok (.getfield 10, 3) := by decide +kernel
theorem d_P_readRegister_10 : decode b_P_readRegister 10 = .ok (.aload_n 0, 1) := by decide +kernel
theorem d_P_readRegister_11 : decode b_P_readRegister 11 = .ok (.iconst 2, 1) := by decide +kernel
theorem d_P_readRegister_12 : decode b_P_readRegister 12 = .ok (.invokevirtual 199, 3) := by decide +kernel
theorem d_P_readRegister_15 : decode b_P_readRegister 15 = .ok (.invokevirtual 52, 3) := by decide +kernel
theorem d_P_readRegister_18 : decode b_P_readRegister 18 = .ok (.goto 9, 3) := by decide +kernel
theorem d_P_readRegister_21 : decode b_P_readRegister 21 = .ok (.aload_n 0, 1) := by decide +kernel
theorem d_P_readRegister_22 : decode b_P_readRegister 22 = .ok (.getfield 23, 3) := by decide +kernel
theorem d_P_readRegister_25 : decode b_P_readRegister 25 = .ok (.iload_n 1, 1) := by decide +kernel
theorem d_P_readRegister_26 : decode b_P_readRegister 26 = .ok (.iaload, 1) := by decide +kernel
theorem d_P_readRegister_27 : decode b_P_readRegister 27 = .ok (.ireturn, 1) := by decide +kernel
theorem d_P_writeRegister_0 : decode b_P_writeRegister 0 = .ok (.iload_n 1, 1) := by decide +kernel
theorem d_P_writeRegister_1 : decode b_P_writeRegister 1 = .ok (.bipush 6, 2) := by decide +kernel
theorem d_P_writeRegister_3 : decode b_P_writeRegister 3 = .ok (.if_icmp .ne 19, 3) := by decide +kernel
theorem d_P_writeRegister_6 : decode b_P_writeRegister 6 = .ok (.aload_n 0, 1) := by decide +kernel
theorem d_P_writeRegister_7 : decode b_P_writeRegister 7 = .ok (.getfield 10, 3) := by decide +kernel
theorem d_P_writeRegister_10 : decode b_P_writeRegister 10 = .ok (.aload_n 0, 1) := by decide +kernel
theorem d_P_writeRegister_11 : decode b_P_writeRegister 11 = .ok (.iconst 2, 1) := by decide +kernel
theorem d_P_writeRegister_12 : decode b_P_writeRegister 12 = .ok (.invokevirtual 199, 3) := by decide +kernel
theorem d_P_writeRegister_15 : decode b_P_writeRegister 15 = .ok (.iload_n 2, 1) := by decide +kernel
theorem d_P_writeRegister_16 : decode b_P_writeRegister 16 = .ok (.invokevirtual 46, 3) := by decide +kernel
theorem d_P_writeRegister_19 : decode b_P_writeRegister 19 = .ok (.goto 10, 3) := by decide +kernel
theorem d_P_writeRegister_22 : decode b_P_writeRegister 22 = .ok (.aload_n 0, 1) := by decide +kernel
theorem d_P_writeRegister_23 : decode b_P_writeRegister 23 = .ok (.getfield 23, 3) := by decide +kernel
theorem d_P_writeRegister_26 : decode b_P_writeRegister 26 = .ok (.iload_n 1, 1) := by decide +kernel
theorem d_P_writeRegister_27 : decode b_P_writeRegister 27 = .ok (.iload_n 2, 1) := by decide +kernel
theorem d_P_writeRegister_28 : decode b_P_writeRegister 28 = .ok (.iastore, 1) := by decide +kernel
theorem d_P_writeRegister_29 : decode b_P_writeRegister 29 = .ok (.return_, 1) := by decide +kernel
theorem d_P_readPair_0 : decode b_P_readPair 0 = .ok (.iload_n 1, 1) := by decide +kernel
theorem d_P_readPair_1 : decode b_P_readPair 1 = .ok (.iconst 3, 1) := by decide +kernel
theorem d_P_readPair_2 : decode b_P_readPair 2 = .ok (.if_icmp .ne 10, 3) := by decide +kernel
theorem d_P_readPair_5 : decode b_P_readPair 5 = .ok (.aload_n 0, 1) := by decide +kernel
theorem d_P_readPair_6 : decode b_P_readPair 6 = .ok (.getfield 88, 3) := by decide +kernel
theorem d_P_readPair_9 : decode b_P_readPair 9 = .ok (.goto 25, 3) := by decide +kernel
theorem d_P_readPair_12 : decode b_P_readPair 12 = .ok (.aload_n 0, 1) := by decide +kernel
theorem d_P_readPair_13 : decode b_P_readPair 13 = .ok (.getfield 23, 3) := by decide +kernel
theorem d_P_readPair_16 : decode b_P_readPair 16 = .ok (.iconst 2, 1) := by decide +kernel
theorem d_P_readPair_17 : decode b_P_readPair 17 = .ok (.iload_n 1, 1) := by decide +kernel
theorem d_P_readPair_18 : decode b_P_readPair 18 = .ok (.imul, 1) := by decide +kernel
theorem d_P_readPair_19 : decode b_P_readPair 19 = .ok (.iaload, 1) := by decide +kernel
theorem d_P_readPair_20 : decode b_P_readPair 20 = .ok (.bipush 8, 2) := by decide +kernel
theorem d_P_readPair_22 : decode b_P_readPair 22 = .ok (.ishl, 1) := by decide +kernel
theorem d_P_readPair_23 : decode b_P_readPair 23 = .ok (.aload_n 0, 1) := by decide +kernel
theorem d_P_readPair_24 : decode b_P_readPair 24 = .ok (.getfield 23, 3) := by decide +kernel
theorem d_P_readPair_27 : decode b_P_readPair 27 = .ok (.iconst 2, 1) := by decide +kernel
theorem d_P_readPair_28 : decode b_P_readPair 28 = .ok (.iload_n 1, 1) := by decide +kernel
theorem d_P_readPair_29 : decode b_P_readPair 29 = .ok (.imul, 1) := by decide +kernel
theorem d_P_readPair_30 : decode b_P_readPair 30 = .ok (.iconst 1, 1) := by decide +kernel
theorem d_P_readPair_31 : decode b_P_readPair 31 = .ok (.iadd, 1) := by decide +kernel
theorem d_P_readPair_32 : decode b_P_readPair 32 = .ok (.iaload, 1) := by decide +kernel
theorem d_P_readPair_33 : decode b_P_readPair 33 = .ok (.ior, 1) := by decide +kernel
theorem d_P_readPair_34 : decode b_P_readPair 34 = .ok (.ireturn, 1) := by decide +kernel
theorem d_P_writePair_0 : decode b_P_writePair 0 = .ok (.iload_n 1, 1) := by decide +kernel
theorem d_P_writePair_1 : decode b_P_writePair 1 = .ok (.iconst 3, 1) := by decide +kernel
theorem d_P_writePair_2 : decode b_P_writePair 2 = .ok (.if_icmp .ne 11, 3) := by decide +kernel
theorem d_P_writePair_5 : decode b_P_writePair 5 = .ok (.aload_n 0, 1) := by decide +kernel
theorem d_P_writePair_6 : decode b_P_writePair 6 = .ok (.iload_n 2, 1) := by decide +kernel
theorem d_P_writePair_7 : decode b_P_writePair 7 = .ok (.putfield 88, 3) := by decide +kernel
theorem d_P_writePair_10 : decode b_P_writePair 10 = .ok (.goto 30, 3) := by decide +kernel
theorem d_P_writePair_13 : decode b_P_writePair 13 = .ok (.aload_n 0, 1) := by decide +kernel
theorem d_P_writePair_14 : decode b_P_writePair 14 = .ok (.getfield 23, 3) := by decide +kernel
theorem d_P_writePair_17 : decode b_P_writePair 17 = .ok (.iconst 2, 1) := by decide +kernel
theorem d_P_writePair_18 : decode b_P_writePair 18 = .ok (.iload_n 1, 1) := by decide +kernel
theorem d_P_writePair_19 : decode b_P_writePair 19 = .ok (.imul, 1) := by decide +kernel
theorem d_P_writePair_20 : decode b_P_writePair 20 = .ok (.iload_n 2, 1) := by decide +kernel
theorem d_P_writePair_21 : decode b_P_writePair 21 = .ok (.bipush 8, 2) := by decide +kernel
theorem d_P_writePair_23 : decode b_P_writePair 23 = .ok (.ishr, 1) := by decide +kernel
theorem d_P_writePair_24 : decode b_P_writePair 24 = .ok (.iastore, 1) := by decide +kernel
theorem d_P_writePair_25 : decode b_P_writePair 25 = .ok (.aload_n 0, 1) := by decide +kernel
theorem d_P_writePair_26 : decode b_P_writePair 26 = .ok (.getfield 23, 3) := by decide +kernel
theorem d_P_writePair_29 : decode b_P_writePair 29 = .ok (.iconst 2, 1) := by decide +kernel
theorem d_P_writePair_30 : decode b_P_writePair 30 = .ok (.iload_n 1, 1) := by decide +kernel
theorem d_P_writePair_31 : decode b_P_writePair 31 = .ok (.imul, 1) := by decide +kernel
theorem d_P_writePair_32 : decode b_P_writePair 32 = .ok (.iconst 1, 1) := by decide +kernel
theorem d_P_writePair_33 : decode b_P_writePair 33 = .ok (.iadd, 1) := by decide +kernel
theorem d_P_writePair_34 : decode b_P_writePair 34 = .ok (.iload_n 2, 1) := by decide +kernel
theorem d_P_writePair_35 : decode b_P_writePair 35 = .ok (.sipush 255, 3) := by decide +kernel
theorem d_P_writePair_38 : decode b_P_writePair 38 = .ok (.iand, 1) := by decide +kernel
theorem d_P_writePair_39 : decode b_P_writePair 39 = .ok (.iastore, 1) := by decide +kernel
theorem d_P_writePair_40 : decode b_P_writePair 40 = .ok (.return_, 1) := by decide +kernel
theorem d_F_init_0 : decode b_F_init 0 = .ok (.aload_n 0, 1) := by decide +kernel
theorem d_F_init_1 : decode b_F_init 1 = .ok (.invokespecial 3, 3) := by decide +kernel
theorem d_F_init_4 : decode b_F_init 4 = .ok (.return_, 1) := by decide +kernel
theorem d_F_asByte_0 : decode b_F_asByte 0 = .ok (.iconst 2, 1) := by decide +kernel
theorem d_F_asByte_1 : decode b_F_asByte 1 = .ok (.aload_n 0, 1) := by decide +kernel
theorem d_F_asByte_2 : decode b_F_asByte 2 = .ok (.getfield 11, 3) := by decide +kernel
theorem d_F_asByte_5 : decode b_F_asByte 5 = .ok (.ifCond .eq 9, 3) := by decide +kernel
theorem d_F_asByte_8 : decode b_F_asByte 8 = .ok (.sipush 128, 3) := by decide +kernel
theorem d_F_asByte_11 : decode b_F_asByte 11 = .ok (.goto 4, 3) := by decide +kernel
theorem d_F_asByte_14 : decode b_F_asByte 14 = .ok (.iconst 0, 1) := by decide +kernel
theorem d_F_asByte_15 : decode b_F_asByte 15 = .ok (.ior, 1) := by decide +kernel
theorem d_F_asByte_16 : decode b_F_asByte 16 = .ok (.aload_n 0, 1) := by decide +kernel
theorem d_F_asByte_17 : decode b_F_asByte 17 = .ok (.getfield 15, 3) := by decide +kernel
theorem d_F_asByte_20 : decode b_F_asByte 20 = .ok (.ifCond .eq 8, 3) := by decide +kernel
theorem d_F_asByte_23 : decode b_F_asByte 23 = .ok (.bipush 64, 2) := by decide +kernel
theorem d_F_asByte_25 : decode b_F_asByte 25 = .ok (.goto 4, 3) := by decide +kernel
theorem d_F_asByte_28 : decode b_F_asByte 28 = .ok (.iconst 0, 1) := by decide +kernel
theorem d_F_asByte_29 : decode b_F_asByte 29 = .ok (.ior, 1) := by decide +kernel
theorem d_F_asByte_30 : decode b_F_asByte 30 = .ok (.aload_n 0, 1) := by decide +kernel
theorem d_F_asByte_31 : decode b_F_asByte 31 = .ok (.getfield 18, 3) := by decide +kernel
theorem d_F_asByte_34 : decode b_F_asByte 34 = .ok (.ifCond .eq 8, 3) := by decide +kernel
theorem d_F_asByte_37 : decode b_F_asByte 37 = .ok (.bipush 16, 2) := by decide +kernel
theorem d_F_asByte_39 : decode b_F_asByte 39 = .ok (.goto 4, 3) := by decide +kernel
theorem d_F_asByte_42 : decode b_F_asByte 42 = .ok (.iconst 0, 1) := by decide +kernel
theorem d_F_asByte_43 : decode b_F_asByte 43 = .ok (.ior, 1) := by decide +kernel
theorem d_F_asByte_44 : decode b_F_asByte 44 = .ok (.aload_n 0, 1) := by decide +kernel
theorem d_F_asByte_45 : decode b_F_asByte 45 = .ok (.getfield 21, 3) := by decide +kernel
theorem d_F_asByte_48 : decode b_F_asByte 48 = .ok (.ifCond .eq 7, 3) := by decide +kernel
theorem d_F_asByte_51 : decode b_F_asByte 51 = .ok (.iconst 4, 1) := by decide +kernel
theorem d_F_asByte_52 : decode b_F_asByte 52 = .ok (.goto 4, 3) := by decide +kernel
theorem d_F_asByte_55 : decode b_F_asByte 55 = .ok (.iconst 0, 1) := by decide +kernel
theorem d_F_asByte_56 : decode b_F_asByte 56 = .ok (.ior, 1) := by decide +kernel
theorem d_F_asByte_57 : decode b_F_asByte 57 = .ok (.aload_n 0, 1) := by decide +kernel
theorem d_F_asByte_58 : decode b_F_asByte 58 = .ok (.getfield 24, 3) := by decide +kernel
theorem d_F_asByte_61 : decode b_F_asByte 61 = .ok (.ifCond .eq 7, 3) := by decide +kernel
theorem d_F_asByte_64 : decode b_F_asByte 64 = .ok (.iconst 1, 1) := by decide +kernel
theorem d_F_asByte_65 : decode b_F_asByte 65 = .ok (.goto 4, 3) := by decide +kernel
theorem d_F_asByte_68 : decode b_F_asByte 68 = .ok (.iconst 0, 1) := by decide +kernel
theorem d_F_asByte_69 : decode b_F_asByte 69 = .ok (.ior, 1) := by decide +kernel
theorem d_F_asByte_70 : decode b_F_asByte 70 = .ok (.ireturn, 1) := by decide +kernel
theorem d_F_takeByte_0 : decode b_F_takeByte 0 = .ok (.aload_n 0, 1) := by decide +kernel
theorem d_F_takeByte_1 : decode b_F_takeByte 1 = .ok (.iload_n 1, 1) := by decide +kernel
theorem d_F_takeByte_2 : decode b_F_takeByte 2 = .ok (.sipush 128, 3) := by decide +kernel
theorem d_F_takeByte_5 : decode b_F_takeByte 5 = .ok (.iand, 1) := by decide +kernel
theorem d_F_takeByte_6 : decode b_F_takeByte 6 = .ok (.ifCond .eq 7, 3) := by decide +kernel
theorem d_F_takeByte_9 : decode b_F_takeByte 9 = .ok (.iconst 1, 1) := by decide +kernel
theorem d_F_takeByte_10 : decode b_F_takeByte 10 = .ok (.goto 4, 3) := by decide +kernel
theorem d_F_takeByte_13 : decode b_F_takeByte 13 = .ok (.iconst 0, 1) := by decide +kernel
theorem d_F_takeByte_14 : decode b_F_takeByte 14 = .ok (.putfield 11, 3) := by decide +kernel
theorem d_F_takeByte_17 : decode b_F_takeByte 17 = .ok (.aload_n 0, 1) := by decide +kernel
theorem d_F_takeByte_18 : decode b_F_takeByte 18 = .ok (.iload_n 1, 1) := by decide +kernel
theorem d_F_takeByte_19 : decode b_F_takeByte 19 = .ok (.bipush 64, 2) := by decide +kernel
theorem d_F_takeByte_21 : decode b_F_takeByte 21 = .ok (.iand, 1) := by decide +kernel
theorem d_F_takeByte_22 : decode b_F_takeByte 22 = .ok (.ifCond .eq 7, 3) := by decide +kernel
theorem d_F_takeByte_25 : decode b_F_takeByte 25 = .ok (.iconst 1, 1) := by decide +kernel
theorem d_F_takeByte_26 : decode b_F_takeByte 26 = .ok (.goto 4, 3) := by decide +kernel
theorem d_F_takeByte_29 : decode b_F_takeByte 29 = .ok (.iconst 0, 1) := by decide +kernel
theorem d_F_takeByte_30 : decode b_F_takeByte 30 = .ok (.putfield 15, 3) := by decide +kernel
theorem d_F_takeByte_33 : decode b_F_takeByte 33 = .ok (.aload_n 0, 1) := by decide +kernel
theorem d_F_takeByte_34 : decode b_F_takeByte 34 = .ok (.iload_n 1, 1) := by decide +kernel
theorem d_F_takeByte_35 : decode b_F_takeByte 35 = .ok (.bipush 16, 2) := by decide +kernel
theorem d_F_takeByte_37 : decode b_F_takeByte 37 = .ok (.iand, 1) := by decide +kernel
theorem d_F_takeByte_38 : decode b_F_takeByte 38 = .ok (.ifCond .eq 7, 3) := by decide +kernel
theorem d_F_takeByte_41 : decode b_F_takeByte 41 = .ok (.iconst 1, 1) := by decide +kernel
theorem d_F_takeByte_42 : decode b_F_takeByte 42 = .ok (.goto 4, 3) := by decide +kernel
theorem d_F_takeByte_45 : decode b_F_takeByte 45 = .ok (.iconst 0, 1) := by decide +kernel
theorem d_F_takeByte_46 : decode b_F_takeByte 46 = .ok (.putfield 18, 3) := by decide +kernel
theorem d_F_takeByte_49 : decode b_F_takeByte 49 = .ok (.aload_n 0, 1) := by decide +kernel
theorem d_F_takeByte_50 : decode b_F_takeByte 50 = .ok (.iload_n 1, 1) := by decide +kernel
theorem d_F_takeByte_51 : decode b_F_takeByte 51 = .ok (.iconst 4, 1) := by decide +kernel
theorem d_F_takeByte_52 : decode b_F_takeByte 52 = .ok (.iand, 1) := by decide +kernel
theorem d_F_takeByte_53 : decode b_F_takeByte 53 = .ok (.ifCond .eq 7, 3) := by decide +kernel
theorem d_F_takeByte_56 : decode b_F_takeByte 56 = .ok (.iconst 1, 1) := by decide +kernel
theorem d_F_takeByte_57 : decode b_F_takeByte 57 = .ok (.goto 4, 3) := by decide +kernel
theorem d_F_takeByte_60 : decode b_F_takeByte 60 = .ok (.iconst 0, 1) := by decide +kernel
theorem d_F_takeByte_61 : decode b_F_takeByte 61 = .ok (.putfield 21, 3) := by decide +kernel
theorem d_F_takeByte_64 : decode b_F_takeByte 64 = .ok (.aload_n 0, 1) := by decide +kernel
theorem d_F_takeByte_65 : decode b_F_takeByte 65 = .ok (.iload_n 1, 1) := by decide +kernel
theorem d_F_takeByte_66 : decode b_F_takeByte 66 = .ok (.iconst 1, 1) := by decide +kernel
theorem d_F_takeByte_67 : decode b_F_takeByte 67 = .ok (.iand, 1) := by decide +kernel
theorem d_F_takeByte_68 : decode b_F_takeByte 68 = .ok (.ifCond .eq 7, 3) := by decide +kernel
theorem d_F_takeByte_71 : decode b_F_takeByte 71 = .ok (.iconst 1, 1) := by decide +kernel
theorem d_F_takeByte_72 : decode b_F_takeByte 72 = .ok (.goto 4, 3) := by decide +kernel
theorem d_F_takeByte_75 : decode b_F_takeByte 75 = .ok (.iconst 0, 1) := by decide +kernel
theorem d_F_takeByte_76 : decode b_F_takeByte 76 = .ok (.putfield 24, 3) := by decide +kernel
theorem d_F_takeByte_79 : decode b_F_takeByte 79 = .ok (.return_, 1) := by decide +kernel
theorem d_F_carryBit_0 : decode b_F_carryBit 0 = .ok (.aload_n 0, 1) := by decide +kernel
theorem d_F_carryBit_1 : decode b_F_carryBit 1 = .ok (.getfield 24, 3) := by decide +kernel
theorem d_F_carryBit_4 : decode b_F_carryBit 4 = .ok (.ifCond .eq 7, 3) := by decide +kernel
theorem d_F_carryBit_7 : decode b_F_carryBit 7 = .ok (.iconst 1, 1) := by decide +kernel
theorem d_F_carryBit_8 : decode b_F_carryBit 8 = .ok (.goto 4, 3) := by decide +kernel
theorem d_F_carryBit_11 : decode b_F_carryBit 11 = .ok (.iconst 0, 1) := by decide +kernel
theorem d_F_carryBit_12 : decode b_F_carryBit 12 = .ok (.ireturn, 1) := by decide +kernel
theorem d_F_takeCarry_0 : decode b_F_takeCarry 0 = .ok (.aload_n 0, 1) := by decide +kernel
theorem d_F_takeCarry_1 : decode b_F_takeCarry 1 = .ok (.iload_n 1, 1) := by decide +kernel
theorem d_F_takeCarry_2 : decode b_F_takeCarry 2 = .ok (.putfield 24, 3) := by decide +kernel
theorem d_F_takeCarry_5 : decode b_F_takeCarry 5 = .ok (.return_, 1) := by decide +kernel
theorem d_F_meet_0 : decode b_F_meet 0 = .ok (.aload_n 0, 1) := by decide +kernel
theorem d_F_meet_1 : decode b_F_meet 1 = .ok (.iload_n 1, 1) := by decide +kernel
theorem d_F_meet_2 : decode b_F_meet 2 = .ok (.iconst 1, 1) := by decide +kernel
theorem d_F_meet_3 : decode b_F_meet 3 = .ok (.ishr, 1) := by decide +kernel
theorem d_F_meet_4 : decode b_F_meet 4 = .ok (.invokevirtual 27, 3) := by decide +kernel
theorem d_F_meet_7 : decode b_F_meet 7 = .ok (.iload_n 1, 1) := by decide +kernel
theorem d_F_meet_8 : decode b_F_meet 8 = .ok (.iconst 1, 1) := by decide +kernel
theorem d_F_meet_9 : decode b_F_meet 9 = .ok (.iand, 1) := by decide +kernel
theorem d_F_meet_10 : decode b_F_meet 10 = .ok (.iconst 1, 1) := by decide +kernel
theorem d_F_meet_11 : decode b_F_meet 11 = .ok (.if_icmp .ne 7, 3) := by decide +kernel
theorem d_F_meet_14 : decode b_F_meet 14 = .ok (.iconst 1, 1) := by decide +kernel
theorem d_F_meet_15 : decode b_F_meet 15 = .ok (.goto 4, 3) := by decide +kernel
theorem d_F_meet_18 : decode b_F_meet 18 = .ok (.iconst 0, 1) := by decide +kernel
theorem d_F_meet_19 : decode b_F_meet 19 = .ok (.if_icmp .ne 7, 3) := by decide +kernel
theorem d_F_meet_22 : decode b_F_meet 22 = .ok (.iconst 1, 1) := by decide +kernel
theorem d_F_meet_23 : decode b_F_meet 23 = .ok (.goto 4, 3) := by decide +kernel
theorem d_F_meet_26 : decode b_F_meet 26 = .ok (.iconst 0, 1) := by decide +kernel
theorem d_F_meet_27 : decode b_F_meet 27 = .ok (.ireturn, 1) := by decide +kernel
theorem d_F_flagOfCondition_0 : decode b_F_flagOfCondition 0 = .ok (.iload_n 1, 1) := by decide +kernel
theorem d_F_flagOfCondition_1 : decode b_F_flagOfCondition 1 = .ok (.tableswitch 42 0 2 #[27, 32, 37], 27) := by decide +kernel
theorem d_F_flagOfCondition_28 : decode b_F_flagOfCondition 28 = .ok (.aload_n 0, 1) := by decide +kernel
theorem d_F_flagOfCondition_29 : decode b_F_flagOfCondition 29 = .ok (.getfield 15, 3) := by decide +kernel
theorem d_F_flagOfCondition_32 : decode b_F_flagOfCondition 32 = .ok (.ireturn, 1) := by decide +kernel
theorem d_F_flagOfCondition_33 : decode b_F_flagOfCondition 33 = .ok (.aload_n 0, 1) := by decide +kernel
theorem d_F_flagOfCondition_34 : decode b_F_flagOfCondition 34 = .ok (.getfield 24, 3) := by decide +kernel
theorem d_F_flagOfCondition_37 : decode b_F_flagOfCondition 37 = .ok (.ireturn, 1) := by decide +kernel
theorem d_F_flagOfCondition_38 : decode b_F_flagOfCondition 38 = .ok (.aload_n 0, 1) := by decide +kernel
theorem d_F_flagOfCondition_39 : decode b_F_flagOfCondition 39 = .ok (.getfield 21, 3) := by decide +kernel
theorem d_F_flagOfCondition_42 : decode b_F_flagOfCondition 42 = .ok (.ireturn, 1) := by decide +kernel
theorem d_F_flagOfCondition_43 : decode b_F_flagOfCondition 43 = .ok (.aload_n 0, 1) := by decide +kernel
theorem d_F_flagOfCondition_44 : decode b_F_flagOfCondition 44 = .ok (.getfield 11, 3) := by decide +kernel
theorem d_F_flagOfCondition_47 : decode b_F_flagOfCondition 47 = .ok (.ireturn, 1) := by decide +kernel
theorem d_F_combined_0 : decode b_F_combined 0 = .ok (.iload_n 1, 1) := by decide +kernel
theorem d_F_combined_1 : decode b_F_combined 1 = .ok (.tableswitch 137 0 6 #[43, 55, 137, 70, 85, 111, 124], 43) := by decide +kernel
theorem d_F_combined_44 : decode b_F_combined 44 = .ok (.aload_n 0, 1) := by decide +kernel
theorem d_F_combined_45 : decode b_F_combined 45 = .ok (.iload_n 2, 1) := by decide +kernel
theorem d_F_combined_46 : decode b_F_combined 46 = .ok (.iload_n 3, 1) := by decide +kernel
theorem d_F_combined_47 : decode b_F_combined 47 = .ok (.iconst 0, 1) := by decide +kernel
theorem d_F_combined_48 : decode b_F_combined 48 = .ok (.invokevirtual 31, 3) := by decide +kernel
theorem d_F_combined_51 : decode b_F_combined 51 = .ok (.istore 4, 2) := by decide +kernel
theorem d_F_combined_53 : decode b_F_combined 53 = .ok (.goto 94, 3) := by decide +kernel
theorem d_F_combined_56 : decode b_F_combined 56 = .ok (.aload_n 0, 1) := by decide +kernel
theorem d_F_combined_57 : decode b_F_combined 57 = .ok (.iload_n 2, 1) := by decide +kernel
theorem d_F_combined_58 : decode b_F_combined 58 = .ok (.iload_n 3, 1) := by decide +kernel
theorem d_F_combined_59 : decode b_F_combined 59 = .ok (.aload_n 0, 1) := by decide +kernel
theorem d_F_combined_60 : decode b_F_combined 60 = .ok (.invokevirtual 35, 3) := by decide +kernel
theorem d_F_combined_63 : decode b_F_combined 63 = .ok (.invokevirtual 31, 3) := by decide +kernel
theorem d_F_combined_66 : decode b_F_combined 66 = .ok (.istore 4, 2) := by decide +kernel
theorem d_F_combined_68 : decode b_F_combined 68 = .ok (.goto 79, 3) := by decide +kernel
theorem d_F_combined_71 : decode b_F_combined 71 = .ok (.aload_n 0, 1) := by decide +kernel
theorem d_F_combined_72 : decode b_F_combined 72 = .ok (.iload_n 2, 1) := by decide +kernel
theorem d_F_combined_73 : decode b_F_combined 73 = .ok (.iload_n 3, 1) := by decide +kernel
theorem d_F_combined_74 : decode b_F_combined 74 = .ok (.aload_n 0, 1) := by decide +kernel
theorem d_F_combined_75 : decode b_F_combined 75 = .ok (.invokevirtual 35, 3) := by decide +kernel
theorem d_F_combined_78 : decode b_F_combined 78 = .ok (.invokevirtual 39, 3) := by decide +kernel
theorem d_F_combined_81 : decode b_F_combined 81 = .ok (.istore 4, 2) := by decide +kernel
theorem d_F_combined_83 : decode b_F_combined 83 = .ok (.goto 64, 3) := by decide +kernel
theorem d_F_combined_86 : decode b_F_combined 86 = .ok (.aload_n 0, 1) := by decide +kernel
theorem d_F_combined_87 : decode b_F_combined 87 = .ok (.iload_n 2, 1) := by decide +kernel
theorem d_F_combined_88 : decode b_F_combined 88 = .ok (.iload_n 3, 1) := by decide +kernel
theorem d_F_combined_89 : decode b_F_combined 89 = .ok (.iand, 1) := by decide +kernel
theorem d_F_combined_90 : decode b_F_combined 90 = .ok (.iload_n 2, 1) := by decide +kernel
theorem d_F_combined_91 : decode b_F_combined 91 = .ok (.iload_n 3, 1) := by decide +kernel
theorem d_F_combined_92 : decode b_F_combined 92 = .ok (.ior, 1) := by decide +kernel
theorem d_F_combined_93 : decode b_F_combined 93 = .ok (.bipush 8, 2) := by decide +kernel
theorem d_F_combined_95 : decode b_F_combined 95 = .ok (.iand, 1) := by decide +kernel
theorem d_F_combined_96 : decode b_F_combined 96 = .ok (.ifCond .eq 7, 3) := by decide +kernel
theorem d_F_combined_99 : decode b_F_combined 99 = .ok (.iconst 1, 1) := by decide +kernel
theorem d_F_combined_100 : decode b_F_combined 100 = .ok (.goto 4, 3) := by decide +kernel
theorem d_F_combined_103 : decode b_F_combined 103 = .ok (.iconst 0, 1) := by decide +kernel
theorem d_F_combined_104 : decode b_F_combined 104 = .ok (.invokevirtual 42, 3) := by decide +kernel
theorem d_F_combined_107 : decode b_F_combined 107 = .ok (.istore 4, 2) := by decide +kernel
theorem d_F_combined_109 : decode b_F_combined 109 = .ok (.goto 38, 3) := by decide +kernel
theorem d_F_combined_112 : decode b_F_combined 112 = .ok (.aload_n 0, 1) := by decide +kernel
theorem d_F_combined_113 : decode b_F_combined 113 = .ok (.iload_n 2, 1) := by decide +kernel
theorem d_F_combined_114 : decode b_F_combined 114 = .ok (.iload_n 3, 1) := by decide +kernel
theorem d_F_combined_115 : decode b_F_combined 115 = .ok (.ixor, 1) := by decide +kernel
theorem d_F_combined_116 : decode b_F_combined 116 = .ok (.iconst 0, 1) := by decide +kernel
theorem d_F_combined_117 : decode b_F_combined 117 = .ok (.invokevirtual 42, 3) := by decide +kernel
theorem d_F_combined_120 : decode b_F_combined 120 = .ok (.istore 4, 2) := by decide +kernel
theorem d_F_combined_122 : decode b_F_combined 122 = .ok (.goto 25, 3) := by decide +kernel
theorem d_F_combined_125 : decode b_F_combined 125 = .ok (.aload_n 0, 1) := by decide +kernel
theorem d_F_combined_126 : decode b_F_combined 126 = .ok (.iload_n 2, 1) := by decide +kernel
theorem d_F_combined_127 : decode b_F_combined 127 = .ok (.iload_n 3, 1) := by decide +kernel
theorem d_F_combined_128 : decode b_F_combined 128 = .ok (.ior, 1) := by decide +kernel
theorem d_F_combined_129 : decode b_F_combined 129 = .ok (.iconst 0, 1) := by decide +kernel
theorem d_F_combined_130 : decode b_F_combined 130 = .ok (.invokevirtual 42, 3) := by decide +kernel
theorem d_F_combined_133 : decode b_F_combined 133 = .ok (.istore 4, 2) := by decide +kernel
theorem d_F_combined_135 : decode b_F_combined 135 = .ok (.goto 12, 3) := by decide +kernel
theorem d_F_combined_138 : decode b_F_combined 138 = .ok (.aload_n 0, 1) := by decide +kernel
theorem d_F_combined_139 : decode b_F_combined 139 = .ok (.iload_n 2, 1) := by decide +kernel
theorem d_F_combined_140 : decode b_F_combined 140 = .ok (.iload_n 3, 1) := by decide +kernel
theorem d_F_combined_141 : decode b_F_combined 141 = .ok (.iconst 0, 1) := by decide +kernel
theorem d_F_combined_142 : decode b_F_combined 142 = .ok (.invokevirtual 39, 3) := by decide +kernel
theorem d_F_combined_145 : decode b_F_combined 145 = .ok (.istore 4, 2) := by decide +kernel
theorem d_F_combined_147 : decode b_F_combined 147 = .ok (.aload_n 0, 1) := by decide +kernel
theorem d_F_combined_148 : decode b_F_combined 148 = .ok (.iload 4, 2) := by decide +kernel
theorem d_F_combined_150 : decode b_F_combined 150 = .ok (.invokevirtual 46, 3) := by decide +kernel
theorem d_F_combined_153 : decode b_F_combined 153 = .ok (.iload_n 1, 1) := by decide +kernel
theorem d_F_combined_154 : decode b_F_combined 154 = .ok (.bipush 7, 2) := by decide +kernel
theorem d_F_combined_156 : decode b_F_combined 156 = .ok (.if_icmp .ne 7, 3) := by decide +kernel
theorem d_F_combined_159 : decode b_F_combined 159 = .ok (.iload_n 2, 1) := by decide +kernel
theorem d_F_combined_160 : decode b_F_combined 160 = .ok (.goto 5, 3) := by decide +kernel
theorem d_F_combined_163 : decode b_F_combined 163 = .ok (.iload 4, 2) := by decide +kernel
theorem d_F_combined_165 : decode b_F_combined 165 = .ok (.ireturn, 1) := by decide +kernel
theorem d_F_sum_0 : decode b_F_sum 0 = .ok (.iload_n 1, 1) := by decide +kernel
theorem d_F_sum_1 : decode b_F_sum 1 = .ok (.iload_n 2, 1) := by decide +kernel
theorem d_F_sum_2 : decode b_F_sum 2 = .ok (.iadd, 1) := by decide +kernel
theorem d_F_sum_3 : decode b_F_sum 3 = .ok (.iload_n 3, 1) := by decide +kernel
theorem d_F_sum_4 : decode b_F_sum 4 = .ok (.iadd, 1) := by decide +kernel
theorem d_F_sum_5 : decode b_F_sum 5 = .ok (.istore 4, 2) := by decide +kernel
theorem d_F_sum_7 : decode b_F_sum 7 = .ok (.aload_n 0, 1) := by decide +kernel
theorem d_F_sum_8 : decode b_F_sum 8 = .ok (.iload_n 1, 1) := by decide +kernel
theorem d_F_sum_9 : decode b_F_sum 9 = .ok (.bipush 15, 2) := by decide +kernel
theorem d_F_sum_11 : decode b_F_sum 11 = .ok (.iand, 1) := by decide +kernel
theorem d_F_sum_12 : decode b_F_sum 12 = .ok (.iload_n 2, 1) := by decide +kernel
theorem d_F_sum_13 : decode b_F_sum 13 = .ok (.bipush 15, 2) := by decide +kernel
theorem d_F_sum_15 : decode b_F_sum 15 = .ok (.iand, 1) := by decide +kernel
theorem d_F_sum_16 : decode b_F_sum 16 = .ok (.iadd, 1) := by decide +kernel
theorem d_F_sum_17 : decode b_F_sum 17 = .ok (.iload_n 3, 1) := by decide +kernel
theorem d_F_sum_18 : decode b_F_sum 18 = .ok (.iadd, 1) := by decide +kernel
theorem d_F_sum_19 : decode b_F_sum 19 = .ok (.bipush 15, 2) := by decide +kernel
theorem d_F_sum_21 : decode b_F_sum 21 = .ok (.if_icmp .le 7, 3) := by decide +kernel
theorem d_F_sum_24 : decode b_F_sum 24 = .ok (.iconst 1, 1) := by decide +kernel
theorem d_F_sum_25 : decode b_F_sum 25 = .ok (.goto 4, 3) := by decide +kernel
theorem d_F_sum_28 : decode b_F_sum 28 = .ok (.iconst 0, 1) := by decide +kernel
theorem d_F_sum_29 : decode b_F_sum 29 = .ok (.putfield 18, 3) := by decide +kernel
theorem d_F_sum_32 : decode b_F_sum 32 = .ok (.aload_n 0, 1) := by decide +kernel
theorem d_F_sum_33 : decode b_F_sum 33 = .ok (.iload 4, 2) := by decide +kernel
theorem d_F_sum_35 : decode b_F_sum 35 = .ok (.sipush 255, 3) := by decide +kernel
theorem d_F_sum_38 : decode b_F_sum 38 = .ok (.if_icmp .le 7, 3) := by decide +kernel
theorem d_F_sum_41 : decode b_F_sum 41 = .ok (.iconst 1, 1) := by decide +kernel
theorem d_F_sum_42 : decode b_F_sum 42 = .ok (.goto 4, 3) := by decide +kernel
theorem d_F_sum_45 : decode b_F_sum 45 = .ok (.iconst 0, 1) := by decide +kernel
theorem d_F_sum_46 : decode b_F_sum 46 = .ok (.putfield 24, 3) := by decide +kernel
theorem d_F_sum_49 : decode b_F_sum 49 = .ok (.iload 4, 2) := by decide +kernel
theorem d_F_sum_51 : decode b_F_sum 51 = .ok (.sipush 255, 3) := by decide +kernel
theorem d_F_sum_54 : decode b_F_sum 54 = .ok (.iand, 1) := by decide +kernel
theorem d_F_sum_55 : decode b_F_sum 55 = .ok (.ireturn, 1) := by decide +kernel
theorem d_F_difference_0 : decode b_F_difference 0 = .ok (.aload_n 0, 1) := by decide +kernel
theorem d_F_difference_1 : decode b_F_difference 1 = .ok (.iload_n 1, 1) := by decide +kernel
theorem d_F_difference_2 : decode b_F_difference 2 = .ok (.sipush 255, 3) := by decide +kernel
theorem d_F_difference_5 : decode b_F_difference 5 = .ok (.iload_n 2, 1) := by decide +kernel
theorem d_F_difference_6 : decode b_F_difference 6 = .ok (.isub, 1) := by decide +kernel
theorem d_F_difference_7 : decode b_F_difference 7 = .ok (.iconst 1, 1) := by decide +kernel
theorem d_F_difference_8 : decode b_F_difference 8 = .ok (.iload_n 3, 1) := by decide +kernel
theorem d_F_difference_9 : decode b_F_difference 9 = .ok (.isub, 1) := by decide +kernel
theorem d_F_difference_10 : decode b_F_difference 10 = .ok (.invokevirtual 31, 3) := by decide +kernel
theorem d_F_difference_13 : decode b_F_difference 13 = .ok (.istore 4, 2) := by decide +kernel
theorem d_F_difference_15 : decode b_F_difference 15 = .ok (.aload_n 0, 1) := by decide +kernel
theorem d_F_difference_16 : decode b_F_difference 16 = .ok (.aload_n 0, 1) := by decide +kernel
theorem d_F_difference_17 : decode b_F_difference 17 = .ok (.getfield 24, 3) := by decide +kernel
theorem d_F_difference_20 : decode b_F_difference 20 = .ok (.ifCond .ne 7, 3) := by decide +kernel
theorem d_F_difference_23 : decode b_F_difference 23 = .ok (.iconst 1, 1) := by decide +kernel
theorem d_F_difference_24 : decode b_F_difference 24 = .ok (.goto 4, 3) := by decide +kernel
theorem d_F_difference_27 : decode b_F_difference 27 = .ok (.iconst 0, 1) := by decide +kernel
theorem d_F_difference_28 : decode b_F_difference 28 = .ok (.putfield 24, 3) := by decide +kernel
theorem d_F_difference_31 : decode b_F_difference 31 = .ok (.iload 4, 2) := by decide +kernel
theorem d_F_difference_33 : decode b_F_difference 33 = .ok (.ireturn, 1) := by decide +kernel
theorem d_F_logical_0 : decode b_F_logical 0 = .ok (.aload_n 0, 1) := by decide +kernel
theorem d_F_logical_1 : decode b_F_logical 1 = .ok (.iload_n 2, 1) := by decide +kernel
theorem d_F_logical_2 : decode b_F_logical 2 = .ok (.putfield 18, 3) := by decide +kernel
theorem d_F_logical_5 : decode b_F_logical 5 = .ok (.aload_n 0, 1) := by decide +kernel
theorem d_F_logical_6 : decode b_F_logical 6 = .ok (.iconst 0, 1) := by decide +kernel
theorem d_F_logical_7 : decode b_F_logical 7 = .ok (.putfield 24, 3) := by decide +kernel
theorem d_F_logical_10 : decode b_F_logical 10 = .ok (.iload_n 1, 1) := by decide +kernel
theorem d_F_logical_11 : decode b_F_logical 11 = .ok (.ireturn, 1) := by decide +kernel
theorem d_F_raised_0 : decode b_F_raised 0 = .ok (.iload_n 1, 1) := by decide +kernel
theorem d_F_raised_1 : decode b_F_raised 1 = .ok (.iconst 1, 1) := by decide +kernel
theorem d_F_raised_2 : decode b_F_raised 2 = .ok (.iadd, 1) := by decide +kernel
theorem d_F_raised_3 : decode b_F_raised 3 = .ok (.sipush 255, 3) := by decide +kernel
theorem d_F_raised_6 : decode b_F_raised 6 = .ok (.iand, 1) := by decide +kernel
theorem d_F_raised_7 : decode b_F_raised 7 = .ok (.istore_n 2, 1) := by decide +kernel
theorem d_F_raised_8 : decode b_F_raised 8 = .ok (.aload_n 0, 1) := by decide +kernel
theorem d_F_raised_9 : decode b_F_raised 9 = .ok (.iload_n 2, 1) := by decide +kernel
theorem d_F_raised_10 : decode b_F_raised 10 = .ok (.bipush 15, 2) := by decide +kernel
theorem d_F_raised_12 : decode b_F_raised 12 = .ok (.iand, 1) := by decide +kernel
theorem d_F_raised_13 : decode b_F_raised 13 = .ok (.ifCond .ne 7, 3) := by decide +kernel
theorem d_F_raised_16 : decode b_F_raised 16 = .ok (.iconst 1, 1) := by decide +kernel
theorem d_F_raised_17 : decode b_F_raised 17 = .ok (.goto 4, 3) := by decide +kernel
theorem d_F_raised_20 : decode b_F_raised 20 = .ok (.iconst 0, 1) := by decide +kernel
theorem d_F_raised_21 : decode b_F_raised 21 = .ok (.putfield 18, 3) := by decide +kernel
theorem d_F_raised_24 : decode b_F_raised 24 = .ok (.aload_n 0, 1) := by decide +kernel
theorem d_F_raised_25 : decode b_F_raised 25 = .ok (.iload_n 2, 1) := by decide +kernel
theorem d_F_raised_26 : decode b_F_raised 26 = .ok (.invokevirtual 46, 3) := by decide +kernel
theorem d_F_raised_29 : decode b_F_raised 29 = .ok (.iload_n 2, 1) := by decide +kernel
theorem d_F_raised_30 : decode b_F_raised 30 = .ok (.ireturn, 1) := by decide +kernel
theorem d_F_lowered_0 : decode b_F_lowered 0 = .ok (.iload_n 1, 1) := by decide +kernel
theorem d_F_lowered_1 : decode b_F_lowered 1 = .ok (.iconst 1, 1) := by decide +kernel
theorem d_F_lowered_2 : decode b_F_lowered 2 = .ok (.isub, 1) := by decide +kernel
theorem d_F_lowered_3 : decode b_F_lowered 3 = .ok (.sipush 255, 3) := by decide +kernel
theorem d_F_lowered_6 : decode b_F_lowered 6 = .ok (.iand, 1) := by decide +kernel
theorem d_F_lowered_7 : decode b_F_lowered 7 = .ok (.istore_n 2, 1) := by decide +kernel
theorem d_F_lowered_8 : decode b_F_lowered 8 = .ok (.aload_n 0, 1) := by decide +kernel
theorem d_F_lowered_9 : decode b_F_lowered 9 = .ok (.iload_n 2, 1) := by decide +kernel
theorem d_F_lowered_10 : decode b_F_lowered 10 = .ok (.bipush 15, 2) := by decide +kernel
theorem d_F_lowered_12 : decode b_F_lowered 12 = .ok (.iand, 1) := by decide +kernel
theorem d_F_lowered_13 : decode b_F_lowered 13 = .ok (.bipush 15, 2) := by decide +kernel
theorem d_F_lowered_15 : decode b_F_lowered 15 = .ok (.if_icmp .eq 7, 3) := by decide +kernel
theorem d_F_lowered_18 : decode b_F_lowered 18 = .ok (.iconst 1, 1) := by decide +kernel
theorem d_F_lowered_19 : decode b_F_lowered 19 = .ok (.goto 4, 3) := by decide +kernel
theorem d_F_lowered_22 : decode b_F_lowered 22 = .ok (.iconst 0, 1) := by decide +kernel
theorem d_F_lowered_23 : decode b_F_lowered 23 = .ok (.putfield 18, 3) := by decide +kernel
theorem d_F_lowered_26 : decode b_F_lowered 26 = .ok (.aload_n 0, 1) := by decide +kernel
theorem d_F_lowered_27 : decode b_F_lowered 27 = .ok (.iload_n 2, 1) := by decide +kernel
theorem d_F_lowered_28 : decode b_F_lowered 28 = .ok (.invokevirtual 46, 3) := by decide +kernel
theorem d_F_lowered_31 : decode b_F_lowered 31 = .ok (.iload_n 2, 1) := by decide +kernel
theorem d_F_lowered_32 : decode b_F_lowered 32 = .ok (.ireturn, 1) := by decide +kernel
theorem d_F_turnedLeft_0 : decode b_F_turnedLeft 0 = .ok (.aload_n 0, 1) := by decide +kernel
theorem d_F_turnedLeft_1 : decode b_F_turnedLeft 1 = .ok (.iload_n 1, 1) := by decide +kernel
theorem d_F_turnedLeft_2 : decode b_F_turnedLeft 2 = .ok (.sipush 128, 3) := by decide +kernel
theorem d_F_turnedLeft_5 : decode b_F_turnedLeft 5 = .ok (.iand, 1) := by decide +kernel
theorem d_F_turnedLeft_6 : decode b_F_turnedLeft 6 = .ok (.ifCond .eq 7, 3) := by decide +kernel
theorem d_F_turnedLeft_9 : decode b_F_turnedLeft 9 = .ok (.iconst 1, 1) := by decide +kernel
theorem d_F_turnedLeft_10 : decode b_F_turnedLeft 10 = .ok (.goto 4, 3) := by decide +kernel
theorem d_F_turnedLeft_13 : decode b_F_turnedLeft 13 = .ok (.iconst 0, 1) := by decide +kernel
theorem d_F_turnedLeft_14 : decode b_F_turnedLeft 14 = .ok (.putfield 24, 3) := by decide +kernel
theorem d_F_turnedLeft_17 : decode b_F_turnedLeft 17 = .ok (.iload_n 1, 1) := by decide +kernel
theorem d_F_turnedLeft_18 : decode b_F_turnedLeft 18 = .ok (.iconst 1, 1) := by decide +kernel
theorem d_F_turnedLeft_19 : decode b_F_turnedLeft 19 = .ok (.ishl, 1) := by decide +kernel
theorem d_F_turnedLeft_20 : decode b_F_turnedLeft 20 = .ok (.iload_n 2, 1) := by decide +kernel
theorem d_F_turnedLeft_21 : decode b_F_turnedLeft 21 = .ok (.ior, 1) := by decide +kernel
theorem d_F_turnedLeft_22 : decode b_F_turnedLeft 22 = .ok (.sipush 255, 3) := by decide +kernel
theorem d_F_turnedLeft_25 : decode b_F_turnedLeft 25 = .ok (.iand, 1) := by decide +kernel
theorem d_F_turnedLeft_26 : decode b_F_turnedLeft 26 = .ok (.ireturn, 1) := by decide +kernel
theorem d_F_turnedRight_0 : decode b_F_turnedRight 0 = .ok (.aload_n 0, 1) := by decide +kernel
theorem d_F_turnedRight_1 : decode b_F_turnedRight 1 = .ok (.iload_n 1, 1) := by decide +kernel
theorem d_F_turnedRight_2 : decode b_F_turnedRight 2 = .ok (.iconst 1, 1) := by decide +kernel
theorem d_F_turnedRight_3 : decode b_F_turnedRight 3 = .ok (.iand, 1) := by decide +kernel
theorem d_F_turnedRight_4 : decode b_F_turnedRight 4 = .ok (.ifCond .eq 7, 3) := by decide +kernel
theorem d_F_turnedRight_7 : decode b_F_turnedRight 7 = .ok (.iconst 1, 1) := by decide +kernel
theorem d_F_turnedRight_8 : decode b_F_turnedRight 8 = .ok (.goto 4, 3) := by decide +kernel
theorem d_F_turnedRight_11 : decode b_F_turnedRight 11 = .ok (.iconst 0, 1) := by decide +kernel
theorem d_F_turnedRight_12 : decode b_F_turnedRight 12 = .ok (.putfield 24, 3) := by decide +kernel
theorem d_F_turnedRight_15 : decode b_F_turnedRight 15 = .ok (.iload_n 1, 1) := by decide +kernel
theorem d_F_turnedRight_16 : decode b_F_turnedRight 16 = .ok (.iconst 1, 1) := by decide +kernel
theorem d_F_turnedRight_17 : decode b_F_turnedRight 17 = .ok (.ishr, 1) := by decide +kernel
theorem d_F_turnedRight_18 : decode b_F_turnedRight 18 = .ok (.iload_n 2, 1) := by decide +kernel
theorem d_F_turnedRight_19 : decode b_F_turnedRight 19 = .ok (.bipush 7, 2) := by decide +kernel
theorem d_F_turnedRight_21 : decode b_F_turnedRight 21 = .ok (.ishl, 1) := by decide +kernel
theorem d_F_turnedRight_22 : decode b_F_turnedRight 22 = .ok (.ior, 1) := by decide +kernel
theorem d_F_turnedRight_23 : decode b_F_turnedRight 23 = .ok (.ireturn, 1) := by decide +kernel
theorem d_F_decimalOf_0 : decode b_F_decimalOf 0 = .ok (.iload_n 1, 1) := by decide +kernel
theorem d_F_decimalOf_1 : decode b_F_decimalOf 1 = .ok (.bipush 15, 2) := by decide +kernel
theorem d_F_decimalOf_3 : decode b_F_decimalOf 3 = .ok (.iand, 1) := by decide +kernel
theorem d_F_decimalOf_4 : decode b_F_decimalOf 4 = .ok (.bipush 9, 2) := by decide +kernel
theorem d_F_decimalOf_6 : decode b_F_decimalOf 6 = .ok (.if_icmp .gt 10, 3) := by decide +kernel
theorem d_F_decimalOf_9 : decode b_F_decimalOf 9 = .ok (.aload_n 0, 1) := by decide +kernel
theorem d_F_decimalOf_10 : decode b_F_decimalOf 10 = .ok (.getfield 18, 3) := by decide +kernel
theorem d_F_decimalOf_13 : decode b_F_decimalOf 13 = .ok (.ifCond .eq 7, 3) := by decide +kernel
theorem d_F_decimalOf_16 : decode b_F_decimalOf 16 = .ok (.iconst 1, 1) := by decide +kernel
theorem d_F_decimalOf_17 : decode b_F_decimalOf 17 = .ok (.goto 4, 3) := by decide +kernel
theorem d_F_decimalOf_20 : decode b_F_decimalOf 20 = .ok (.iconst 0, 1) := by decide +kernel
theorem d_F_decimalOf_21 : decode b_F_decimalOf 21 = .ok (.istore_n 2, 1) := by decide +kernel
theorem d_F_decimalOf_22 : decode b_F_decimalOf 22 = .ok (.iload_n 2, 1) := by decide +kernel
theorem d_F_decimalOf_23 : decode b_F_decimalOf 23 = .ok (.ifCond .eq 10, 3) := by decide +kernel
theorem d_F_decimalOf_26 : decode b_F_decimalOf 26 = .ok (.iload_n 1, 1) := by decide +kernel
theorem d_F_decimalOf_27 : decode b_F_decimalOf 27 = .ok (.bipush 6, 2) := by decide +kernel
theorem d_F_decimalOf_29 : decode b_F_decimalOf 29 = .ok (.iadd, 1) := by decide +kernel
theorem d_F_decimalOf_30 : decode b_F_decimalOf 30 = .ok (.goto 4, 3) := by decide +kernel
theorem d_F_decimalOf_33 : decode b_F_decimalOf 33 = .ok (.iload_n 1, 1) := by decide +kernel
theorem d_F_decimalOf_34 : decode b_F_decimalOf 34 = .ok (.istore_n 3, 1) := by decide +kernel
theorem d_F_decimalOf_35 : decode b_F_decimalOf 35 = .ok (.aload_n 0, 1) := by decide +kernel
theorem d_F_decimalOf_36 : decode b_F_decimalOf 36 = .ok (.iload_n 2, 1) := by decide +kernel
theorem d_F_decimalOf_37 : decode b_F_decimalOf 37 = .ok (.ifCond .eq 19, 3) := by decide +kernel
theorem d_F_decimalOf_40 : decode b_F_decimalOf 40 = .ok (.iload_n 1, 1) := by decide +kernel
theorem d_F_decimalOf_41 : decode b_F_decimalOf 41 = .ok (.bipush 15, 2) := by decide +kernel
theorem d_F_decimalOf_43 : decode b_F_decimalOf 43 = .ok (.iand, 1) := by decide +kernel
theorem d_F_decimalOf_44 : decode b_F_decimalOf 44 = .ok (.bipush 6, 2) := by decide +kernel
theorem d_F_decimalOf_46 : decode b_F_decimalOf 46 = .ok (.iadd, 1) := by decide +kernel
theorem d_F_decimalOf_47 : decode b_F_decimalOf 47 = .ok (.bipush 15, 2) := by decide +kernel
theorem d_F_decimalOf_49 : decode b_F_decimalOf 49 = .ok (.if_icmp .le 7, 3) := by decide +kernel
theorem d_F_decimalOf_52 : decode b_F_decimalOf 52 = .ok (.iconst 1, 1) := by decide +kernel
theorem d_F_decimalOf_53 : decode b_F_decimalOf 53 = .ok (.goto 4, 3) := by decide +kernel
theorem d_F_decimalOf_56 : decode b_F_decimalOf 56 = .ok (.iconst 0, 1) := by decide +kernel
theorem d_F_decimalOf_57 : decode b_F_decimalOf 57 = .ok (.putfield 18, 3) := by decide +kernel
theorem d_F_decimalOf_60 : decode b_F_decimalOf 60 = .ok (.iload_n 3, 1) := by decide +kernel
theorem d_F_decimalOf_61 : decode b_F_decimalOf 61 = .ok (.sipush 159, 3) := by decide +kernel
theorem d_F_decimalOf_64 : decode b_F_decimalOf 64 = .ok (.if_icmp .gt 10, 3) := by decide +kernel
theorem d_F_decimalOf_67 : decode b_F_decimalOf 67 = .ok (.aload_n 0, 1) := by decide +kernel
theorem d_F_decimalOf_68 : decode b_F_decimalOf 68 = .ok (.getfield 24, 3) := by decide +kernel
theorem d_F_decimalOf_71 : decode b_F_decimalOf 71 = .ok (.ifCond .eq 11, 3) := by decide +kernel
theorem d_F_decimalOf_74 : decode b_F_decimalOf 74 = .ok (.iinc 3 96, 3) := by decide +kernel
theorem d_F_decimalOf_77 : decode b_F_decimalOf 77 = .ok (.aload_n 0, 1) := by decide +kernel
theorem d_F_decimalOf_78 : decode b_F_decimalOf 78 = .ok (.iconst 1, 1) := by decide +kernel
theorem d_F_decimalOf_79 : decode b_F_decimalOf 79 = .ok (.putfield 24, 3) := by decide +kernel
theorem d_F_decimalOf_82 : decode b_F_decimalOf 82 = .ok (.iload_n 3, 1) := by decide +kernel
theorem d_F_decimalOf_83 : decode b_F_decimalOf 83 = .ok (.sipush 255, 3) := by decide +kernel
theorem d_F_decimalOf_86 : decode b_F_decimalOf 86 = .ok (.iand, 1) := by decide +kernel
theorem d_F_decimalOf_87 : decode b_F_decimalOf 87 = .ok (.istore 4, 2) := by decide +kernel
theorem d_F_decimalOf_89 : decode b_F_decimalOf 89 = .ok (.aload_n 0, 1) := by decide +kernel
theorem d_F_decimalOf_90 : decode b_F_decimalOf 90 = .ok (.iload 4, 2) := by decide +kernel
theorem d_F_decimalOf_92 : decode b_F_decimalOf 92 = .ok (.invokevirtual 46, 3) := by decide +kernel
theorem d_F_decimalOf_95 : decode b_F_decimalOf 95 = .ok (.iload 4, 2) := by decide +kernel
theorem d_F_decimalOf_97 : decode b_F_decimalOf 97 = .ok (.ireturn, 1) := by decide +kernel
theorem d_F_judge_0 : decode b_F_judge 0 = .ok (.aload_n 0, 1) := by decide +kernel
theorem d_F_judge_1 : decode b_F_judge 1 = .ok (.iload_n 1, 1) := by decide +kernel
theorem d_F_judge_2 : decode b_F_judge 2 = .ok (.sipush 128, 3) := by decide +kernel
theorem d_F_judge_5 : decode b_F_judge 5 = .ok (.iand, 1) := by decide +kernel
theorem d_F_judge_6 : decode b_F_judge 6 = .ok (.ifCond .eq 7, 3) := by decide +kernel
theorem d_F_judge_9 : decode b_F_judge 9 = .ok (.iconst 1, 1) := by decide +kernel
theorem d_F_judge_10 : decode b_F_judge 10 = .ok (.goto 4, 3) := by decide +kernel
theorem d_F_judge_13 : decode b_F_judge 13 = .ok (.iconst 0, 1) := by decide +kernel
theorem d_F_judge_14 : decode b_F_judge 14 = .ok (.putfield 11, 3) := by decide +kernel
theorem d_F_judge_17 : decode b_F_judge 17 = .ok (.aload_n 0, 1) := by decide +kernel
theorem d_F_judge_18 : decode b_F_judge 18 = .ok (.iload_n 1, 1) := by decide +kernel
theorem d_F_judge_19 : decode b_F_judge 19 = .ok (.ifCond .ne 7, 3) := by decide +kernel
theorem d_F_judge_22 : decode b_F_judge 22 = .ok (.iconst 1, 1) := by decide +kernel
theorem d_F_judge_23 : decode b_F_judge 23 = .ok (.goto 4, 3) := by decide +kernel
theorem d_F_judge_26 : decode b_F_judge 26 = .ok (.iconst 0, 1) := by decide +kernel
theorem d_F_judge_27 : decode b_F_judge 27 = .ok (.putfield 15, 3) := by decide +kernel
theorem d_F_judge_30 : decode b_F_judge 30 = .ok (.aload_n 0, 1) := by decide +kernel
theorem d_F_judge_31 : decode b_F_judge 31 = .ok (.iload_n 1, 1) := by decide +kernel
theorem d_F_judge_32 : decode b_F_judge 32 = .ok (.invokestatic 50, 3) := by decide +kernel
theorem d_F_judge_35 : decode b_F_judge 35 = .ok (.iconst 1, 1) := by decide +kernel
theorem d_F_judge_36 : decode b_F_judge 36 = .ok (.iand, 1) := by decide +kernel
theorem d_F_judge_37 : decode b_F_judge 37 = .ok (.ifCond .ne 7, 3) := by decide +kernel
theorem d_F_judge_40 : decode b_F_judge 40 = .ok (.iconst 1, 1) := by decide +kernel
theorem d_F_judge_41 : decode b_F_judge 41 = .ok (.goto 4, 3) := by decide +kernel
theorem d_F_judge_44 : decode b_F_judge 44 = .ok (.iconst 0, 1) := by decide +kernel
theorem d_F_judge_45 : decode b_F_judge 45 = .ok (.putfield 21, 3) := by decide +kernel
theorem d_F_judge_48 : decode b_F_judge 48 = .ok (.return_, 1) := by decide +kernel
theorem d_M_init_0 : decode b_M_init 0 = .ok (.aload_n 0, 1) := by decide +kernel
theorem d_M_init_1 : decode b_M_init 1 = .ok (.invokespecial 3, 3) := by decide +kernel
theorem d_M_init_4 : decode b_M_init 4 = .ok (.aload_n 0, 1) := by decide +kernel
theorem d_M_init_5 : decode b_M_init 5 = .ok (.sipush 1024, 3) := by decide +kernel
theorem d_M_init_8 : decode b_M_init 8 = .ok (.newarray .int, 2) := by decide +kernel
theorem d_M_init_10 : decode b_M_init 10 = .ok (.putfield 11, 3) := by decide +kernel
theorem d_M_init_13 : decode b_M_init 13 = .ok (.return_, 1) := by decide +kernel
theorem d_M_read_0 : decode b_M_read 0 = .ok (.iload_n 1, 1) := by decide +kernel
theorem d_M_read_1 : decode b_M_read 1 = .ok (.ifCond .lt 19, 3) := by decide +kernel
theorem d_M_read_4 : decode b_M_read 4 = .ok (.iload_n 1, 1) := by decide +kernel
theorem d_M_read_5 : decode b_M_read 5 = .ok (.sipush 1024, 3) := by decide +kernel
theorem d_M_read_8 : decode b_M_read 8 = .ok (.if_icmp .ge 12, 3) := by decide +kernel
theorem d_M_read_11 : decode b_M_read 11 = .ok (.aload_n 0, 1) := by decide +kernel
theorem d_M_read_12 : decode b_M_read 12 = .ok (.getfield 11, 3) := by decide +kernel
theorem d_M_read_15 : decode b_M_read 15 = .ok (.iload_n 1, 1) := by decide +kernel
theorem d_M_read_16 : decode b_M_read 16 = .ok (.iaload, 1) := by decide +kernel
theorem d_M_read_17 : decode b_M_read 17 = .ok (.goto 6, 3) := by decide +kernel
theorem d_M_read_20 : decode b_M_read 20 = .ok (.sipush 255, 3) := by decide +kernel
theorem d_M_read_23 : decode b_M_read 23 = .ok (.ireturn, 1) := by decide +kernel
theorem d_M_write_0 : decode b_M_write 0 = .ok (.iload_n 1, 1) := by decide +kernel
theorem d_M_write_1 : decode b_M_write 1 = .ok (.ifCond .lt 17, 3) := by decide +kernel
theorem d_M_write_4 : decode b_M_write 4 = .ok (.iload_n 1, 1) := by decide +kernel
theorem d_M_write_5 : decode b_M_write 5 = .ok (.sipush 1024, 3) := by decide +kernel
theorem d_M_write_8 : decode b_M_write 8 = .ok (.if_icmp .ge 10, 3) := by decide +kernel
theorem d_M_write_11 : decode b_M_write 11 = .ok (.aload_n 0, 1) := by decide +kernel
theorem d_M_write_12 : decode b_M_write 12 = .ok (.getfield 11, 3) := by decide +kernel
theorem d_M_write_15 : decode b_M_write 15 = .ok (.iload_n 1, 1) := by decide +kernel
theorem d_M_write_16 : decode b_M_write 16 = .ok (.iload_n 2, 1) := by decide +kernel
theorem d_M_write_17 : decode b_M_write 17 = .ok (.iastore, 1) := by decide +kernel
theorem d_M_write_18 : decode b_M_write 18 = .ok (.return_, 1) := by decide +kernel

theorem d_P_init_0 : decode b_P_init 0 = .ok (.aload_n 0, 1) := by decide +kernel
theorem d_P_init_1 : decode b_P_init 1 = .ok (.invokespecial 1, 3) := by decide +kernel
theorem d_P_init_4 : decode b_P_init 4 = .ok (.aload_n 0, 1) := by decide +kernel
theorem d_P_init_5 : decode b_P_init 5 = .ok (.new 7, 3) := by decide +kernel
theorem d_P_init_8 : decode b_P_init 8 = .ok (.dup, 1) := by decide +kernel
theorem d_P_init_9 : decode b_P_init 9 = .ok (.invokespecial 9, 3) := by decide +kernel
theorem d_P_init_12 : decode b_P_init 12 = .ok (.putfield 10, 3) := by decide +kernel
theorem d_P_init_15 : decode b_P_init 15 = .ok (.aload_n 0, 1) := by decide +kernel
theorem d_P_init_16 : decode b_P_init 16 = .ok (.new 16, 3) := by decide +kernel
theorem d_P_init_19 : decode b_P_init 19 = .ok (.dup, 1) := by decide +kernel
theorem d_P_init_20 : decode b_P_init 20 = .ok (.invokespecial 18, 3) := by decide +kernel
theorem d_P_init_23 : decode b_P_init 23 = .ok (.putfield 19, 3) := by decide +kernel
theorem d_P_init_26 : decode b_P_init 26 = .ok (.aload_n 0, 1) := by decide +kernel
theorem d_P_init_27 : decode b_P_init 27 = .ok (.bipush 8, 2) := by decide +kernel
theorem d_P_init_29 : decode b_P_init 29 = .ok (.newarray .int, 2) := by decide +kernel
theorem d_P_init_31 : decode b_P_init 31 = .ok (.putfield 23, 3) := by decide +kernel
theorem d_P_init_34 : decode b_P_init 34 = .ok (.aload_n 0, 1) := by decide +kernel
theorem d_P_init_35 : decode b_P_init 35 = .ok (.sipush 256, 3) := by decide +kernel
theorem d_P_init_38 : decode b_P_init 38 = .ok (.newarray .int, 2) := by decide +kernel
theorem d_P_init_40 : decode b_P_init 40 = .ok (.putfield 27, 3) := by decide +kernel
theorem d_P_init_43 : decode b_P_init 43 = .ok (.aload_n 0, 1) := by decide +kernel
theorem d_P_init_44 : decode b_P_init 44 = .ok (.sipush 256, 3) := by decide +kernel
theorem d_P_init_47 : decode b_P_init 47 = .ok (.newarray .int, 2) := by decide +kernel
theorem d_P_init_49 : decode b_P_init 49 = .ok (.putfield 30, 3) := by decide +kernel
theorem d_P_init_52 : decode b_P_init 52 = .ok (.aload_n 0, 1) := by decide +kernel
theorem d_P_init_53 : decode b_P_init 53 = .ok (.iconst (-1), 1) := by decide +kernel
theorem d_P_init_54 : decode b_P_init 54 = .ok (.putfield 33, 3) := by decide +kernel
theorem d_P_init_57 : decode b_P_init 57 = .ok (.iconst 0, 1) := by decide +kernel
theorem d_P_init_58 : decode b_P_init 58 = .ok (.istore_n 1, 1) := by decide +kernel
theorem d_P_init_59 : decode b_P_init 59 = .ok (.iload_n 1, 1) := by decide +kernel
theorem d_P_init_60 : decode b_P_init 60 = .ok (.sipush 256, 3) := by decide +kernel
theorem d_P_init_63 : decode b_P_init 63 = .ok (.if_icmp .ge 16, 3) := by decide +kernel
theorem d_P_init_66 : decode b_P_init 66 = .ok (.aload_n 0, 1) := by decide +kernel
theorem d_P_init_67 : decode b_P_init 67 = .ok (.getfield 30, 3) := by decide +kernel
theorem d_P_init_70 : decode b_P_init 70 = .ok (.iload_n 1, 1) := by decide +kernel
theorem d_P_init_71 : decode b_P_init 71 = .ok (.iconst (-1), 1) := by decide +kernel
theorem d_P_init_72 : decode b_P_init 72 = .ok (.iastore, 1) := by decide +kernel
theorem d_P_init_73 : decode b_P_init 73 = .ok (.iinc 1 1, 3) := by decide +kernel
theorem d_P_init_76 : decode b_P_init 76 = .ok (.goto (-17), 3) := by decide +kernel
theorem d_P_init_79 : decode b_P_init 79 = .ok (.return_, 1) := by decide +kernel
theorem d_P_load_0 : decode b_P_load 0 = .ok (.iload 4, 2) := by decide +kernel
theorem d_P_load_2 : decode b_P_load 2 = .ok (.iconst 1, 1) := by decide +kernel
theorem d_P_load_3 : decode b_P_load 3 = .ok (.if_icmp .lt 10, 3) := by decide +kernel
theorem d_P_load_6 : decode b_P_load 6 = .ok (.iload 4, 2) := by decide +kernel
theorem d_P_load_8 : decode b_P_load 8 = .ok (.bipush 8, 2) := by decide +kernel
theorem d_P_load_10 : decode b_P_load 10 = .ok (.if_icmp .le 13, 3) := by decide +kernel
theorem d_P_load_13 : decode b_P_load 13 = .ok (.new 37, 3) := by decide +kernel
theorem d_P_load_16 : decode b_P_load 16 = .ok (.dup, 1) := by decide +kernel
theorem d_P_load_17 : decode b_P_load 17 = .ok (.ldc 39, 2) := by decide +kernel
theorem d_P_load_19 : decode b_P_load 19 = .ok (.invokespecial 41, 3) := by decide +kernel
theorem d_P_load_22 : decode b_P_load 22 = .ok (.athrow, 1) := by decide +kernel
theorem d_P_load_23 : decode b_P_load 23 = .ok (.iload_n 1, 1) := by decide +kernel
theorem d_P_load_24 : decode b_P_load 24 = .ok (.ifCond .lt 13, 3) := by decide +kernel
theorem d_P_load_27 : decode b_P_load 27 = .ok (.iload_n 1, 1) := by decide +kernel
theorem d_P_load_28 : decode b_P_load 28 = .ok (.sipush 1024, 3) := by decide +kernel
theorem d_P_load_31 : decode b_P_load 31 = .ok (.iload 4, 2) := by decide +kernel
theorem d_P_load_33 : decode b_P_load 33 = .ok (.isub, 1) := by decide +kernel
theorem d_P_load_34 : decode b_P_load 34 = .ok (.if_icmp .le 13, 3) := by decide +kernel
theorem d_P_load_37 : decode b_P_load 37 = .ok (.new 37, 3) := by decide +kernel
theorem d_P_load_40 : decode b_P_load 40 = .ok (.dup, 1) := by decide +kernel
theorem d_P_load_41 : decode b_P_load 41 = .ok (.ldc 44, 2) := by decide +kernel
theorem d_P_load_43 : decode b_P_load 43 = .ok (.invokespecial 41, 3) := by decide +kernel
theorem d_P_load_46 : decode b_P_load 46 = .ok (.athrow, 1) := by decide +kernel
theorem d_P_load_47 : decode b_P_load 47 = .ok (.iconst 0, 1) := by decide +kernel
theorem d_P_load_48 : decode b_P_load 48 = .ok (.istore 5, 2) := by decide +kernel
theorem d_P_load_50 : decode b_P_load 50 = .ok (.iload 5, 2) := by decide +kernel
theorem d_P_load_52 : decode b_P_load 52 = .ok (.iload 4, 2) := by decide +kernel
theorem d_P_load_54 : decode b_P_load 54 = .ok (.if_icmp .ge 37, 3) := by decide +kernel
theorem d_P_load_57 : decode b_P_load 57 = .ok (.aload_n 0, 1) := by decide +kernel
theorem d_P_load_58 : decode b_P_load 58 = .ok (.getfield 10, 3) := by decide +kernel
theorem d_P_load_61 : decode b_P_load 61 = .ok (.iload_n 1, 1) := by decide +kernel
theorem d_P_load_62 : decode b_P_load 62 = .ok (.iload 5, 2) := by decide +kernel
theorem d_P_load_64 : decode b_P_load 64 = .ok (.iadd, 1) := by decide +kernel
theorem d_P_load_65 : decode b_P_load 65 = .ok (.lload_n 2, 1) := by decide +kernel
theorem d_P_load_66 : decode b_P_load 66 = .ok (.bipush 8, 2) := by decide +kernel
theorem d_P_load_68 : decode b_P_load 68 = .ok (.iload 4, 2) := by decide +kernel
theorem d_P_load_70 : decode b_P_load 70 = .ok (.iconst 1, 1) := by decide +kernel
theorem d_P_load_71 : decode b_P_load 71 = .ok (.isub, 1) := by decide +kernel
theorem d_P_load_72 : decode b_P_load 72 = .ok (.iload 5, 2) := by decide +kernel
theorem d_P_load_74 : decode b_P_load 74 = .ok (.isub, 1) := by decide +kernel
theorem d_P_load_75 : decode b_P_load 75 = .ok (.imul, 1) := by decide +kernel
theorem d_P_load_76 : decode b_P_load 76 = .ok (.lushr, 1) := by decide +kernel
theorem d_P_load_77 : decode b_P_load 77 = .ok (.l2i, 1) := by decide +kernel
theorem d_P_load_78 : decode b_P_load 78 = .ok (.sipush 255, 3) := by decide +kernel
theorem d_P_load_81 : decode b_P_load 81 = .ok (.iand, 1) := by decide +kernel
theorem d_P_load_82 : decode b_P_load 82 = .ok (.invokevirtual 46, 3) := by decide +kernel
theorem d_P_load_85 : decode b_P_load 85 = .ok (.iinc 5 1, 3) := by decide +kernel
theorem d_P_load_88 : decode b_P_load 88 = .ok (.goto (-38), 3) := by decide +kernel
theorem d_P_load_91 : decode b_P_load 91 = .ok (.return_, 1) := by decide +kernel
theorem d_P_peek_0 : decode b_P_peek 0 = .ok (.iload_n 1, 1) := by decide +kernel
theorem d_P_peek_1 : decode b_P_peek 1 = .ok (.ifCond .lt 10, 3) := by decide +kernel
theorem d_P_peek_4 : decode b_P_peek 4 = .ok (.iload_n 1, 1) := by decide +kernel
theorem d_P_peek_5 : decode b_P_peek 5 = .ok (.sipush 1024, 3) := by decide +kernel
theorem d_P_peek_8 : decode b_P_peek 8 = .ok (.if_icmp .lt 13, 3) := by decide +kernel
theorem d_P_peek_11 : decode b_P_peek 11 = .ok (.new 37, 3) := by decide +kernel
theorem d_P_peek_14 : decode b_P_peek 14 = .ok (.dup, 1) := by decide +kernel
theorem d_P_peek_15 : decode b_P_peek 15 = .ok (.ldc 50, 2) := by decide +kernel
theorem d_P_peek_17 : decode b_P_peek 17 = .ok (.invokespecial 41, 3) := by decide +kernel
theorem d_P_peek_20 : decode b_P_peek 20 = .ok (.athrow, 1) := by decide +kernel
theorem d_P_peek_21 : decode b_P_peek 21 = .ok (.aload_n 0, 1) := by decide +kernel
theorem d_P_peek_22 : decode b_P_peek 22 = .ok (.getfield 10, 3) := by decide +kernel
theorem d_P_peek_25 : decode b_P_peek 25 = .ok (.iload_n 1, 1) := by decide +kernel
theorem d_P_peek_26 : decode b_P_peek 26 = .ok (.invokevirtual 52, 3) := by decide +kernel
theorem d_P_peek_29 : decode b_P_peek 29 = .ok (.ireturn, 1) := by decide +kernel
theorem d_P_start_0 : decode b_P_start 0 = .ok (.iload_n 1, 1) := by decide +kernel
theorem d_P_start_1 : decode b_P_start 1 = .ok (.ifCond .lt 9, 3) := by decide +kernel
theorem d_P_start_4 : decode b_P_start 4 = .ok (.iload_n 1, 1) := by decide +kernel
theorem d_P_start_5 : decode b_P_start 5 = .ok (.ldc 56, 2) := by decide +kernel
theorem d_P_start_7 : decode b_P_start 7 = .ok (.if_icmp .le 13, 3) := by decide +kernel
theorem d_P_start_10 : decode b_P_start 10 = .ok (.new 37, 3) := by decide +kernel
theorem d_P_start_13 : decode b_P_start 13 = .ok (.dup, 1) := by decide +kernel
theorem d_P_start_14 : decode b_P_start 14 = .ok (.ldc 57, 2) := by decide +kernel
theorem d_P_start_16 : decode b_P_start 16 = .ok (.invokespecial 41, 3) := by decide +kernel
theorem d_P_start_19 : decode b_P_start 19 = .ok (.athrow, 1) := by decide +kernel
theorem d_P_start_20 : decode b_P_start 20 = .ok (.aload_n 0, 1) := by decide +kernel
theorem d_P_start_21 : decode b_P_start 21 = .ok (.iload_n 1, 1) := by decide +kernel
theorem d_P_start_22 : decode b_P_start 22 = .ok (.putfield 59, 3) := by decide +kernel
theorem d_P_start_25 : decode b_P_start 25 = .ok (.aload_n 0, 1) := by decide +kernel
theorem d_P_start_26 : decode b_P_start 26 = .ok (.iconst 0, 1) := by decide +kernel
theorem d_P_start_27 : decode b_P_start 27 = .ok (.putfield 62, 3) := by decide +kernel
theorem d_P_start_30 : decode b_P_start 30 = .ok (.return_, 1) := by decide +kernel
theorem d_P_run_0 : decode b_P_run 0 = .ok (.iload_n 1, 1) := by decide +kernel
theorem d_P_run_1 : decode b_P_run 1 = .ok (.iconst 1, 1) := by decide +kernel
theorem d_P_run_2 : decode b_P_run 2 = .ok (.if_icmp .lt 10, 3) := by decide +kernel
theorem d_P_run_5 : decode b_P_run 5 = .ok (.iload_n 1, 1) := by decide +kernel
theorem d_P_run_6 : decode b_P_run 6 = .ok (.sipush 500, 3) := by decide +kernel
theorem d_P_run_9 : decode b_P_run 9 = .ok (.if_icmp .le 13, 3) := by decide +kernel
theorem d_P_run_12 : decode b_P_run 12 = .ok (.new 37, 3) := by decide +kernel
theorem d_P_run_15 : decode b_P_run 15 = .ok (.dup, 1) := by decide +kernel
theorem d_P_run_16 : decode b_P_run 16 = .ok (.ldc 66, 2) := by decide +kernel
theorem d_P_run_18 : decode b_P_run 18 = .ok (.invokespecial 41, 3) := by decide +kernel
theorem d_P_run_21 : decode b_P_run 21 = .ok (.athrow, 1) := by decide +kernel
theorem d_P_run_22 : decode b_P_run 22 = .ok (.iconst 0, 1) := by decide +kernel
theorem d_P_run_23 : decode b_P_run 23 = .ok (.istore_n 2, 1) := by decide +kernel
theorem d_P_run_24 : decode b_P_run 24 = .ok (.iconst 0, 1) := by decide +kernel
theorem d_P_run_25 : decode b_P_run 25 = .ok (.istore_n 3, 1) := by decide +kernel
theorem d_P_run_26 : decode b_P_run 26 = .ok (.iload_n 3, 1) := by decide +kernel
theorem d_P_run_27 : decode b_P_run 27 = .ok (.iload_n 1, 1) := by decide +kernel
theorem d_P_run_28 : decode b_P_run 28 = .ok (.if_icmp .ge 19, 3) := by decide +kernel
theorem d_P_run_31 : decode b_P_run 31 = .ok (.aload_n 0, 1) := by decide +kernel
theorem d_P_run_32 : decode b_P_run 32 = .ok (.invokevirtual 68, 3) := by decide +kernel
theorem d_P_run_35 : decode b_P_run 35 = .ok (.ifCond .eq 6, 3) := by decide +kernel
theorem d_P_run_38 : decode b_P_run 38 = .ok (.iinc 2 1, 3) := by decide +kernel
theorem d_P_run_41 : decode b_P_run 41 = .ok (.iinc 3 1, 3) := by decide +kernel
theorem d_P_run_44 : decode b_P_run 44 = .ok (.goto (-18), 3) := by decide +kernel
theorem d_P_run_47 : decode b_P_run 47 = .ok (.iload_n 2, 1) := by decide +kernel
theorem d_P_run_48 : decode b_P_run 48 = .ok (.ireturn, 1) := by decide +kernel
theorem d_P_interrupt_0 : decode b_P_interrupt 0 = .ok (.iload_n 1, 1) := by decide +kernel
theorem d_P_interrupt_1 : decode b_P_interrupt 1 = .ok (.ifCond .lt 9, 3) := by decide +kernel
theorem d_P_interrupt_4 : decode b_P_interrupt 4 = .ok (.iload_n 1, 1) := by decide +kernel
theorem d_P_interrupt_5 : decode b_P_interrupt 5 = .ok (.bipush 7, 2) := by decide +kernel
theorem d_P_interrupt_7 : decode b_P_interrupt 7 = .ok (.if_icmp .le 13, 3) := by decide +kernel
theorem d_P_interrupt_10 : decode b_P_interrupt 10 = .ok (.new 37, 3) := by decide +kernel
theorem d_P_interrupt_13 : decode b_P_interrupt 13 = .ok (.dup, 1) := by decide +kernel
theorem d_P_interrupt_14 : decode b_P_interrupt 14 = .ok (.ldc 72, 2) := by decide +kernel
theorem d_P_interrupt_16 : decode b_P_interrupt 16 = .ok (.invokespecial 41, 3) := by decide +kernel
theorem d_P_interrupt_19 : decode b_P_interrupt 19 = .ok (.athrow, 1) := by decide +kernel
theorem d_P_interrupt_20 : decode b_P_interrupt 20 = .ok (.aload_n 0, 1) := by decide +kernel
theorem d_P_interrupt_21 : decode b_P_interrupt 21 = .ok (.iload_n 1, 1) := by decide +kernel
theorem d_P_interrupt_22 : decode b_P_interrupt 22 = .ok (.putfield 33, 3) := by decide +kernel
theorem d_P_interrupt_25 : decode b_P_interrupt 25 = .ok (.return_, 1) := by decide +kernel
theorem d_P_bring_0 : decode b_P_bring 0 = .ok (.iload_n 1, 1) := by decide +kernel
theorem d_P_bring_1 : decode b_P_bring 1 = .ok (.invokestatic 74, 3) := by decide +kernel
theorem d_P_bring_4 : decode b_P_bring 4 = .ok (.ifCond .ne 13, 3) := by decide +kernel
theorem d_P_bring_7 : decode b_P_bring 7 = .ok (.new 37, 3) := by decide +kernel
theorem d_P_bring_10 : decode b_P_bring 10 = .ok (.dup, 1) := by decide +kernel
theorem d_P_bring_11 : decode b_P_bring 11 = .ok (.ldc 78, 2) := by decide +kernel
theorem d_P_bring_13 : decode b_P_bring 13 = .ok (.invokespecial 41, 3) := by decide +kernel
theorem d_P_bring_16 : decode b_P_bring 16 = .ok (.athrow, 1) := by decide +kernel
theorem d_P_bring_17 : decode b_P_bring 17 = .ok (.iload_n 2, 1) := by decide +kernel
theorem d_P_bring_18 : decode b_P_bring 18 = .ok (.invokestatic 74, 3) := by decide +kernel
theorem d_P_bring_21 : decode b_P_bring 21 = .ok (.ifCond .ne 13, 3) := by decide +kernel
theorem d_P_bring_24 : decode b_P_bring 24 = .ok (.new 37, 3) := by decide +kernel
theorem d_P_bring_27 : decode b_P_bring 27 = .ok (.dup, 1) := by decide +kernel
theorem d_P_bring_28 : decode b_P_bring 28 = .ok (.ldc 80, 2) := by decide +kernel
theorem d_P_bring_30 : decode b_P_bring 30 = .ok (.invokespecial 41, 3) := by decide +kernel
theorem d_P_bring_33 : decode b_P_bring 33 = .ok (.athrow, 1) := by decide +kernel
theorem d_P_bring_34 : decode b_P_bring 34 = .ok (.aload_n 0, 1) := by decide +kernel
theorem d_P_bring_35 : decode b_P_bring 35 = .ok (.getfield 27, 3) := by decide +kernel
theorem d_P_bring_38 : decode b_P_bring 38 = .ok (.iload_n 1, 1) := by decide +kernel
theorem d_P_bring_39 : decode b_P_bring 39 = .ok (.iload_n 2, 1) := by decide +kernel
theorem d_P_bring_40 : decode b_P_bring 40 = .ok (.iastore, 1) := by decide +kernel
theorem d_P_bring_41 : decode b_P_bring 41 = .ok (.return_, 1) := by decide +kernel
theorem d_P_out_0 : decode b_P_out 0 = .ok (.iload_n 1, 1) := by decide +kernel
theorem d_P_out_1 : decode b_P_out 1 = .ok (.invokestatic 74, 3) := by decide +kernel
theorem d_P_out_4 : decode b_P_out 4 = .ok (.ifCond .ne 13, 3) := by decide +kernel
theorem d_P_out_7 : decode b_P_out 7 = .ok (.new 37, 3) := by decide +kernel
theorem d_P_out_10 : decode b_P_out 10 = .ok (.dup, 1) := by decide +kernel
theorem d_P_out_11 : decode b_P_out 11 = .ok (.ldc 78, 2) := by decide +kernel
theorem d_P_out_13 : decode b_P_out 13 = .ok (.invokespecial 41, 3) := by decide +kernel
theorem d_P_out_16 : decode b_P_out 16 = .ok (.athrow, 1) := by decide +kernel
theorem d_P_out_17 : decode b_P_out 17 = .ok (.aload_n 0, 1) := by decide +kernel
theorem d_P_out_18 : decode b_P_out 18 = .ok (.getfield 30, 3) := by decide +kernel
theorem d_P_out_21 : decode b_P_out 21 = .ok (.iload_n 1, 1) := by decide +kernel
theorem d_P_out_22 : decode b_P_out 22 = .ok (.iaload, 1) := by decide +kernel
theorem d_P_out_23 : decode b_P_out 23 = .ok (.ireturn, 1) := by decide +kernel
theorem d_P_register_0 : decode b_P_register 0 = .ok (.iload_n 1, 1) := by decide +kernel
theorem d_P_register_1 : decode b_P_register 1 = .ok (.ifCond .lt 9, 3) := by decide +kernel
theorem d_P_register_4 : decode b_P_register 4 = .ok (.iload_n 1, 1) := by decide +kernel
theorem d_P_register_5 : decode b_P_register 5 = .ok (.bipush 10, 2) := by decide +kernel
theorem d_P_register_7 : decode b_P_register 7 = .ok (.if_icmp .le 13, 3) := by decide +kernel
theorem d_P_register_10 : decode b_P_register 10 = .ok (.new 37, 3) := by decide +kernel
theorem d_P_register_13 : decode b_P_register 13 = .ok (.dup, 1) := by decide +kernel
theorem d_P_register_14 : decode b_P_register 14 = .ok (.ldc 82, 2) := by decide +kernel
theorem d_P_register_16 : decode b_P_register 16 = .ok (.invokespecial 41, 3) := by decide +kernel
theorem d_P_register_19 : decode b_P_register 19 = .ok (.athrow, 1) := by decide +kernel
theorem d_P_register_20 : decode b_P_register 20 = .ok (.iload_n 1, 1) := by decide +kernel
theorem d_P_register_21 : decode b_P_register 21 = .ok (.tableswitch 45 8 10 #[27, 35, 40], 27) := by decide +kernel
theorem d_P_register_48 : decode b_P_register 48 = .ok (.aload_n 0, 1) := by decide +kernel
theorem d_P_register_49 : decode b_P_register 49 = .ok (.getfield 19, 3) := by decide +kernel
theorem d_P_register_52 : decode b_P_register 52 = .ok (.invokevirtual 84, 3) := by decide +kernel
theorem d_P_register_55 : decode b_P_register 55 = .ok (.ireturn, 1) := by decide +kernel
theorem d_P_register_56 : decode b_P_register 56 = .ok (.aload_n 0, 1) := by decide +kernel
theorem d_P_register_57 : decode b_P_register 57 = .ok (.getfield 88, 3) := by decide +kernel
theorem d_P_register_60 : decode b_P_register 60 = .ok (.ireturn, 1) := by decide +kernel
theorem d_P_register_61 : decode b_P_register 61 = .ok (.aload_n 0, 1) := by decide +kernel
theorem d_P_register_62 : decode b_P_register 62 = .ok (.getfield 59, 3) := by decide +kernel
theorem d_P_register_65 : decode b_P_register 65 = .ok (.ireturn, 1) := by decide +kernel
theorem d_P_register_66 : decode b_P_register 66 = .ok (.aload_n 0, 1) := by decide +kernel
theorem d_P_register_67 : decode b_P_register 67 = .ok (.iload_n 1, 1) := by decide +kernel
theorem d_P_register_68 : decode b_P_register 68 = .ok (.invokevirtual 91, 3) := by decide +kernel
theorem d_P_register_71 : decode b_P_register 71 = .ok (.ireturn, 1) := by decide +kernel
theorem d_P_set_0 : decode b_P_set 0 = .ok (.iload_n 1, 1) := by decide +kernel
theorem d_P_set_1 : decode b_P_set 1 = .ok (.ifCond .lt 15, 3) := by decide +kernel
theorem d_P_set_4 : decode b_P_set 4 = .ok (.iload_n 1, 1) := by decide +kernel
theorem d_P_set_5 : decode b_P_set 5 = .ok (.bipush 9, 2) := by decide +kernel
theorem d_P_set_7 : decode b_P_set 7 = .ok (.if_icmp .gt 9, 3) := by decide +kernel
theorem d_P_set_10 : decode b_P_set 10 = .ok (.iload_n 1, 1) := by decide +kernel
theorem d_P_set_11 : decode b_P_set 11 = .ok (.bipush 6, 2) := by decide +kernel
theorem d_P_set_13 : decode b_P_set 13 = .ok (.if_icmp .ne 13, 3) := by decide +kernel
theorem d_P_set_16 : decode b_P_set 16 = .ok (.new 37, 3) := by decide +kernel
theorem d_P_set_19 : decode b_P_set 19 = .ok (.dup, 1) := by decide +kernel
theorem d_P_set_20 : decode b_P_set 20 = .ok (.ldc 94, 2) := by decide +kernel
theorem d_P_set_22 : decode b_P_set 22 = .ok (.invokespecial 41, 3) := by decide +kernel
theorem d_P_set_25 : decode b_P_set 25 = .ok (.athrow, 1) := by decide +kernel
theorem d_P_set_26 : decode b_P_set 26 = .ok (.iload_n 1, 1) := by decide +kernel
theorem d_P_set_27 : decode b_P_set 27 = .ok (.bipush 9, 2) := by decide +kernel
theorem d_P_set_29 : decode b_P_set 29 = .ok (.if_icmp .ne 8, 3) := by decide +kernel
theorem d_P_set_32 : decode b_P_set 32 = .ok (.ldc 56, 2) := by decide +kernel
theorem d_P_set_34 : decode b_P_set 34 = .ok (.goto 6, 3) := by decide +kernel
theorem d_P_set_37 : decode b_P_set 37 = .ok (.sipush 255, 3) := by decide +kernel
theorem d_P_set_40 : decode b_P_set 40 = .ok (.istore_n 3, 1) := by decide +kernel
theorem d_P_set_41 : decode b_P_set 41 = .ok (.iload_n 2, 1) := by decide +kernel
theorem d_P_set_42 : decode b_P_set 42 = .ok (.ifCond .lt 8, 3) := by decide +kernel
theorem d_P_set_45 : decode b_P_set 45 = .ok (.iload_n 2, 1) := by decide +kernel
theorem d_P_set_46 : decode b_P_set 46 = .ok (.iload_n 3, 1) := by decide +kernel
theorem d_P_set_47 : decode b_P_set 47 = .ok (.if_icmp .le 13, 3) := by decide +kernel
theorem d_P_set_50 : decode b_P_set 50 = .ok (.new 37, 3) := by decide +kernel
theorem d_P_set_53 : decode b_P_set 53 = .ok (.dup, 1) := by decide +kernel
theorem d_P_set_54 : decode b_P_set 54 = .ok (.ldc 96, 2) := by decide +kernel
theorem d_P_set_56 : decode b_P_set 56 = .ok (.invokespecial 41, 3) := by decide +kernel
theorem d_P_set_59 : decode b_P_set 59 = .ok (.athrow, 1) := by decide +kernel
theorem d_P_set_60 : decode b_P_set 60 = .ok (.iload_n 1, 1) := by decide +kernel
theorem d_P_set_61 : decode b_P_set 61 = .ok (.bipush 9, 2) := by decide +kernel
theorem d_P_set_63 : decode b_P_set 63 = .ok (.if_icmp .ne 11, 3) := by decide +kernel
theorem d_P_set_66 : decode b_P_set 66 = .ok (.aload_n 0, 1) := by decide +kernel
theorem d_P_set_67 : decode b_P_set 67 = .ok (.iload_n 2, 1) := by decide +kernel
theorem d_P_set_68 : decode b_P_set 68 = .ok (.putfield 88, 3) := by decide +kernel
theorem d_P_set_71 : decode b_P_set 71 = .ok (.goto 27, 3) := by decide +kernel
theorem d_P_set_74 : decode b_P_set 74 = .ok (.iload_n 1, 1) := by decide +kernel
theorem d_P_set_75 : decode b_P_set 75 = .ok (.bipush 8, 2) := by decide +kernel
theorem d_P_set_77 : decode b_P_set 77 = .ok (.if_icmp .ne 14, 3) := by decide +kernel
theorem d_P_set_80 : decode b_P_set 80 = .ok (.aload_n 0, 1) := by decide +kernel
theorem d_P_set_81 : decode b_P_set 81 = .ok (.getfield 19, 3) := by decide +kernel
theorem d_P_set_84 : decode b_P_set 84 = .ok (.iload_n 2, 1) := by decide +kernel
theorem d_P_set_85 : decode b_P_set 85 = .ok (.invokevirtual 98, 3) := by decide +kernel
theorem d_P_set_88 : decode b_P_set 88 = .ok (.goto 10, 3) := by decide +kernel
theorem d_P_set_91 : decode b_P_set 91 = .ok (.aload_n 0, 1) := by decide +kernel
theorem d_P_set_92 : decode b_P_set 92 = .ok (.getfield 23, 3) := by decide +kernel
theorem d_P_set_95 : decode b_P_set 95 = .ok (.iload_n 1, 1) := by decide +kernel
theorem d_P_set_96 : decode b_P_set 96 = .ok (.iload_n 2, 1) := by decide +kernel
theorem d_P_set_97 : decode b_P_set 97 = .ok (.iastore, 1) := by decide +kernel
theorem d_P_set_98 : decode b_P_set 98 = .ok (.return_, 1) := by decide +kernel
theorem d_P_is_0 : decode b_P_is 0 = .ok (.iload_n 1, 1) := by decide +kernel
theorem d_P_is_1 : decode b_P_is 1 = .ok (.tableswitch 51 0 2 #[27, 32, 37], 27) := by decide +kernel
theorem d_P_is_28 : decode b_P_is 28 = .ok (.aload_n 0, 1) := by decide +kernel
theorem d_P_is_29 : decode b_P_is 29 = .ok (.getfield 62, 3) := by decide +kernel
theorem d_P_is_32 : decode b_P_is 32 = .ok (.ireturn, 1) := by decide +kernel
theorem d_P_is_33 : decode b_P_is 33 = .ok (.aload_n 0, 1) := by decide +kernel
theorem d_P_is_34 : decode b_P_is 34 = .ok (.getfield 102, 3) := by decide +kernel
theorem d_P_is_37 : decode b_P_is 37 = .ok (.ireturn, 1) := by decide +kernel
theorem d_P_is_38 : decode b_P_is 38 = .ok (.aload_n 0, 1) := by decide +kernel
theorem d_P_is_39 : decode b_P_is 39 = .ok (.getfield 33, 3) := by decide +kernel
theorem d_P_is_42 : decode b_P_is 42 = .ok (.iconst (-1), 1) := by decide +kernel
theorem d_P_is_43 : decode b_P_is 43 = .ok (.if_icmp .eq 7, 3) := by decide +kernel
theorem d_P_is_46 : decode b_P_is 46 = .ok (.iconst 1, 1) := by decide +kernel
theorem d_P_is_47 : decode b_P_is 47 = .ok (.goto 4, 3) := by decide +kernel
theorem d_P_is_50 : decode b_P_is 50 = .ok (.iconst 0, 1) := by decide +kernel
theorem d_P_is_51 : decode b_P_is 51 = .ok (.ireturn, 1) := by decide +kernel
theorem d_P_is_52 : decode b_P_is 52 = .ok (.new 37, 3) := by decide +kernel
theorem d_P_is_55 : decode b_P_is 55 = .ok (.dup, 1) := by decide +kernel
theorem d_P_is_56 : decode b_P_is 56 = .ok (.ldc 105, 2) := by decide +kernel
theorem d_P_is_58 : decode b_P_is 58 = .ok (.invokespecial 41, 3) := by decide +kernel
theorem d_P_is_61 : decode b_P_is 61 = .ok (.athrow, 1) := by decide +kernel
theorem d_P_states_0 : decode b_P_states 0 = .ok (.aload_n 0, 1) := by decide +kernel
theorem d_P_states_1 : decode b_P_states 1 = .ok (.getfield 107, 3) := by decide +kernel
theorem d_P_states_4 : decode b_P_states 4 = .ok (.lreturn, 1) := by decide +kernel
theorem d_P_isByte_0 : decode b_P_isByte 0 = .ok (.iload_n 0, 1) := by decide +kernel
theorem d_P_isByte_1 : decode b_P_isByte 1 = .ok (.ifCond .lt 14, 3) := by decide +kernel
theorem d_P_isByte_4 : decode b_P_isByte 4 = .ok (.iload_n 0, 1) := by decide +kernel
theorem d_P_isByte_5 : decode b_P_isByte 5 = .ok (.sipush 255, 3) := by decide +kernel
theorem d_P_isByte_8 : decode b_P_isByte 8 = .ok (.if_icmp .gt 7, 3) := by decide +kernel
theorem d_P_isByte_11 : decode b_P_isByte 11 = .ok (.iconst 1, 1) := by decide +kernel
theorem d_P_isByte_12 : decode b_P_isByte 12 = .ok (.goto 4, 3) := by decide +kernel
theorem d_P_isByte_15 : decode b_P_isByte 15 = .ok (.iconst 0, 1) := by decide +kernel
theorem d_P_isByte_16 : decode b_P_isByte 16 = .ok (.ireturn, 1) := by decide +kernel
theorem d_P_step_0 : decode b_P_step 0 = .ok (.aload_n 0, 1) := by decide +kernel
theorem d_P_step_1 : decode b_P_step 1 = .ok (.getfield 33, 3) := by decide +kernel
theorem d_P_step_4 : decode b_P_step 4 = .ok (.iconst (-1), 1) := by decide +kernel
theorem d_P_step_5 : decode b_P_step 5 = .ok (.if_icmp .eq 35, 3) := by decide +kernel
theorem d_P_step_8 : decode b_P_step 8 = .ok (.aload_n 0, 1) := by decide +kernel
theorem d_P_step_9 : decode b_P_step 9 = .ok (.getfield 102, 3) := by decide +kernel
theorem d_P_step_12 : decode b_P_step 12 = .ok (.ifCond .eq 28, 3) := by decide +kernel
theorem d_P_step_15 : decode b_P_step 15 = .ok (.aload_n 0, 1) := by decide +kernel
theorem d_P_step_16 : decode b_P_step 16 = .ok (.getfield 111, 3) := by decide +kernel
theorem d_P_step_19 : decode b_P_step 19 = .ok (.ifCond .ne 21, 3) := by decide +kernel
theorem d_P_step_22 : decode b_P_step 22 = .ok (.aload_n 0, 1) := by decide +kernel
theorem d_P_step_23 : decode b_P_step 23 = .ok (.invokevirtual 114, 3) := by decide +kernel
theorem d_P_step_26 : decode b_P_step 26 = .ok (.aload_n 0, 1) := by decide +kernel
theorem d_P_step_27 : decode b_P_step 27 = .ok (.dup, 1) := by decide +kernel
theorem d_P_step_28 : decode b_P_step 28 = .ok (.getfield 107, 3) := by decide +kernel
theorem d_P_step_31 : decode b_P_step 31 = .ok (.ldc2_w 117, 3) := by decide +kernel
theorem d_P_step_34 : decode b_P_step 34 = .ok (.ladd, 1) := by decide +kernel
theorem d_P_step_35 : decode b_P_step 35 = .ok (.putfield 107, 3) := by decide +kernel
theorem d_P_step_38 : decode b_P_step 38 = .ok (.iconst 1, 1) := by decide +kernel
theorem d_P_step_39 : decode b_P_step 39 = .ok (.ireturn, 1) := by decide +kernel
theorem d_P_step_40 : decode b_P_step 40 = .ok (.aload_n 0, 1) := by decide +kernel
theorem d_P_step_41 : decode b_P_step 41 = .ok (.getfield 62, 3) := by decide +kernel
theorem d_P_step_44 : decode b_P_step 44 = .ok (.ifCond .eq 17, 3) := by decide +kernel
theorem d_P_step_47 : decode b_P_step 47 = .ok (.aload_n 0, 1) := by decide +kernel
theorem d_P_step_48 : decode b_P_step 48 = .ok (.dup, 1) := by decide +kernel
theorem d_P_step_49 : decode b_P_step 49 = .ok (.getfield 107, 3) := by decide +kernel
theorem d_P_step_52 : decode b_P_step 52 = .ok (.ldc2_w 119, 3) := by decide +kernel
theorem d_P_step_55 : decode b_P_step 55 = .ok (.ladd, 1) := by decide +kernel
theorem d_P_step_56 : decode b_P_step 56 = .ok (.putfield 107, 3) := by decide +kernel
theorem d_P_step_59 : decode b_P_step 59 = .ok (.iconst 0, 1) := by decide +kernel
theorem d_P_step_60 : decode b_P_step 60 = .ok (.ireturn, 1) := by decide +kernel
theorem d_P_step_61 : decode b_P_step 61 = .ok (.aload_n 0, 1) := by decide +kernel
theorem d_P_step_62 : decode b_P_step 62 = .ok (.invokevirtual 121, 3) := by decide +kernel
theorem d_P_step_65 : decode b_P_step 65 = .ok (.istore_n 1, 1) := by decide +kernel
theorem d_P_step_66 : decode b_P_step 66 = .ok (.aload_n 0, 1) := by decide +kernel
theorem d_P_step_67 : decode b_P_step 67 = .ok (.iload_n 1, 1) := by decide +kernel
theorem d_P_step_68 : decode b_P_step 68 = .ok (.sipush 251, 3) := by decide +kernel
theorem d_P_step_71 : decode b_P_step 71 = .ok (.if_icmp .ne 7, 3) := by decide +kernel
theorem d_P_step_74 : decode b_P_step 74 = .ok (.iconst 1, 1) := by decide +kernel
theorem d_P_step_75 : decode b_P_step 75 = .ok (.goto 4, 3) := by decide +kernel
theorem d_P_step_78 : decode b_P_step 78 = .ok (.iconst 0, 1) := by decide +kernel
theorem d_P_step_79 : decode b_P_step 79 = .ok (.putfield 111, 3) := by decide +kernel
theorem d_P_step_82 : decode b_P_step 82 = .ok (.iload_n 1, 1) := by decide +kernel
theorem d_P_step_83 : decode b_P_step 83 = .ok (.bipush 6, 2) := by decide +kernel
theorem d_P_step_85 : decode b_P_step 85 = .ok (.ishr, 1) := by decide +kernel
theorem d_P_step_86 : decode b_P_step 86 = .ok (.tableswitch 80 0 2 #[26, 44, 62], 26) := by decide +kernel
theorem d_P_step_112 : decode b_P_step 112 = .ok (.aload_n 0, 1) := by decide +kernel
theorem d_P_step_113 : decode b_P_step 113 = .ok (.dup, 1) := by decide +kernel
theorem d_P_step_114 : decode b_P_step 114 = .ok (.getfield 107, 3) := by decide +kernel
theorem d_P_step_117 : decode b_P_step 117 = .ok (.aload_n 0, 1) := by decide +kernel
theorem d_P_step_118 : decode b_P_step 118 = .ok (.iload_n 1, 1) := by decide +kernel
theorem d_P_step_119 : decode b_P_step 119 = .ok (.invokevirtual 124, 3) := by decide +kernel
theorem d_P_step_122 : decode b_P_step 122 = .ok (.i2l, 1) := by decide +kernel
theorem d_P_step_123 : decode b_P_step 123 = .ok (.ladd, 1) := by decide +kernel
theorem d_P_step_124 : decode b_P_step 124 = .ok (.putfield 107, 3) := by decide +kernel
theorem d_P_step_127 : decode b_P_step 127 = .ok (.goto 54, 3) := by decide +kernel
theorem d_P_step_130 : decode b_P_step 130 = .ok (.aload_n 0, 1) := by decide +kernel
theorem d_P_step_131 : decode b_P_step 131 = .ok (.dup, 1) := by decide +kernel
theorem d_P_step_132 : decode b_P_step 132 = .ok (.getfield 107, 3) := by decide +kernel
theorem d_P_step_135 : decode b_P_step 135 = .ok (.aload_n 0, 1) := by decide +kernel
theorem d_P_step_136 : decode b_P_step 136 = .ok (.iload_n 1, 1) := by decide +kernel
theorem d_P_step_137 : decode b_P_step 137 = .ok (.invokevirtual 127, 3) := by decide +kernel
theorem d_P_step_140 : decode b_P_step 140 = .ok (.i2l, 1) := by decide +kernel
theorem d_P_step_141 : decode b_P_step 141 = .ok (.ladd, 1) := by decide +kernel
theorem d_P_step_142 : decode b_P_step 142 = .ok (.putfield 107, 3) := by decide +kernel
theorem d_P_step_145 : decode b_P_step 145 = .ok (.goto 36, 3) := by decide +kernel
theorem d_P_step_148 : decode b_P_step 148 = .ok (.aload_n 0, 1) := by decide +kernel
theorem d_P_step_149 : decode b_P_step 149 = .ok (.dup, 1) := by decide +kernel
theorem d_P_step_150 : decode b_P_step 150 = .ok (.getfield 107, 3) := by decide +kernel
theorem d_P_step_153 : decode b_P_step 153 = .ok (.aload_n 0, 1) := by decide +kernel
theorem d_P_step_154 : decode b_P_step 154 = .ok (.iload_n 1, 1) := by decide +kernel
theorem d_P_step_155 : decode b_P_step 155 = .ok (.invokevirtual 130, 3) := by decide +kernel
theorem d_P_step_158 : decode b_P_step 158 = .ok (.i2l, 1) := by decide +kernel
theorem d_P_step_159 : decode b_P_step 159 = .ok (.ladd, 1) := by decide +kernel
theorem d_P_step_160 : decode b_P_step 160 = .ok (.putfield 107, 3) := by decide +kernel
theorem d_P_step_163 : decode b_P_step 163 = .ok (.goto 18, 3) := by decide +kernel
theorem d_P_step_166 : decode b_P_step 166 = .ok (.aload_n 0, 1) := by decide +kernel
theorem d_P_step_167 : decode b_P_step 167 = .ok (.dup, 1) := by decide +kernel
theorem d_P_step_168 : decode b_P_step 168 = .ok (.getfield 107, 3) := by decide +kernel
theorem d_P_step_171 : decode b_P_step 171 = .ok (.aload_n 0, 1) := by decide +kernel
theorem d_P_step_172 : decode b_P_step 172 = .ok (.iload_n 1, 1) := by decide +kernel
theorem d_P_step_173 : decode b_P_step 173 = .ok (.invokevirtual 133, 3) := by decide +kernel
theorem d_P_step_176 : decode b_P_step 176 = .ok (.i2l, 1) := by decide +kernel
theorem d_P_step_177 : decode b_P_step 177 = .ok (.ladd, 1) := by decide +kernel
theorem d_P_step_178 : decode b_P_step 178 = .ok (.putfield 107, 3) := by decide +kernel
theorem d_P_step_181 : decode b_P_step 181 = .ok (.iconst 1, 1) := by decide +kernel
theorem d_P_step_182 : decode b_P_step 182 = .ok (.ireturn, 1) := by decide +kernel
theorem d_P_letInterruptIn_0 : decode b_P_letInterruptIn 0 = .ok (.aload_n 0, 1) := by decide +kernel
theorem d_P_letInterruptIn_1 : decode b_P_letInterruptIn 1 = .ok (.iconst 0, 1) := by decide +kernel
theorem d_P_letInterruptIn_2 : decode b_P_letInterruptIn 2 = .ok (.putfield 102, 3) := by decide +kernel
theorem d_P_letInterruptIn_5 : decode b_P_letInterruptIn 5 = .ok (.aload_n 0, 1) := by decide +kernel
theorem d_P_letInterruptIn_6 : decode b_P_letInterruptIn 6 = .ok (.iconst 0, 1) := by decide +kernel
theorem d_P_letInterruptIn_7 : decode b_P_letInterruptIn 7 = .ok (.putfield 62, 3) := by decide +kernel
theorem d_P_letInterruptIn_10 : decode b_P_letInterruptIn 10 = .ok (.aload_n 0, 1) := by decide +kernel
theorem d_P_letInterruptIn_11 : decode b_P_letInterruptIn 11 = .ok (.bipush 8, 2) := by decide +kernel
theorem d_P_letInterruptIn_13 : decode b_P_letInterruptIn 13 = .ok (.aload_n 0, 1) := by decide +kernel
theorem d_P_letInterruptIn_14 : decode b_P_letInterruptIn 14 = .ok (.getfield 33, 3) := by decide +kernel
theorem d_P_letInterruptIn_17 : decode b_P_letInterruptIn 17 = .ok (.imul, 1) := by decide +kernel
theorem d_P_letInterruptIn_18 : decode b_P_letInterruptIn 18 = .ok (.invokevirtual 136, 3) := by decide +kernel
theorem d_P_letInterruptIn_21 : decode b_P_letInterruptIn 21 = .ok (.aload_n 0, 1) := by decide +kernel
theorem d_P_letInterruptIn_22 : decode b_P_letInterruptIn 22 = .ok (.iconst (-1), 1) := by decide +kernel
theorem d_P_letInterruptIn_23 : decode b_P_letInterruptIn 23 = .ok (.putfield 33, 3) := by decide +kernel
theorem d_P_letInterruptIn_26 : decode b_P_letInterruptIn 26 = .ok (.return_, 1) := by decide +kernel
theorem d_P_doFirstQuarter_0 : decode b_P_doFirstQuarter 0 = .ok (.iload_n 1, 1) := by decide +kernel
theorem d_P_doFirstQuarter_1 : decode b_P_doFirstQuarter 1 = .ok (.bipush 7, 2) := by decide +kernel
theorem d_P_doFirstQuarter_3 : decode b_P_doFirstQuarter 3 = .ok (.iand, 1) := by decide +kernel
theorem d_P_doFirstQuarter_4 : decode b_P_doFirstQuarter 4 = .ok (.tableswitch 101 1 7 #[44, 65, 71, 77, 83, 89, 95], 44) := by decide +kernel
theorem d_P_doFirstQuarter_48 : decode b_P_doFirstQuarter 48 = .ok (.iload_n 1, 1) := by decide +kernel
theorem d_P_doFirstQuarter_49 : decode b_P_doFirstQuarter 49 = .ok (.bipush 8, 2) := by decide +kernel
theorem d_P_doFirstQuarter_51 : decode b_P_doFirstQuarter 51 = .ok (.iand, 1) := by decide +kernel
theorem d_P_doFirstQuarter_52 : decode b_P_doFirstQuarter 52 = .ok (.ifCond .ne 11, 3) := by decide +kernel
theorem d_P_doFirstQuarter_55 : decode b_P_doFirstQuarter 55 = .ok (.aload_n 0, 1) := by decide +kernel
theorem d_P_doFirstQuarter_56 : decode b_P_doFirstQuarter 56 = .ok (.iload_n 1, 1) := by decide +kernel
theorem d_P_doFirstQuarter_57 : decode b_P_doFirstQuarter 57 = .ok (.invokevirtual 139, 3) := by decide +kernel
theorem d_P_doFirstQuarter_60 : decode b_P_doFirstQuarter 60 = .ok (.goto 8, 3) := by decide +kernel
theorem d_P_doFirstQuarter_63 : decode b_P_doFirstQuarter 63 = .ok (.aload_n 0, 1) := by decide +kernel
theorem d_P_doFirstQuarter_64 : decode b_P_doFirstQuarter 64 = .ok (.iload_n 1, 1) := by decide +kernel
theorem d_P_doFirstQuarter_65 : decode b_P_doFirstQuarter 65 = .ok (.invokevirtual 142, 3) := by decide +kernel
theorem d_P_doFirstQuarter_68 : decode b_P_doFirstQuarter 68 = .ok (.ireturn, 1) := by decide +kernel
theorem d_P_doFirstQuarter_69 : decode b_P_doFirstQuarter 69 = .ok (.aload_n 0, 1) := by decide +kernel
theorem d_P_doFirstQuarter_70 : decode b_P_doFirstQuarter 70 = .ok (.iload_n 1, 1) := by decide +kernel
theorem d_P_doFirstQuarter_71 : decode b_P_doFirstQuarter 71 = .ok (.invokevirtual 145, 3) := by decide +kernel
theorem d_P_doFirstQuarter_74 : decode b_P_doFirstQuarter 74 = .ok (.ireturn, 1) := by decide +kernel
theorem d_P_doFirstQuarter_75 : decode b_P_doFirstQuarter 75 = .ok (.aload_n 0, 1) := by decide +kernel
theorem d_P_doFirstQuarter_76 : decode b_P_doFirstQuarter 76 = .ok (.iload_n 1, 1) := by decide +kernel
theorem d_P_doFirstQuarter_77 : decode b_P_doFirstQuarter 77 = .ok (.invokevirtual 148, 3) := by decide +kernel
theorem d_P_doFirstQuarter_80 : decode b_P_doFirstQuarter 80 = .ok (.ireturn, 1) := by decide +kernel
theorem d_P_doFirstQuarter_81 : decode b_P_doFirstQuarter 81 = .ok (.aload_n 0, 1) := by decide +kernel
theorem d_P_doFirstQuarter_82 : decode b_P_doFirstQuarter 82 = .ok (.iload_n 1, 1) := by decide +kernel
theorem d_P_doFirstQuarter_83 : decode b_P_doFirstQuarter 83 = .ok (.invokevirtual 151, 3) := by decide +kernel
theorem d_P_doFirstQuarter_86 : decode b_P_doFirstQuarter 86 = .ok (.ireturn, 1) := by decide +kernel
theorem d_P_doFirstQuarter_87 : decode b_P_doFirstQuarter 87 = .ok (.aload_n 0, 1) := by decide +kernel
theorem d_P_doFirstQuarter_88 : decode b_P_doFirstQuarter 88 = .ok (.iload_n 1, 1) := by decide +kernel
theorem d_P_doFirstQuarter_89 : decode b_P_doFirstQuarter 89 = .ok (.invokevirtual 154, 3) := by decide +kernel
theorem d_P_doFirstQuarter_92 : decode b_P_doFirstQuarter 92 = .ok (.ireturn, 1) := by decide +kernel
theorem d_P_doFirstQuarter_93 : decode b_P_doFirstQuarter 93 = .ok (.aload_n 0, 1) := by decide +kernel
theorem d_P_doFirstQuarter_94 : decode b_P_doFirstQuarter 94 = .ok (.iload_n 1, 1) := by decide +kernel
theorem d_P_doFirstQuarter_95 : decode b_P_doFirstQuarter 95 = .ok (.invokevirtual 157, 3) := by decide +kernel
theorem d_P_doFirstQuarter_98 : decode b_P_doFirstQuarter 98 = .ok (.ireturn, 1) := by decide +kernel
theorem d_P_doFirstQuarter_99 : decode b_P_doFirstQuarter 99 = .ok (.aload_n 0, 1) := by decide +kernel
theorem d_P_doFirstQuarter_100 : decode b_P_doFirstQuarter 100 = .ok (.iload_n 1, 1) := by decide +kernel
theorem d_P_doFirstQuarter_101 : decode b_P_doFirstQuarter 101 = .ok (.invokevirtual 160, 3) := by decide +kernel
theorem d_P_doFirstQuarter_104 : decode b_P_doFirstQuarter 104 = .ok (.ireturn, 1) := by decide +kernel
theorem d_P_doFirstQuarter_105 : decode b_P_doFirstQuarter 105 = .ok (.iconst 4, 1) := by decide +kernel
theorem d_P_doFirstQuarter_106 : decode b_P_doFirstQuarter 106 = .ok (.ireturn, 1) := by decide +kernel
theorem d_P_doLastQuarter_0 : decode b_P_doLastQuarter 0 = .ok (.iload_n 1, 1) := by decide +kernel
theorem d_P_doLastQuarter_1 : decode b_P_doLastQuarter 1 = .ok (.bipush 7, 2) := by decide +kernel
theorem d_P_doLastQuarter_3 : decode b_P_doLastQuarter 3 = .ok (.iand, 1) := by decide +kernel
theorem d_P_doLastQuarter_4 : decode b_P_doLastQuarter 4 = .ok (.tableswitch 115 0 6 #[44, 50, 71, 77, 83, 89, 109], 44) := by decide +kernel
theorem d_P_doLastQuarter_48 : decode b_P_doLastQuarter 48 = .ok (.aload_n 0, 1) := by decide +kernel
theorem d_P_doLastQuarter_49 : decode b_P_doLastQuarter 49 = .ok (.iload_n 1, 1) := by decide +kernel
theorem d_P_doLastQuarter_50 : decode b_P_doLastQuarter 50 = .ok (.invokevirtual 163, 3) := by decide +kernel
theorem d_P_doLastQuarter_53 : decode b_P_doLastQuarter 53 = .ok (.ireturn, 1) := by decide +kernel
theorem d_P_doLastQuarter_54 : decode b_P_doLastQuarter 54 = .ok (.iload_n 1, 1) := by decide +kernel
theorem d_P_doLastQuarter_55 : decode b_P_doLastQuarter 55 = .ok (.bipush 8, 2) := by decide +kernel
theorem d_P_doLastQuarter_57 : decode b_P_doLastQuarter 57 = .ok (.iand, 1) := by decide +kernel
theorem d_P_doLastQuarter_58 : decode b_P_doLastQuarter 58 = .ok (.ifCond .ne 11, 3) := by decide +kernel
theorem d_P_doLastQuarter_61 : decode b_P_doLastQuarter 61 = .ok (.aload_n 0, 1) := by decide +kernel
theorem d_P_doLastQuarter_62 : decode b_P_doLastQuarter 62 = .ok (.iload_n 1, 1) := by decide +kernel
theorem d_P_doLastQuarter_63 : decode b_P_doLastQuarter 63 = .ok (.invokevirtual 166, 3) := by decide +kernel
theorem d_P_doLastQuarter_66 : decode b_P_doLastQuarter 66 = .ok (.goto 8, 3) := by decide +kernel
theorem d_P_doLastQuarter_69 : decode b_P_doLastQuarter 69 = .ok (.aload_n 0, 1) := by decide +kernel
theorem d_P_doLastQuarter_70 : decode b_P_doLastQuarter 70 = .ok (.iload_n 1, 1) := by decide +kernel
theorem d_P_doLastQuarter_71 : decode b_P_doLastQuarter 71 = .ok (.invokevirtual 169, 3) := by decide +kernel
theorem d_P_doLastQuarter_74 : decode b_P_doLastQuarter 74 = .ok (.ireturn, 1) := by decide +kernel
theorem d_P_doLastQuarter_75 : decode b_P_doLastQuarter 75 = .ok (.aload_n 0, 1) := by decide +kernel
theorem d_P_doLastQuarter_76 : decode b_P_doLastQuarter 76 = .ok (.iload_n 1, 1) := by decide +kernel
theorem d_P_doLastQuarter_77 : decode b_P_doLastQuarter 77 = .ok (.invokevirtual 172, 3) := by decide +kernel
theorem d_P_doLastQuarter_80 : decode b_P_doLastQuarter 80 = .ok (.ireturn, 1) := by decide +kernel
theorem d_P_doLastQuarter_81 : decode b_P_doLastQuarter 81 = .ok (.aload_n 0, 1) := by decide +kernel
theorem d_P_doLastQuarter_82 : decode b_P_doLastQuarter 82 = .ok (.iload_n 1, 1) := by decide +kernel
theorem d_P_doLastQuarter_83 : decode b_P_doLastQuarter 83 = .ok (.invokevirtual 175, 3) := by decide +kernel
theorem d_P_doLastQuarter_86 : decode b_P_doLastQuarter 86 = .ok (.ireturn, 1) := by decide +kernel
theorem d_P_doLastQuarter_87 : decode b_P_doLastQuarter 87 = .ok (.aload_n 0, 1) := by decide +kernel
theorem d_P_doLastQuarter_88 : decode b_P_doLastQuarter 88 = .ok (.iload_n 1, 1) := by decide +kernel
theorem d_P_doLastQuarter_89 : decode b_P_doLastQuarter 89 = .ok (.invokevirtual 178, 3) := by decide +kernel
theorem d_P_doLastQuarter_92 : decode b_P_doLastQuarter 92 = .ok (.ireturn, 1) := by decide +kernel
theorem d_P_doLastQuarter_93 : decode b_P_doLastQuarter 93 = .ok (.iload_n 1, 1) := by decide +kernel
theorem d_P_doLastQuarter_94 : decode b_P_doLastQuarter 94 = .ok (.bipush 8, 2) := by decide +kernel
theorem d_P_doLastQuarter_96 : decode b_P_doLastQuarter 96 = .ok (.iand, 1) := by decide +kernel
theorem d_P_doLastQuarter_97 : decode b_P_doLastQuarter 97 = .ok (.ifCond .ne 11, 3) := by decide +kernel
theorem d_P_doLastQuarter_100 : decode b_P_doLastQuarter 100 = .ok (.aload_n 0, 1) := by decide +kernel
theorem d_P_doLastQuarter_101 : decode b_P_doLastQuarter 101 = .ok (.iload_n 1, 1) := by decide +kernel
theorem d_P_doLastQuarter_102 : decode b_P_doLastQuarter 102 = .ok (.invokevirtual 181, 3) := by decide +kernel
theorem d_P_doLastQuarter_105 : decode b_P_doLastQuarter 105 = .ok (.goto 7, 3) := by decide +kernel
theorem d_P_doLastQuarter_108 : decode b_P_doLastQuarter 108 = .ok (.aload_n 0, 1) := by decide +kernel
theorem d_P_doLastQuarter_109 : decode b_P_doLastQuarter 109 = .ok (.invokevirtual 184, 3) := by decide +kernel
theorem d_P_doLastQuarter_112 : decode b_P_doLastQuarter 112 = .ok (.ireturn, 1) := by decide +kernel
theorem d_P_doLastQuarter_113 : decode b_P_doLastQuarter 113 = .ok (.aload_n 0, 1) := by decide +kernel
theorem d_P_doLastQuarter_114 : decode b_P_doLastQuarter 114 = .ok (.iload_n 1, 1) := by decide +kernel
theorem d_P_doLastQuarter_115 : decode b_P_doLastQuarter 115 = .ok (.invokevirtual 187, 3) := by decide +kernel
theorem d_P_doLastQuarter_118 : decode b_P_doLastQuarter 118 = .ok (.ireturn, 1) := by decide +kernel
theorem d_P_doLastQuarter_119 : decode b_P_doLastQuarter 119 = .ok (.aload_n 0, 1) := by decide +kernel
theorem d_P_doLastQuarter_120 : decode b_P_doLastQuarter 120 = .ok (.iload_n 1, 1) := by decide +kernel
theorem d_P_doLastQuarter_121 : decode b_P_doLastQuarter 121 = .ok (.bipush 56, 2) := by decide +kernel
theorem d_P_doLastQuarter_123 : decode b_P_doLastQuarter 123 = .ok (.iand, 1) := by decide +kernel
theorem d_P_doLastQuarter_124 : decode b_P_doLastQuarter 124 = .ok (.invokevirtual 136, 3) := by decide +kernel
theorem d_P_doLastQuarter_127 : decode b_P_doLastQuarter 127 = .ok (.bipush 11, 2) := by decide +kernel
theorem d_P_doLastQuarter_129 : decode b_P_doLastQuarter 129 = .ok (.ireturn, 1) := by decide +kernel
theorem d_P_fillPair_0 : decode b_P_fillPair 0 = .ok (.aload_n 0, 1) := by decide +kernel
theorem d_P_fillPair_1 : decode b_P_fillPair 1 = .ok (.iload_n 1, 1) := by decide +kernel
theorem d_P_fillPair_2 : decode b_P_fillPair 2 = .ok (.invokestatic 190, 3) := by decide +kernel
theorem d_P_fillPair_5 : decode b_P_fillPair 5 = .ok (.aload_n 0, 1) := by decide +kernel
theorem d_P_fillPair_6 : decode b_P_fillPair 6 = .ok (.invokevirtual 193, 3) := by decide +kernel
theorem d_P_fillPair_9 : decode b_P_fillPair 9 = .ok (.invokevirtual 196, 3) := by decide +kernel
theorem d_P_fillPair_12 : decode b_P_fillPair 12 = .ok (.bipush 10, 2) := by decide +kernel
theorem d_P_fillPair_14 : decode b_P_fillPair 14 = .ok (.ireturn, 1) := by decide +kernel
theorem d_P_addPair_0 : decode b_P_addPair 0 = .ok (.aload_n 0, 1) := by decide +kernel
theorem d_P_addPair_1 : decode b_P_addPair 1 = .ok (.iconst 2, 1) := by decide +kernel
theorem d_P_addPair_2 : decode b_P_addPair 2 = .ok (.invokevirtual 199, 3) := by decide +kernel
theorem d_P_addPair_5 : decode b_P_addPair 5 = .ok (.aload_n 0, 1) := by decide +kernel
theorem d_P_addPair_6 : decode b_P_addPair 6 = .ok (.iload_n 1, 1) := by decide +kernel
theorem d_P_addPair_7 : decode b_P_addPair 7 = .ok (.invokestatic 190, 3) := by decide +kernel
theorem d_P_addPair_10 : decode b_P_addPair 10 = .ok (.invokevirtual 199, 3) := by decide +kernel
theorem d_P_addPair_13 : decode b_P_addPair 13 = .ok (.iadd, 1) := by decide +kernel
theorem d_P_addPair_14 : decode b_P_addPair 14 = .ok (.istore_n 2, 1) := by decide +kernel
theorem d_P_addPair_15 : decode b_P_addPair 15 = .ok (.aload_n 0, 1) := by decide +kernel
theorem d_P_addPair_16 : decode b_P_addPair 16 = .ok (.getfield 19, 3) := by decide +kernel
theorem d_P_addPair_19 : decode b_P_addPair 19 = .ok (.iload_n 2, 1) := by decide +kernel
theorem d_P_addPair_20 : decode b_P_addPair 20 = .ok (.ldc 56, 2) := by decide +kernel
theorem d_P_addPair_22 : decode b_P_addPair 22 = .ok (.if_icmp .le 7, 3) := by decide +kernel
theorem d_P_addPair_25 : decode b_P_addPair 25 = .ok (.iconst 1, 1) := by decide +kernel
theorem d_P_addPair_26 : decode b_P_addPair 26 = .ok (.goto 4, 3) := by decide +kernel
theorem d_P_addPair_29 : decode b_P_addPair 29 = .ok (.iconst 0, 1) := by decide +kernel
theorem d_P_addPair_30 : decode b_P_addPair 30 = .ok (.invokevirtual 202, 3) := by decide +kernel
theorem d_P_addPair_33 : decode b_P_addPair 33 = .ok (.aload_n 0, 1) := by decide +kernel
theorem d_P_addPair_34 : decode b_P_addPair 34 = .ok (.iconst 2, 1) := by decide +kernel
theorem d_P_addPair_35 : decode b_P_addPair 35 = .ok (.iload_n 2, 1) := by decide +kernel
theorem d_P_addPair_36 : decode b_P_addPair 36 = .ok (.ldc 56, 2) := by decide +kernel
theorem d_P_addPair_38 : decode b_P_addPair 38 = .ok (.iand, 1) := by decide +kernel
theorem d_P_addPair_39 : decode b_P_addPair 39 = .ok (.invokevirtual 196, 3) := by decide +kernel
theorem d_P_addPair_42 : decode b_P_addPair 42 = .ok (.bipush 10, 2) := by decide +kernel
theorem d_P_addPair_44 : decode b_P_addPair 44 = .ok (.ireturn, 1) := by decide +kernel
theorem d_P_countPair_0 : decode b_P_countPair 0 = .ok (.iload_n 1, 1) := by decide +kernel
theorem d_P_countPair_1 : decode b_P_countPair 1 = .ok (.bipush 8, 2) := by decide +kernel
theorem d_P_countPair_3 : decode b_P_countPair 3 = .ok (.iand, 1) := by decide +kernel
theorem d_P_countPair_4 : decode b_P_countPair 4 = .ok (.ifCond .ne 7, 3) := by decide +kernel
theorem d_P_countPair_7 : decode b_P_countPair 7 = .ok (.iconst 1, 1) := by decide +kernel
theorem d_P_countPair_8 : decode b_P_countPair 8 = .ok (.goto 4, 3) := by decide +kernel
theorem d_P_countPair_11 : decode b_P_countPair 11 = .ok (.iconst (-1), 1) := by decide +kernel
theorem d_P_countPair_12 : decode b_P_countPair 12 = .ok (.istore_n 2, 1) := by decide +kernel
theorem d_P_countPair_13 : decode b_P_countPair 13 = .ok (.aload_n 0, 1) := by decide +kernel
theorem d_P_countPair_14 : decode b_P_countPair 14 = .ok (.iload_n 1, 1) := by decide +kernel
theorem d_P_countPair_15 : decode b_P_countPair 15 = .ok (.invokestatic 190, 3) := by decide +kernel
theorem d_P_countPair_18 : decode b_P_countPair 18 = .ok (.aload_n 0, 1) := by decide +kernel
theorem d_P_countPair_19 : decode b_P_countPair 19 = .ok (.iload_n 1, 1) := by decide +kernel
theorem d_P_countPair_20 : decode b_P_countPair 20 = .ok (.invokestatic 190, 3) := by decide +kernel
theorem d_P_countPair_23 : decode b_P_countPair 23 = .ok (.invokevirtual 199, 3) := by decide +kernel
theorem d_P_countPair_26 : decode b_P_countPair 26 = .ok (.iload_n 2, 1) := by decide +kernel
theorem d_P_countPair_27 : decode b_P_countPair 27 = .ok (.iadd, 1) := by decide +kernel
theorem d_P_countPair_28 : decode b_P_countPair 28 = .ok (.ldc 56, 2) := by decide +kernel
theorem d_P_countPair_30 : decode b_P_countPair 30 = .ok (.iand, 1) := by decide +kernel
theorem d_P_countPair_31 : decode b_P_countPair 31 = .ok (.invokevirtual 196, 3) := by decide +kernel
theorem d_P_countPair_34 : decode b_P_countPair 34 = .ok (.iconst 5, 1) := by decide +kernel
theorem d_P_countPair_35 : decode b_P_countPair 35 = .ok (.ireturn, 1) := by decide +kernel
theorem d_P_storeOrFetch_0 : decode b_P_storeOrFetch 0 = .ok (.iload_n 1, 1) := by decide +kernel
theorem d_P_storeOrFetch_1 : decode b_P_storeOrFetch 1 = .ok (.iconst 3, 1) := by decide +kernel
theorem d_P_storeOrFetch_2 : decode b_P_storeOrFetch 2 = .ok (.ishr, 1) := by decide +kernel
theorem d_P_storeOrFetch_3 : decode b_P_storeOrFetch 3 = .ok (.tableswitch 168 0 6 #[41, 63, 85, 107, 129, 138, 147], 41) := by decide +kernel
theorem d_P_storeOrFetch_44 : decode b_P_storeOrFetch 44 = .ok (.aload_n 0, 1) := by decide +kernel
theorem d_P_storeOrFetch_45 : decode b_P_storeOrFetch 45 = .ok (.getfield 10, 3) := by decide +kernel
theorem d_P_storeOrFetch_48 : decode b_P_storeOrFetch 48 = .ok (.aload_n 0, 1) := by decide +kernel
theorem d_P_storeOrFetch_49 : decode b_P_storeOrFetch 49 = .ok (.iconst 0, 1) := by decide +kernel
theorem d_P_storeOrFetch_50 : decode b_P_storeOrFetch 50 = .ok (.invokevirtual 199, 3) := by decide +kernel
theorem d_P_storeOrFetch_53 : decode b_P_storeOrFetch 53 = .ok (.aload_n 0, 1) := by decide +kernel
theorem d_P_storeOrFetch_54 : decode b_P_storeOrFetch 54 = .ok (.getfield 23, 3) := by decide +kernel
theorem d_P_storeOrFetch_57 : decode b_P_storeOrFetch 57 = .ok (.bipush 7, 2) := by decide +kernel
theorem d_P_storeOrFetch_59 : decode b_P_storeOrFetch 59 = .ok (.iaload, 1) := by decide +kernel
theorem d_P_storeOrFetch_60 : decode b_P_storeOrFetch 60 = .ok (.invokevirtual 46, 3) := by decide +kernel
theorem d_P_storeOrFetch_63 : decode b_P_storeOrFetch 63 = .ok (.bipush 7, 2) := by decide +kernel
theorem d_P_storeOrFetch_65 : decode b_P_storeOrFetch 65 = .ok (.ireturn, 1) := by decide +kernel
theorem d_P_storeOrFetch_66 : decode b_P_storeOrFetch 66 = .ok (.aload_n 0, 1) := by decide +kernel
theorem d_P_storeOrFetch_67 : decode b_P_storeOrFetch 67 = .ok (.getfield 23, 3) := by decide +kernel
theorem d_P_storeOrFetch_70 : decode b_P_storeOrFetch 70 = .ok (.bipush 7, 2) := by decide +kernel
theorem d_P_storeOrFetch_72 : decode b_P_storeOrFetch 72 = .ok (.aload_n 0, 1) := by decide +kernel
theorem d_P_storeOrFetch_73 : decode b_P_storeOrFetch 73 = .ok (.getfield 10, 3) := by decide +kernel
theorem d_P_storeOrFetch_76 : decode b_P_storeOrFetch 76 = .ok (.aload_n 0, 1) := by decide +kernel
theorem d_P_storeOrFetch_77 : decode b_P_storeOrFetch 77 = .ok (.iconst 0, 1) := by decide +kernel
theorem d_P_storeOrFetch_78 : decode b_P_storeOrFetch 78 = .ok (.invokevirtual 199, 3) := by decide +kernel
theorem d_P_storeOrFetch_81 : decode b_P_storeOrFetch 81 = .ok (.invokevirtual 52, 3) := by decide +kernel
theorem d_P_storeOrFetch_84 : decode b_P_storeOrFetch 84 = .ok (.iastore, 1) := by decide +kernel
theorem d_P_storeOrFetch_85 : decode b_P_storeOrFetch 85 = .ok (.bipush 7, 2) := by decide +kernel
theorem d_P_storeOrFetch_87 : decode b_P_storeOrFetch 87 = .ok (.ireturn, 1) := by decide +kernel
theorem d_P_storeOrFetch_88 : decode b_P_storeOrFetch 88 = .ok (.aload_n 0, 1) := by decide +kernel
theorem d_P_storeOrFetch_89 : decode b_P_storeOrFetch 89 = .ok (.getfield 10, 3) := by decide +kernel
theorem d_P_storeOrFetch_92 : decode b_P_storeOrFetch 92 = .ok (.aload_n 0, 1) := by decide +kernel
theorem d_P_storeOrFetch_93 : decode b_P_storeOrFetch 93 = .ok (.iconst 1, 1) := by decide +kernel
theorem d_P_storeOrFetch_94 : decode b_P_storeOrFetch 94 = .ok (.invokevirtual 199, 3) := by decide +kernel
theorem d_P_storeOrFetch_97 : decode b_P_storeOrFetch 97 = .ok (.aload_n 0, 1) := by decide +kernel
theorem d_P_storeOrFetch_98 : decode b_P_storeOrFetch 98 = .ok (.getfield 23, 3) := by decide +kernel
theorem d_P_storeOrFetch_101 : decode b_P_storeOrFetch 101 = .ok (.bipush 7, 2) := by decide +kernel
theorem d_P_storeOrFetch_103 : decode b_P_storeOrFetch 103 = .ok (.iaload, 1) := by decide +kernel
theorem d_P_storeOrFetch_104 : decode b_P_storeOrFetch 104 = .ok (.invokevirtual 46, 3) := by decide +kernel
theorem d_P_storeOrFetch_107 : decode b_P_storeOrFetch 107 = .ok (.bipush 7, 2) := by decide +kernel
theorem d_P_storeOrFetch_109 : decode b_P_storeOrFetch 109 = .ok (.ireturn, 1) := by decide +kernel
theorem d_P_storeOrFetch_110 : decode b_P_storeOrFetch 110 = .ok (.aload_n 0, 1) := by decide +kernel
theorem d_P_storeOrFetch_111 : decode b_P_storeOrFetch 111 = .ok (.getfield 23, 3) := by decide +kernel
theorem d_P_storeOrFetch_114 : decode b_P_storeOrFetch 114 = .ok (.bipush 7, 2) := by decide +kernel
theorem d_P_storeOrFetch_116 : decode b_P_storeOrFetch 116 = .ok (.aload_n 0, 1) := by decide +kernel
theorem d_P_storeOrFetch_117 : decode b_P_storeOrFetch 117 = .ok (.getfield 10, 3) := by decide +kernel
theorem d_P_storeOrFetch_120 : decode b_P_storeOrFetch 120 = .ok (.aload_n 0, 1) := by decide +kernel
theorem d_P_storeOrFetch_121 : decode b_P_storeOrFetch 121 = .ok (.iconst 1, 1) := by decide +kernel
theorem d_P_storeOrFetch_122 : decode b_P_storeOrFetch 122 = .ok (.invokevirtual 199, 3) := by decide +kernel
theorem d_P_storeOrFetch_125 : decode b_P_storeOrFetch 125 = .ok (.invokevirtual 52, 3) := by decide +kernel
theorem d_P_storeOrFetch_128 : decode b_P_storeOrFetch 128 = .ok (.iastore, 1) := by decide +kernel
theorem d_P_storeOrFetch_129 : decode b_P_storeOrFetch 129 = .ok (.bipush 7, 2) := by decide +kernel
theorem d_P_storeOrFetch_131 : decode b_P_storeOrFetch 131 = .ok (.ireturn, 1) := by decide +kernel
theorem d_P_storeOrFetch_132 : decode b_P_storeOrFetch 132 = .ok (.aload_n 0, 1) := by decide +kernel
theorem d_P_storeOrFetch_133 : decode b_P_storeOrFetch 133 = .ok (.aload_n 0, 1) := by decide +kernel
theorem d_P_storeOrFetch_134 : decode b_P_storeOrFetch 134 = .ok (.invokevirtual 193, 3) := by decide +kernel
theorem d_P_storeOrFetch_137 : decode b_P_storeOrFetch 137 = .ok (.invokevirtual 206, 3) := by decide +kernel
theorem d_P_storeOrFetch_140 : decode b_P_storeOrFetch 140 = .ok (.ireturn, 1) := by decide +kernel
theorem d_P_storeOrFetch_141 : decode b_P_storeOrFetch 141 = .ok (.aload_n 0, 1) := by decide +kernel
theorem d_P_storeOrFetch_142 : decode b_P_storeOrFetch 142 = .ok (.aload_n 0, 1) := by decide +kernel
theorem d_P_storeOrFetch_143 : decode b_P_storeOrFetch 143 = .ok (.invokevirtual 193, 3) := by decide +kernel
theorem d_P_storeOrFetch_146 : decode b_P_storeOrFetch 146 = .ok (.invokevirtual 209, 3) := by decide +kernel
theorem d_P_storeOrFetch_149 : decode b_P_storeOrFetch 149 = .ok (.ireturn, 1) := by decide +kernel
theorem d_P_storeOrFetch_150 : decode b_P_storeOrFetch 150 = .ok (.aload_n 0, 1) := by decide +kernel
theorem d_P_storeOrFetch_151 : decode b_P_storeOrFetch 151 = .ok (.getfield 10, 3) := by decide +kernel
theorem d_P_storeOrFetch_154 : decode b_P_storeOrFetch 154 = .ok (.aload_n 0, 1) := by decide +kernel
theorem d_P_storeOrFetch_155 : decode b_P_storeOrFetch 155 = .ok (.invokevirtual 193, 3) := by decide +kernel
theorem d_P_storeOrFetch_158 : decode b_P_storeOrFetch 158 = .ok (.aload_n 0, 1) := by decide +kernel
theorem d_P_storeOrFetch_159 : decode b_P_storeOrFetch 159 = .ok (.getfield 23, 3) := by decide +kernel
theorem d_P_storeOrFetch_162 : decode b_P_storeOrFetch 162 = .ok (.bipush 7, 2) := by decide +kernel
theorem d_P_storeOrFetch_164 : decode b_P_storeOrFetch 164 = .ok (.iaload, 1) := by decide +kernel
theorem d_P_storeOrFetch_165 : decode b_P_storeOrFetch 165 = .ok (.invokevirtual 46, 3) := by decide +kernel
theorem d_P_storeOrFetch_168 : decode b_P_storeOrFetch 168 = .ok (.bipush 13, 2) := by decide +kernel
theorem d_P_storeOrFetch_170 : decode b_P_storeOrFetch 170 = .ok (.ireturn, 1) := by decide +kernel
theorem d_P_storeOrFetch_171 : decode b_P_storeOrFetch 171 = .ok (.aload_n 0, 1) := by decide +kernel
theorem d_P_storeOrFetch_172 : decode b_P_storeOrFetch 172 = .ok (.getfield 23, 3) := by decide +kernel
theorem d_P_storeOrFetch_175 : decode b_P_storeOrFetch 175 = .ok (.bipush 7, 2) := by decide +kernel
theorem d_P_storeOrFetch_177 : decode b_P_storeOrFetch 177 = .ok (.aload_n 0, 1) := by decide +kernel
theorem d_P_storeOrFetch_178 : decode b_P_storeOrFetch 178 = .ok (.getfield 10, 3) := by decide +kernel
theorem d_P_storeOrFetch_181 : decode b_P_storeOrFetch 181 = .ok (.aload_n 0, 1) := by decide +kernel
theorem d_P_storeOrFetch_182 : decode b_P_storeOrFetch 182 = .ok (.invokevirtual 193, 3) := by decide +kernel
theorem d_P_storeOrFetch_185 : decode b_P_storeOrFetch 185 = .ok (.invokevirtual 52, 3) := by decide +kernel
theorem d_P_storeOrFetch_188 : decode b_P_storeOrFetch 188 = .ok (.iastore, 1) := by decide +kernel
theorem d_P_storeOrFetch_189 : decode b_P_storeOrFetch 189 = .ok (.bipush 13, 2) := by decide +kernel
theorem d_P_storeOrFetch_191 : decode b_P_storeOrFetch 191 = .ok (.ireturn, 1) := by decide +kernel
theorem d_P_storeHl_0 : decode b_P_storeHl 0 = .ok (.aload_n 0, 1) := by decide +kernel
theorem d_P_storeHl_1 : decode b_P_storeHl 1 = .ok (.getfield 10, 3) := by decide +kernel
theorem d_P_storeHl_4 : decode b_P_storeHl 4 = .ok (.iload_n 1, 1) := by decide +kernel
theorem d_P_storeHl_5 : decode b_P_storeHl 5 = .ok (.aload_n 0, 1) := by decide +kernel
theorem d_P_storeHl_6 : decode b_P_storeHl 6 = .ok (.getfield 23, 3) := by decide +kernel
theorem d_P_storeHl_9 : decode b_P_storeHl 9 = .ok (.iconst 5, 1) := by decide +kernel
theorem d_P_storeHl_10 : decode b_P_storeHl 10 = .ok (.iaload, 1) := by decide +kernel
theorem d_P_storeHl_11 : decode b_P_storeHl 11 = .ok (.invokevirtual 46, 3) := by decide +kernel
theorem d_P_storeHl_14 : decode b_P_storeHl 14 = .ok (.aload_n 0, 1) := by decide +kernel
theorem d_P_storeHl_15 : decode b_P_storeHl 15 = .ok (.getfield 10, 3) := by decide +kernel
theorem d_P_storeHl_18 : decode b_P_storeHl 18 = .ok (.iload_n 1, 1) := by decide +kernel
theorem d_P_storeHl_19 : decode b_P_storeHl 19 = .ok (.iconst 1, 1) := by decide +kernel
theorem d_P_storeHl_20 : decode b_P_storeHl 20 = .ok (.iadd, 1) := by decide +kernel
theorem d_P_storeHl_21 : decode b_P_storeHl 21 = .ok (.ldc 56, 2) := by decide +kernel
theorem d_P_storeHl_23 : decode b_P_storeHl 23 = .ok (.iand, 1) := by decide +kernel
theorem d_P_storeHl_24 : decode b_P_storeHl 24 = .ok (.aload_n 0, 1) := by decide +kernel
theorem d_P_storeHl_25 : decode b_P_storeHl 25 = .ok (.getfield 23, 3) := by decide +kernel
theorem d_P_storeHl_28 : decode b_P_storeHl 28 = .ok (.iconst 4, 1) := by decide +kernel
theorem d_P_storeHl_29 : decode b_P_storeHl 29 = .ok (.iaload, 1) := by decide +kernel
theorem d_P_storeHl_30 : decode b_P_storeHl 30 = .ok (.invokevirtual 46, 3) := by decide +kernel
theorem d_P_storeHl_33 : decode b_P_storeHl 33 = .ok (.bipush 16, 2) := by decide +kernel
theorem d_P_storeHl_35 : decode b_P_storeHl 35 = .ok (.ireturn, 1) := by decide +kernel
theorem d_P_fetchHl_0 : decode b_P_fetchHl 0 = .ok (.aload_n 0, 1) := by decide +kernel
theorem d_P_fetchHl_1 : decode b_P_fetchHl 1 = .ok (.getfield 23, 3) := by decide +kernel
theorem d_P_fetchHl_4 : decode b_P_fetchHl 4 = .ok (.iconst 5, 1) := by decide +kernel
theorem d_P_fetchHl_5 : decode b_P_fetchHl 5 = .ok (.aload_n 0, 1) := by decide +kernel
theorem d_P_fetchHl_6 : decode b_P_fetchHl 6 = .ok (.getfield 10, 3) := by decide +kernel
theorem d_P_fetchHl_9 : decode b_P_fetchHl 9 = .ok (.iload_n 1, 1) := by decide +kernel
theorem d_P_fetchHl_10 : decode b_P_fetchHl 10 = .ok (.invokevirtual 52, 3) := by decide +kernel
theorem d_P_fetchHl_13 : decode b_P_fetchHl 13 = .ok (.iastore, 1) := by decide +kernel
theorem d_P_fetchHl_14 : decode b_P_fetchHl 14 = .ok (.aload_n 0, 1) := by decide +kernel
theorem d_P_fetchHl_15 : decode b_P_fetchHl 15 = .ok (.getfield 23, 3) := by decide +kernel
theorem d_P_fetchHl_18 : decode b_P_fetchHl 18 = .ok (.iconst 4, 1) := by decide +kernel
theorem d_P_fetchHl_19 : decode b_P_fetchHl 19 = .ok (.aload_n 0, 1) := by decide +kernel
theorem d_P_fetchHl_20 : decode b_P_fetchHl 20 = .ok (.getfield 10, 3) := by decide +kernel
theorem d_P_fetchHl_23 : decode b_P_fetchHl 23 = .ok (.iload_n 1, 1) := by decide +kernel
theorem d_P_fetchHl_24 : decode b_P_fetchHl 24 = .ok (.iconst 1, 1) := by decide +kernel
theorem d_P_fetchHl_25 : decode b_P_fetchHl 25 = .ok (.iadd, 1) := by decide +kernel
theorem d_P_fetchHl_26 : decode b_P_fetchHl 26 = .ok (.ldc 56, 2) := by decide +kernel
theorem d_P_fetchHl_28 : decode b_P_fetchHl 28 = .ok (.iand, 1) := by decide +kernel
theorem d_P_fetchHl_29 : decode b_P_fetchHl 29 = .ok (.invokevirtual 52, 3) := by decide +kernel
theorem d_P_fetchHl_32 : decode b_P_fetchHl 32 = .ok (.iastore, 1) := by decide +kernel
theorem d_P_fetchHl_33 : decode b_P_fetchHl 33 = .ok (.bipush 16, 2) := by decide +kernel
theorem d_P_fetchHl_35 : decode b_P_fetchHl 35 = .ok (.ireturn, 1) := by decide +kernel
theorem d_P_raise_0 : decode b_P_raise 0 = .ok (.iload_n 1, 1) := by decide +kernel
theorem d_P_raise_1 : decode b_P_raise 1 = .ok (.invokestatic 212, 3) := by decide +kernel
theorem d_P_raise_4 : decode b_P_raise 4 = .ok (.istore_n 2, 1) := by decide +kernel
theorem d_P_raise_5 : decode b_P_raise 5 = .ok (.aload_n 0, 1) := by decide +kernel
theorem d_P_raise_6 : decode b_P_raise 6 = .ok (.iload_n 2, 1) := by decide +kernel
theorem d_P_raise_7 : decode b_P_raise 7 = .ok (.aload_n 0, 1) := by decide +kernel
theorem d_P_raise_8 : decode b_P_raise 8 = .ok (.getfield 19, 3) := by decide +kernel
theorem d_P_raise_11 : decode b_P_raise 11 = .ok (.aload_n 0, 1) := by decide +kernel
theorem d_P_raise_12 : decode b_P_raise 12 = .ok (.iload_n 2, 1) := by decide +kernel
theorem d_P_raise_13 : decode b_P_raise 13 = .ok (.invokevirtual 91, 3) := by decide +kernel
theorem d_P_raise_16 : decode b_P_raise 16 = .ok (.invokevirtual 215, 3) := by decide +kernel
theorem d_P_raise_19 : decode b_P_raise 19 = .ok (.invokevirtual 218, 3) := by decide +kernel
theorem d_P_raise_22 : decode b_P_raise 22 = .ok (.iload_n 2, 1) := by decide +kernel
theorem d_P_raise_23 : decode b_P_raise 23 = .ok (.bipush 6, 2) := by decide +kernel
theorem d_P_raise_25 : decode b_P_raise 25 = .ok (.if_icmp .ne 8, 3) := by decide +kernel
theorem d_P_raise_28 : decode b_P_raise 28 = .ok (.bipush 10, 2) := by decide +kernel
theorem d_P_raise_30 : decode b_P_raise 30 = .ok (.goto 4, 3) := by decide +kernel
theorem d_P_raise_33 : decode b_P_raise 33 = .ok (.iconst 5, 1) := by decide +kernel
theorem d_P_raise_34 : decode b_P_raise 34 = .ok (.ireturn, 1) := by decide +kernel
theorem d_P_lower_0 : decode b_P_lower 0 = .ok (.iload_n 1, 1) := by decide +kernel
theorem d_P_lower_1 : decode b_P_lower 1 = .ok (.invokestatic 212, 3) := by decide +kernel
theorem d_P_lower_4 : decode b_P_lower 4 = .ok (.istore_n 2, 1) := by decide +kernel
theorem d_P_lower_5 : decode b_P_lower 5 = .ok (.aload_n 0, 1) := by decide +kernel
theorem d_P_lower_6 : decode b_P_lower 6 = .ok (.iload_n 2, 1) := by decide +kernel
theorem d_P_lower_7 : decode b_P_lower 7 = .ok (.aload_n 0, 1) := by decide +kernel
theorem d_P_lower_8 : decode b_P_lower 8 = .ok (.getfield 19, 3) := by decide +kernel
theorem d_P_lower_11 : decode b_P_lower 11 = .ok (.aload_n 0, 1) := by decide +kernel
theorem d_P_lower_12 : decode b_P_lower 12 = .ok (.iload_n 2, 1) := by decide +kernel
theorem d_P_lower_13 : decode b_P_lower 13 = .ok (.invokevirtual 91, 3) := by decide +kernel
theorem d_P_lower_16 : decode b_P_lower 16 = .ok (.invokevirtual 221, 3) := by decide +kernel
theorem d_P_lower_19 : decode b_P_lower 19 = .ok (.invokevirtual 218, 3) := by decide +kernel
theorem d_P_lower_22 : decode b_P_lower 22 = .ok (.iload_n 2, 1) := by decide +kernel
theorem d_P_lower_23 : decode b_P_lower 23 = .ok (.bipush 6, 2) := by decide +kernel
theorem d_P_lower_25 : decode b_P_lower 25 = .ok (.if_icmp .ne 8, 3) := by decide +kernel
theorem d_P_lower_28 : decode b_P_lower 28 = .ok (.bipush 10, 2) := by decide +kernel
theorem d_P_lower_30 : decode b_P_lower 30 = .ok (.goto 4, 3) := by decide +kernel
theorem d_P_lower_33 : decode b_P_lower 33 = .ok (.iconst 5, 1) := by decide +kernel
theorem d_P_lower_34 : decode b_P_lower 34 = .ok (.ireturn, 1) := by decide +kernel
theorem d_P_fillRegister_0 : decode b_P_fillRegister 0 = .ok (.iload_n 1, 1) := by decide +kernel
theorem d_P_fillRegister_1 : decode b_P_fillRegister 1 = .ok (.invokestatic 212, 3) := by decide +kernel
theorem d_P_fillRegister_4 : decode b_P_fillRegister 4 = .ok (.istore_n 2, 1) := by decide +kernel
theorem d_P_fillRegister_5 : decode b_P_fillRegister 5 = .ok (.aload_n 0, 1) := by decide +kernel
theorem d_P_fillRegister_6 : decode b_P_fillRegister 6 = .ok (.iload_n 2, 1) := by decide +kernel
theorem d_P_fillRegister_7 : decode b_P_fillRegister 7 = .ok (.aload_n 0, 1) := by decide +kernel
theorem d_P_fillRegister_8 : decode b_P_fillRegister 8 = .ok (.invokevirtual 121, 3) := by decide +kernel
theorem d_P_fillRegister_11 : decode b_P_fillRegister 11 = .ok (.invokevirtual 218, 3) := by decide +kernel
theorem d_P_fillRegister_14 : decode b_P_fillRegister 14 = .ok (.iload_n 2, 1) := by decide +kernel
theorem d_P_fillRegister_15 : decode b_P_fillRegister 15 = .ok (.bipush 6, 2) := by decide +kernel
theorem d_P_fillRegister_17 : decode b_P_fillRegister 17 = .ok (.if_icmp .ne 8, 3) := by decide +kernel
theorem d_P_fillRegister_20 : decode b_P_fillRegister 20 = .ok (.bipush 10, 2) := by decide +kernel
theorem d_P_fillRegister_22 : decode b_P_fillRegister 22 = .ok (.goto 5, 3) := by decide +kernel
theorem d_P_fillRegister_25 : decode b_P_fillRegister 25 = .ok (.bipush 7, 2) := by decide +kernel
theorem d_P_fillRegister_27 : decode b_P_fillRegister 27 = .ok (.ireturn, 1) := by decide +kernel
theorem d_P_workOnA_0 : decode b_P_workOnA 0 = .ok (.aload_n 0, 1) := by decide +kernel
theorem d_P_workOnA_1 : decode b_P_workOnA 1 = .ok (.getfield 23, 3) := by decide +kernel
theorem d_P_workOnA_4 : decode b_P_workOnA 4 = .ok (.bipush 7, 2) := by decide +kernel
theorem d_P_workOnA_6 : decode b_P_workOnA 6 = .ok (.iaload, 1) := by decide +kernel
theorem d_P_workOnA_7 : decode b_P_workOnA 7 = .ok (.istore_n 2, 1) := by decide +kernel
theorem d_P_workOnA_8 : decode b_P_workOnA 8 = .ok (.iload_n 1, 1) := by decide +kernel
theorem d_P_workOnA_9 : decode b_P_workOnA 9 = .ok (.iconst 3, 1) := by decide +kernel
theorem d_P_workOnA_10 : decode b_P_workOnA 10 = .ok (.ishr, 1) := by decide +kernel
theorem d_P_workOnA_11 : decode b_P_workOnA 11 = .ok (.tableswitch 178 0 6 #[41, 63, 84, 109, 134, 152, 167], 41) := by decide +kernel
theorem d_P_workOnA_52 : decode b_P_workOnA 52 = .ok (.aload_n 0, 1) := by decide +kernel
theorem d_P_workOnA_53 : decode b_P_workOnA 53 = .ok (.getfield 23, 3) := by decide +kernel
theorem d_P_workOnA_56 : decode b_P_workOnA 56 = .ok (.bipush 7, 2) := by decide +kernel
theorem d_P_workOnA_58 : decode b_P_workOnA 58 = .ok (.aload_n 0, 1) := by decide +kernel
theorem d_P_workOnA_59 : decode b_P_workOnA 59 = .ok (.getfield 19, 3) := by decide +kernel
theorem d_P_workOnA_62 : decode b_P_workOnA 62 = .ok (.iload_n 2, 1) := by decide +kernel
theorem d_P_workOnA_63 : decode b_P_workOnA 63 = .ok (.iload_n 2, 1) := by decide +kernel
theorem d_P_workOnA_64 : decode b_P_workOnA 64 = .ok (.bipush 7, 2) := by decide +kernel
theorem d_P_workOnA_66 : decode b_P_workOnA 66 = .ok (.ishr, 1) := by decide +kernel
theorem d_P_workOnA_67 : decode b_P_workOnA 67 = .ok (.invokevirtual 224, 3) := by decide +kernel
theorem d_P_workOnA_70 : decode b_P_workOnA 70 = .ok (.iastore, 1) := by decide +kernel
theorem d_P_workOnA_71 : decode b_P_workOnA 71 = .ok (.goto 140, 3) := by decide +kernel
theorem d_P_workOnA_74 : decode b_P_workOnA 74 = .ok (.aload_n 0, 1) := by decide +kernel
theorem d_P_workOnA_75 : decode b_P_workOnA 75 = .ok (.getfield 23, 3) := by decide +kernel
theorem d_P_workOnA_78 : decode b_P_workOnA 78 = .ok (.bipush 7, 2) := by decide +kernel
theorem d_P_workOnA_80 : decode b_P_workOnA 80 = .ok (.aload_n 0, 1) := by decide +kernel
theorem d_P_workOnA_81 : decode b_P_workOnA 81 = .ok (.getfield 19, 3) := by decide +kernel
theorem d_P_workOnA_84 : decode b_P_workOnA 84 = .ok (.iload_n 2, 1) := by decide +kernel
theorem d_P_workOnA_85 : decode b_P_workOnA 85 = .ok (.iload_n 2, 1) := by decide +kernel
theorem d_P_workOnA_86 : decode b_P_workOnA 86 = .ok (.iconst 1, 1) := by decide +kernel
theorem d_P_workOnA_87 : decode b_P_workOnA 87 = .ok (.iand, 1) := by decide +kernel
theorem d_P_workOnA_88 : decode b_P_workOnA 88 = .ok (.invokevirtual 228, 3) := by decide +kernel
theorem d_P_workOnA_91 : decode b_P_workOnA 91 = .ok (.iastore, 1) := by decide +kernel
theorem d_P_workOnA_92 : decode b_P_workOnA 92 = .ok (.goto 119, 3) := by decide +kernel
theorem d_P_workOnA_95 : decode b_P_workOnA 95 = .ok (.aload_n 0, 1) := by decide +kernel
theorem d_P_workOnA_96 : decode b_P_workOnA 96 = .ok (.getfield 23, 3) := by decide +kernel
theorem d_P_workOnA_99 : decode b_P_workOnA 99 = .ok (.bipush 7, 2) := by decide +kernel
theorem d_P_workOnA_101 : decode b_P_workOnA 101 = .ok (.aload_n 0, 1) := by decide +kernel
theorem d_P_workOnA_102 : decode b_P_workOnA 102 = .ok (.getfield 19, 3) := by decide +kernel
theorem d_P_workOnA_105 : decode b_P_workOnA 105 = .ok (.iload_n 2, 1) := by decide +kernel
theorem d_P_workOnA_106 : decode b_P_workOnA 106 = .ok (.aload_n 0, 1) := by decide +kernel
theorem d_P_workOnA_107 : decode b_P_workOnA 107 = .ok (.getfield 19, 3) := by decide +kernel
theorem d_P_workOnA_110 : decode b_P_workOnA 110 = .ok (.invokevirtual 231, 3) := by decide +kernel
theorem d_P_workOnA_113 : decode b_P_workOnA 113 = .ok (.invokevirtual 224, 3) := by decide +kernel
theorem d_P_workOnA_116 : decode b_P_workOnA 116 = .ok (.iastore, 1) := by decide +kernel
theorem d_P_workOnA_117 : decode b_P_workOnA 117 = .ok (.goto 94, 3) := by decide +kernel
theorem d_P_workOnA_120 : decode b_P_workOnA 120 = .ok (.aload_n 0, 1) := by decide +kernel
theorem d_P_workOnA_121 : decode b_P_workOnA 121 = .ok (.getfield 23, 3) := by decide +kernel
theorem d_P_workOnA_124 : decode b_P_workOnA 124 = .ok (.bipush 7, 2) := by decide +kernel
theorem d_P_workOnA_126 : decode b_P_workOnA 126 = .ok (.aload_n 0, 1) := by decide +kernel
theorem d_P_workOnA_127 : decode b_P_workOnA 127 = .ok (.getfield 19, 3) := by decide +kernel
theorem d_P_workOnA_130 : decode b_P_workOnA 130 = .ok (.iload_n 2, 1) := by decide +kernel
theorem d_P_workOnA_131 : decode b_P_workOnA 131 = .ok (.aload_n 0, 1) := by decide +kernel
theorem d_P_workOnA_132 : decode b_P_workOnA 132 = .ok (.getfield 19, 3) := by decide +kernel
theorem d_P_workOnA_135 : decode b_P_workOnA 135 = .ok (.invokevirtual 231, 3) := by decide +kernel
theorem d_P_workOnA_138 : decode b_P_workOnA 138 = .ok (.invokevirtual 228, 3) := by decide +kernel
theorem d_P_workOnA_141 : decode b_P_workOnA 141 = .ok (.iastore, 1) := by decide +kernel
theorem d_P_workOnA_142 : decode b_P_workOnA 142 = .ok (.goto 69, 3) := by decide +kernel
theorem d_P_workOnA_145 : decode b_P_workOnA 145 = .ok (.aload_n 0, 1) := by decide +kernel
theorem d_P_workOnA_146 : decode b_P_workOnA 146 = .ok (.getfield 23, 3) := by decide +kernel
theorem d_P_workOnA_149 : decode b_P_workOnA 149 = .ok (.bipush 7, 2) := by decide +kernel
theorem d_P_workOnA_151 : decode b_P_workOnA 151 = .ok (.aload_n 0, 1) := by decide +kernel
theorem d_P_workOnA_152 : decode b_P_workOnA 152 = .ok (.getfield 19, 3) := by decide +kernel
theorem d_P_workOnA_155 : decode b_P_workOnA 155 = .ok (.iload_n 2, 1) := by decide +kernel
theorem d_P_workOnA_156 : decode b_P_workOnA 156 = .ok (.invokevirtual 234, 3) := by decide +kernel
theorem d_P_workOnA_159 : decode b_P_workOnA 159 = .ok (.iastore, 1) := by decide +kernel
theorem d_P_workOnA_160 : decode b_P_workOnA 160 = .ok (.goto 51, 3) := by decide +kernel
theorem d_P_workOnA_163 : decode b_P_workOnA 163 = .ok (.aload_n 0, 1) := by decide +kernel
theorem d_P_workOnA_164 : decode b_P_workOnA 164 = .ok (.getfield 23, 3) := by decide +kernel
theorem d_P_workOnA_167 : decode b_P_workOnA 167 = .ok (.bipush 7, 2) := by decide +kernel
theorem d_P_workOnA_169 : decode b_P_workOnA 169 = .ok (.sipush 255, 3) := by decide +kernel
theorem d_P_workOnA_172 : decode b_P_workOnA 172 = .ok (.iload_n 2, 1) := by decide +kernel
theorem d_P_workOnA_173 : decode b_P_workOnA 173 = .ok (.isub, 1) := by decide +kernel
theorem d_P_workOnA_174 : decode b_P_workOnA 174 = .ok (.iastore, 1) := by decide +kernel
theorem d_P_workOnA_175 : decode b_P_workOnA 175 = .ok (.goto 36, 3) := by decide +kernel
theorem d_P_workOnA_178 : decode b_P_workOnA 178 = .ok (.aload_n 0, 1) := by decide +kernel
theorem d_P_workOnA_179 : decode b_P_workOnA 179 = .ok (.getfield 19, 3) := by decide +kernel
theorem d_P_workOnA_182 : decode b_P_workOnA 182 = .ok (.iconst 1, 1) := by decide +kernel
theorem d_P_workOnA_183 : decode b_P_workOnA 183 = .ok (.invokevirtual 202, 3) := by decide +kernel
theorem d_P_workOnA_186 : decode b_P_workOnA 186 = .ok (.goto 25, 3) := by decide +kernel
theorem d_P_workOnA_189 : decode b_P_workOnA 189 = .ok (.aload_n 0, 1) := by decide +kernel
theorem d_P_workOnA_190 : decode b_P_workOnA 190 = .ok (.getfield 19, 3) := by decide +kernel
theorem d_P_workOnA_193 : decode b_P_workOnA 193 = .ok (.aload_n 0, 1) := by decide +kernel
theorem d_P_workOnA_194 : decode b_P_workOnA 194 = .ok (.getfield 19, 3) := by decide +kernel
theorem d_P_workOnA_197 : decode b_P_workOnA 197 = .ok (.invokevirtual 231, 3) := by decide +kernel
theorem d_P_workOnA_200 : decode b_P_workOnA 200 = .ok (.ifCond .ne 7, 3) := by decide +kernel
theorem d_P_workOnA_203 : decode b_P_workOnA 203 = .ok (.iconst 1, 1) := by decide +kernel
theorem d_P_workOnA_204 : decode b_P_workOnA 204 = .ok (.goto 4, 3) := by decide +kernel
theorem d_P_workOnA_207 : decode b_P_workOnA 207 = .ok (.iconst 0, 1) := by decide +kernel
theorem d_P_workOnA_208 : decode b_P_workOnA 208 = .ok (.invokevirtual 202, 3) := by decide +kernel
theorem d_P_workOnA_211 : decode b_P_workOnA 211 = .ok (.iconst 4, 1) := by decide +kernel
theorem d_P_workOnA_212 : decode b_P_workOnA 212 = .ok (.ireturn, 1) := by decide +kernel
theorem d_P_move_0 : decode b_P_move 0 = .ok (.iload_n 1, 1) := by decide +kernel
theorem d_P_move_1 : decode b_P_move 1 = .ok (.bipush 118, 2) := by decide +kernel
theorem d_P_move_3 : decode b_P_move 3 = .ok (.if_icmp .ne 11, 3) := by decide +kernel
theorem d_P_move_6 : decode b_P_move 6 = .ok (.aload_n 0, 1) := by decide +kernel
theorem d_P_move_7 : decode b_P_move 7 = .ok (.iconst 1, 1) := by decide +kernel
theorem d_P_move_8 : decode b_P_move 8 = .ok (.putfield 62, 3) := by decide +kernel
theorem d_P_move_11 : decode b_P_move 11 = .ok (.bipush 7, 2) := by decide +kernel
theorem d_P_move_13 : decode b_P_move 13 = .ok (.ireturn, 1) := by decide +kernel
theorem d_P_move_14 : decode b_P_move 14 = .ok (.iload_n 1, 1) := by decide +kernel
theorem d_P_move_15 : decode b_P_move 15 = .ok (.invokestatic 212, 3) := by decide +kernel
theorem d_P_move_18 : decode b_P_move 18 = .ok (.istore_n 2, 1) := by decide +kernel
theorem d_P_move_19 : decode b_P_move 19 = .ok (.iload_n 1, 1) := by decide +kernel
theorem d_P_move_20 : decode b_P_move 20 = .ok (.bipush 7, 2) := by decide +kernel
theorem d_P_move_22 : decode b_P_move 22 = .ok (.iand, 1) := by decide +kernel
theorem d_P_move_23 : decode b_P_move 23 = .ok (.istore_n 3, 1) := by decide +kernel
theorem d_P_move_24 : decode b_P_move 24 = .ok (.aload_n 0, 1) := by decide +kernel
theorem d_P_move_25 : decode b_P_move 25 = .ok (.iload_n 2, 1) := by decide +kernel
theorem d_P_move_26 : decode b_P_move 26 = .ok (.aload_n 0, 1) := by decide +kernel
theorem d_P_move_27 : decode b_P_move 27 = .ok (.iload_n 3, 1) := by decide +kernel
theorem d_P_move_28 : decode b_P_move 28 = .ok (.invokevirtual 91, 3) := by decide +kernel
theorem d_P_move_31 : decode b_P_move 31 = .ok (.invokevirtual 218, 3) := by decide +kernel
theorem d_P_move_34 : decode b_P_move 34 = .ok (.iload_n 2, 1) := by decide +kernel
theorem d_P_move_35 : decode b_P_move 35 = .ok (.bipush 6, 2) := by decide +kernel
theorem d_P_move_37 : decode b_P_move 37 = .ok (.if_icmp .eq 9, 3) := by decide +kernel
theorem d_P_move_40 : decode b_P_move 40 = .ok (.iload_n 3, 1) := by decide +kernel
theorem d_P_move_41 : decode b_P_move 41 = .ok (.bipush 6, 2) := by decide +kernel
theorem d_P_move_43 : decode b_P_move 43 = .ok (.if_icmp .ne 8, 3) := by decide +kernel
theorem d_P_move_46 : decode b_P_move 46 = .ok (.bipush 7, 2) := by decide +kernel
theorem d_P_move_48 : decode b_P_move 48 = .ok (.goto 4, 3) := by decide +kernel
theorem d_P_move_51 : decode b_P_move 51 = .ok (.iconst 5, 1) := by decide +kernel
theorem d_P_move_52 : decode b_P_move 52 = .ok (.ireturn, 1) := by decide +kernel
theorem d_P_combineWithRegister_0 : decode b_P_combineWithRegister 0 = .ok (.iload_n 1, 1) := by decide +kernel
theorem d_P_combineWithRegister_1 : decode b_P_combineWithRegister 1 = .ok (.bipush 7, 2) := by decide +kernel
theorem d_P_combineWithRegister_3 : decode b_P_combineWithRegister 3 = .ok (.iand, 1) := by decide +kernel
theorem d_P_combineWithRegister_4 : decode b_P_combineWithRegister 4 = .ok (.istore_n 2, 1) := by decide +kernel
theorem d_P_combineWithRegister_5 : decode b_P_combineWithRegister 5 = .ok (.aload_n 0, 1) := by decide +kernel
theorem d_P_combineWithRegister_6 : decode b_P_combineWithRegister 6 = .ok (.getfield 23, 3) := by decide +kernel
theorem d_P_combineWithRegister_9 : decode b_P_combineWithRegister 9 = .ok (.bipush 7, 2) := by decide +kernel
theorem d_P_combineWithRegister_11 : decode b_P_combineWithRegister 11 = .ok (.aload_n 0, 1) := by decide +kernel
theorem d_P_combineWithRegister_12 : decode b_P_combineWithRegister 12 = .ok (.getfield 19, 3) := by decide +kernel
theorem d_P_combineWithRegister_15 : decode b_P_combineWithRegister 15 = .ok (.iload_n 1, 1) := by decide +kernel
theorem d_P_combineWithRegister_16 : decode b_P_combineWithRegister 16 = .ok (.invokestatic 212, 3) := by decide +kernel
theorem d_P_combineWithRegister_19 : decode b_P_combineWithRegister 19 = .ok (.aload_n 0, 1) := by decide +kernel
theorem d_P_combineWithRegister_20 : decode b_P_combineWithRegister 20 = .ok (.getfield 23, 3) := by decide +kernel
theorem d_P_combineWithRegister_23 : decode b_P_combineWithRegister 23 = .ok (.bipush 7, 2) := by decide +kernel
theorem d_P_combineWithRegister_25 : decode b_P_combineWithRegister 25 = .ok (.iaload, 1) := by decide +kernel
theorem d_P_combineWithRegister_26 : decode b_P_combineWithRegister 26 = .ok (.aload_n 0, 1) := by decide +kernel
theorem d_P_combineWithRegister_27 : decode b_P_combineWithRegister 27 = .ok (.iload_n 2, 1) := by decide +kernel
theorem d_P_combineWithRegister_28 : decode b_P_combineWithRegister 28 = .ok (.invokevirtual 91, 3) := by decide +kernel
theorem d_P_combineWithRegister_31 : decode b_P_combineWithRegister 31 = .ok (.invokevirtual 237, 3) := by decide +kernel
theorem d_P_combineWithRegister_34 : decode b_P_combineWithRegister 34 = .ok (.iastore, 1) := by decide +kernel
theorem d_P_combineWithRegister_35 : decode b_P_combineWithRegister 35 = .ok (.iload_n 2, 1) := by decide +kernel
theorem d_P_combineWithRegister_36 : decode b_P_combineWithRegister 36 = .ok (.bipush 6, 2) := by decide +kernel
theorem d_P_combineWithRegister_38 : decode b_P_combineWithRegister 38 = .ok (.if_icmp .ne 8, 3) := by decide +kernel
theorem d_P_combineWithRegister_41 : decode b_P_combineWithRegister 41 = .ok (.bipush 7, 2) := by decide +kernel
theorem d_P_combineWithRegister_43 : decode b_P_combineWithRegister 43 = .ok (.goto 4, 3) := by decide +kernel
theorem d_P_combineWithRegister_46 : decode b_P_combineWithRegister 46 = .ok (.iconst 4, 1) := by decide +kernel
theorem d_P_combineWithRegister_47 : decode b_P_combineWithRegister 47 = .ok (.ireturn, 1) := by decide +kernel
theorem d_P_combineWithNext_0 : decode b_P_combineWithNext 0 = .ok (.aload_n 0, 1) := by decide +kernel
theorem d_P_combineWithNext_1 : decode b_P_combineWithNext 1 = .ok (.getfield 23, 3) := by decide +kernel
theorem d_P_combineWithNext_4 : decode b_P_combineWithNext 4 = .ok (.bipush 7, 2) := by decide +kernel
theorem d_P_combineWithNext_6 : decode b_P_combineWithNext 6 = .ok (.aload_n 0, 1) := by decide +kernel

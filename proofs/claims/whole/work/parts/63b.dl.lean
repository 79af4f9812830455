theorem d_L_load_0 : decode b_L_load 0 = .ok (.aload_n 0, 1) := by decide +kernel
theorem d_L_load_1 : decode b_L_load 1 = .ok (.iload_n 1, 1) := by decide +kernel
theorem d_L_load_2 : decode b_L_load 2 = .ok (.lload_n 2, 1) := by decide +kernel
theorem d_L_load_3 : decode b_L_load 3 = .ok (.iload 4, 2) := by decide +kernel
theorem d_L_load_5 : decode b_L_load 5 = .ok (.invokevirtual 7, 3) := by decide +kernel
theorem d_L_load_8 : decode b_L_load 8 = .ok (.goto 7, 3) := by decide +kernel
theorem d_L_load_11 : decode b_L_load 11 = .ok (.astore 5, 2) := by decide +kernel
theorem d_L_load_13 : decode b_L_load 13 = .ok (.iconst 1, 1) := by decide +kernel
theorem d_L_load_14 : decode b_L_load 14 = .ok (.ireturn, 1) := by decide +kernel
theorem d_L_load_15 : decode b_L_load 15 = .ok (.iconst 0, 1) := by decide +kernel
theorem d_L_load_16 : decode b_L_load 16 = .ok (.ireturn, 1) := by decide +kernel
theorem d_L_peek_0 : decode b_L_peek 0 = .ok (.aload_n 2, 1) := by decide +kernel
theorem d_L_peek_1 : decode b_L_peek 1 = .ok (.iconst 0, 1) := by decide +kernel
theorem d_L_peek_2 : decode b_L_peek 2 = .ok (.aload_n 0, 1) := by decide +kernel
theorem d_L_peek_3 : decode b_L_peek 3 = .ok (.iload_n 1, 1) := by decide +kernel
theorem d_L_peek_4 : decode b_L_peek 4 = .ok (.invokevirtual 15, 3) := by decide +kernel
theorem d_L_peek_7 : decode b_L_peek 7 = .ok (.i2l, 1) := by decide +kernel
theorem d_L_peek_8 : decode b_L_peek 8 = .ok (.lastore, 1) := by decide +kernel
theorem d_L_peek_9 : decode b_L_peek 9 = .ok (.goto 6, 3) := by decide +kernel
theorem d_L_peek_12 : decode b_L_peek 12 = .ok (.astore_n 3, 1) := by decide +kernel
theorem d_L_peek_13 : decode b_L_peek 13 = .ok (.iconst 1, 1) := by decide +kernel
theorem d_L_peek_14 : decode b_L_peek 14 = .ok (.ireturn, 1) := by decide +kernel
theorem d_L_peek_15 : decode b_L_peek 15 = .ok (.iconst 0, 1) := by decide +kernel
theorem d_L_peek_16 : decode b_L_peek 16 = .ok (.ireturn, 1) := by decide +kernel
theorem d_L_start_0 : decode b_L_start 0 = .ok (.aload_n 0, 1) := by decide +kernel
theorem d_L_start_1 : decode b_L_start 1 = .ok (.iload_n 1, 1) := by decide +kernel
theorem d_L_start_2 : decode b_L_start 2 = .ok (.invokevirtual 19, 3) := by decide +kernel
theorem d_L_start_5 : decode b_L_start 5 = .ok (.goto 6, 3) := by decide +kernel
theorem d_L_start_8 : decode b_L_start 8 = .ok (.astore_n 2, 1) := by decide +kernel
theorem d_L_start_9 : decode b_L_start 9 = .ok (.iconst 1, 1) := by decide +kernel
theorem d_L_start_10 : decode b_L_start 10 = .ok (.ireturn, 1) := by decide +kernel
theorem d_L_start_11 : decode b_L_start 11 = .ok (.iconst 0, 1) := by decide +kernel
theorem d_L_start_12 : decode b_L_start 12 = .ok (.ireturn, 1) := by decide +kernel
theorem d_L_run_0 : decode b_L_run 0 = .ok (.aload_n 2, 1) := by decide +kernel
theorem d_L_run_1 : decode b_L_run 1 = .ok (.iconst 0, 1) := by decide +kernel
theorem d_L_run_2 : decode b_L_run 2 = .ok (.aload_n 0, 1) := by decide +kernel
theorem d_L_run_3 : decode b_L_run 3 = .ok (.iload_n 1, 1) := by decide +kernel
theorem d_L_run_4 : decode b_L_run 4 = .ok (.invokevirtual 23, 3) := by decide +kernel
theorem d_L_run_7 : decode b_L_run 7 = .ok (.i2l, 1) := by decide +kernel
theorem d_L_run_8 : decode b_L_run 8 = .ok (.lastore, 1) := by decide +kernel
theorem d_L_run_9 : decode b_L_run 9 = .ok (.goto 6, 3) := by decide +kernel
theorem d_L_run_12 : decode b_L_run 12 = .ok (.astore_n 3, 1) := by decide +kernel
theorem d_L_run_13 : decode b_L_run 13 = .ok (.iconst 1, 1) := by decide +kernel
theorem d_L_run_14 : decode b_L_run 14 = .ok (.ireturn, 1) := by decide +kernel
theorem d_L_run_15 : decode b_L_run 15 = .ok (.iconst 0, 1) := by decide +kernel
theorem d_L_run_16 : decode b_L_run 16 = .ok (.ireturn, 1) := by decide +kernel
theorem d_L_interrupt_0 : decode b_L_interrupt 0 = .ok (.aload_n 0, 1) := by decide +kernel
theorem d_L_interrupt_1 : decode b_L_interrupt 1 = .ok (.iload_n 1, 1) := by decide +kernel
theorem d_L_interrupt_2 : decode b_L_interrupt 2 = .ok (.invokevirtual 26, 3) := by decide +kernel
theorem d_L_interrupt_5 : decode b_L_interrupt 5 = .ok (.goto 6, 3) := by decide +kernel
theorem d_L_interrupt_8 : decode b_L_interrupt 8 = .ok (.astore_n 2, 1) := by decide +kernel
theorem d_L_interrupt_9 : decode b_L_interrupt 9 = .ok (.iconst 1, 1) := by decide +kernel
theorem d_L_interrupt_10 : decode b_L_interrupt 10 = .ok (.ireturn, 1) := by decide +kernel
theorem d_L_interrupt_11 : decode b_L_interrupt 11 = .ok (.iconst 0, 1) := by decide +kernel
theorem d_L_interrupt_12 : decode b_L_interrupt 12 = .ok (.ireturn, 1) := by decide +kernel
theorem d_L_bring_0 : decode b_L_bring 0 = .ok (.aload_n 0, 1) := by decide +kernel
theorem d_L_bring_1 : decode b_L_bring 1 = .ok (.iload_n 1, 1) := by decide +kernel
theorem d_L_bring_2 : decode b_L_bring 2 = .ok (.iload_n 2, 1) := by decide +kernel
theorem d_L_bring_3 : decode b_L_bring 3 = .ok (.invokevirtual 29, 3) := by decide +kernel
theorem d_L_bring_6 : decode b_L_bring 6 = .ok (.goto 6, 3) := by decide +kernel
theorem d_L_bring_9 : decode b_L_bring 9 = .ok (.astore_n 3, 1) := by decide +kernel
theorem d_L_bring_10 : decode b_L_bring 10 = .ok (.iconst 1, 1) := by decide +kernel
theorem d_L_bring_11 : decode b_L_bring 11 = .ok (.ireturn, 1) := by decide +kernel
theorem d_L_bring_12 : decode b_L_bring 12 = .ok (.iconst 0, 1) := by decide +kernel
theorem d_L_bring_13 : decode b_L_bring 13 = .ok (.ireturn, 1) := by decide +kernel
theorem d_L_out_0 : decode b_L_out 0 = .ok (.aload_n 2, 1) := by decide +kernel
theorem d_L_out_1 : decode b_L_out 1 = .ok (.iconst 0, 1) := by decide +kernel
theorem d_L_out_2 : decode b_L_out 2 = .ok (.aload_n 0, 1) := by decide +kernel
theorem d_L_out_3 : decode b_L_out 3 = .ok (.iload_n 1, 1) := by decide +kernel
theorem d_L_out_4 : decode b_L_out 4 = .ok (.invokevirtual 33, 3) := by decide +kernel
theorem d_L_out_7 : decode b_L_out 7 = .ok (.i2l, 1) := by decide +kernel
theorem d_L_out_8 : decode b_L_out 8 = .ok (.lastore, 1) := by decide +kernel
theorem d_L_out_9 : decode b_L_out 9 = .ok (.goto 6, 3) := by decide +kernel
theorem d_L_out_12 : decode b_L_out 12 = .ok (.astore_n 3, 1) := by decide +kernel
theorem d_L_out_13 : decode b_L_out 13 = .ok (.iconst 1, 1) := by decide +kernel
theorem d_L_out_14 : decode b_L_out 14 = .ok (.ireturn, 1) := by decide +kernel
theorem d_L_out_15 : decode b_L_out 15 = .ok (.iconst 0, 1) := by decide +kernel
theorem d_L_out_16 : decode b_L_out 16 = .ok (.ireturn, 1) := by decide +kernel
theorem d_L_register_0 : decode b_L_register 0 = .ok (.aload_n 2, 1) := by decide +kernel
theorem d_L_register_1 : decode b_L_register 1 = .ok (.iconst 0, 1) := by decide +kernel
theorem d_L_register_2 : decode b_L_register 2 = .ok (.aload_n 0, 1) := by decide +kernel
theorem d_L_register_3 : decode b_L_register 3 = .ok (.iload_n 1, 1) := by decide +kernel
theorem d_L_register_4 : decode b_L_register 4 = .ok (.invokevirtual 36, 3) := by decide +kernel
theorem d_L_register_7 : decode b_L_register 7 = .ok (.i2l, 1) := by decide +kernel
theorem d_L_register_8 : decode b_L_register 8 = .ok (.lastore, 1) := by decide +kernel
theorem d_L_register_9 : decode b_L_register 9 = .ok (.goto 6, 3) := by decide +kernel
theorem d_L_register_12 : decode b_L_register 12 = .ok (.astore_n 3, 1) := by decide +kernel
theorem d_L_register_13 : decode b_L_register 13 = .ok (.iconst 1, 1) := by decide +kernel
theorem d_L_register_14 : decode b_L_register 14 = .ok (.ireturn, 1) := by decide +kernel
theorem d_L_register_15 : decode b_L_register 15 = .ok (.iconst 0, 1) := by decide +kernel
theorem d_L_register_16 : decode b_L_register 16 = .ok (.ireturn, 1) := by decide +kernel
theorem d_L_set_0 : decode b_L_set 0 = .ok (.aload_n 0, 1) := by decide +kernel
theorem d_L_set_1 : decode b_L_set 1 = .ok (.iload_n 1, 1) := by decide +kernel
theorem d_L_set_2 : decode b_L_set 2 = .ok (.iload_n 2, 1) := by decide +kernel
theorem d_L_set_3 : decode b_L_set 3 = .ok (.invokevirtual 39, 3) := by decide +kernel
theorem d_L_set_6 : decode b_L_set 6 = .ok (.goto 6, 3) := by decide +kernel
theorem d_L_set_9 : decode b_L_set 9 = .ok (.astore_n 3, 1) := by decide +kernel
theorem d_L_set_10 : decode b_L_set 10 = .ok (.iconst 1, 1) := by decide +kernel
theorem d_L_set_11 : decode b_L_set 11 = .ok (.ireturn, 1) := by decide +kernel
theorem d_L_set_12 : decode b_L_set 12 = .ok (.iconst 0, 1) := by decide +kernel
theorem d_L_set_13 : decode b_L_set 13 = .ok (.ireturn, 1) := by decide +kernel
theorem d_L_is_0 : decode b_L_is 0 = .ok (.aload_n 2, 1) := by decide +kernel
theorem d_L_is_1 : decode b_L_is 1 = .ok (.iconst 0, 1) := by decide +kernel
theorem d_L_is_2 : decode b_L_is 2 = .ok (.aload_n 0, 1) := by decide +kernel
theorem d_L_is_3 : decode b_L_is 3 = .ok (.iload_n 1, 1) := by decide +kernel
theorem d_L_is_4 : decode b_L_is 4 = .ok (.invokevirtual 42, 3) := by decide +kernel
theorem d_L_is_7 : decode b_L_is 7 = .ok (.ifCond .eq 7, 3) := by decide +kernel
theorem d_L_is_10 : decode b_L_is 10 = .ok (.lconst 1, 1) := by decide +kernel
theorem d_L_is_11 : decode b_L_is 11 = .ok (.goto 4, 3) := by decide +kernel
theorem d_L_is_14 : decode b_L_is 14 = .ok (.lconst 0, 1) := by decide +kernel
theorem d_L_is_15 : decode b_L_is 15 = .ok (.lastore, 1) := by decide +kernel
theorem d_L_is_16 : decode b_L_is 16 = .ok (.goto 6, 3) := by decide +kernel
theorem d_L_is_19 : decode b_L_is 19 = .ok (.astore_n 3, 1) := by decide +kernel
theorem d_L_is_20 : decode b_L_is 20 = .ok (.iconst 1, 1) := by decide +kernel
theorem d_L_is_21 : decode b_L_is 21 = .ok (.ireturn, 1) := by decide +kernel
theorem d_L_is_22 : decode b_L_is 22 = .ok (.iconst 0, 1) := by decide +kernel
theorem d_L_is_23 : decode b_L_is 23 = .ok (.ireturn, 1) := by decide +kernel

theorem d_R_init_0 : decode b_R_init 0 = .ok (.aload_n 0, 1) := by decide +kernel
theorem d_R_init_1 : decode b_R_init 1 = .ok (.invokespecial 1, 3) := by decide +kernel
theorem d_R_init_4 : decode b_R_init 4 = .ok (.aload_n 0, 1) := by decide +kernel
theorem d_R_init_5 : decode b_R_init 5 = .ok (.sipush 1024, 3) := by decide +kernel
theorem d_R_init_8 : decode b_R_init 8 = .ok (.newarray .int, 2) := by decide +kernel
theorem d_R_init_10 : decode b_R_init 10 = .ok (.putfield 7, 3) := by decide +kernel
theorem d_R_init_13 : decode b_R_init 13 = .ok (.aload_n 0, 1) := by decide +kernel
theorem d_R_init_14 : decode b_R_init 14 = .ok (.bipush 8, 2) := by decide +kernel
theorem d_R_init_16 : decode b_R_init 16 = .ok (.newarray .int, 2) := by decide +kernel
theorem d_R_init_18 : decode b_R_init 18 = .ok (.putfield 13, 3) := by decide +kernel
theorem d_R_init_21 : decode b_R_init 21 = .ok (.aload_n 0, 1) := by decide +kernel
theorem d_R_init_22 : decode b_R_init 22 = .ok (.iconst (-1), 1) := by decide +kernel
theorem d_R_init_23 : decode b_R_init 23 = .ok (.putfield 16, 3) := by decide +kernel
theorem d_R_init_26 : decode b_R_init 26 = .ok (.aload_n 0, 1) := by decide +kernel
theorem d_R_init_27 : decode b_R_init 27 = .ok (.sipush 256, 3) := by decide +kernel
theorem d_R_init_30 : decode b_R_init 30 = .ok (.newarray .int, 2) := by decide +kernel
theorem d_R_init_32 : decode b_R_init 32 = .ok (.putfield 20, 3) := by decide +kernel
theorem d_R_init_35 : decode b_R_init 35 = .ok (.aload_n 0, 1) := by decide +kernel
theorem d_R_init_36 : decode b_R_init 36 = .ok (.sipush 256, 3) := by decide +kernel
theorem d_R_init_39 : decode b_R_init 39 = .ok (.newarray .int, 2) := by decide +kernel
theorem d_R_init_41 : decode b_R_init 41 = .ok (.putfield 23, 3) := by decide +kernel
theorem d_R_init_44 : decode b_R_init 44 = .ok (.return_, 1) := by decide +kernel
theorem d_R_thrown_0 : decode b_R_thrown 0 = .ok (.aload_n 0, 1) := by decide +kernel
theorem d_R_thrown_1 : decode b_R_thrown 1 = .ok (.getfield 26, 3) := by decide +kernel
theorem d_R_thrown_4 : decode b_R_thrown 4 = .ok (.ireturn, 1) := by decide +kernel
theorem d_R_outside_0 : decode b_R_outside 0 = .ok (.iload_n 0, 1) := by decide +kernel
theorem d_R_outside_1 : decode b_R_outside 1 = .ok (.ifCond .lt 8, 3) := by decide +kernel
theorem d_R_outside_4 : decode b_R_outside 4 = .ok (.iload_n 0, 1) := by decide +kernel
theorem d_R_outside_5 : decode b_R_outside 5 = .ok (.iload_n 1, 1) := by decide +kernel
theorem d_R_outside_6 : decode b_R_outside 6 = .ok (.if_icmp .lt 7, 3) := by decide +kernel
theorem d_R_outside_9 : decode b_R_outside 9 = .ok (.iconst 1, 1) := by decide +kernel
theorem d_R_outside_10 : decode b_R_outside 10 = .ok (.goto 4, 3) := by decide +kernel
theorem d_R_outside_13 : decode b_R_outside 13 = .ok (.iconst 0, 1) := by decide +kernel
theorem d_R_outside_14 : decode b_R_outside 14 = .ok (.ireturn, 1) := by decide +kernel
theorem d_R_read_0 : decode b_R_read 0 = .ok (.iload_n 1, 1) := by decide +kernel
theorem d_R_read_1 : decode b_R_read 1 = .ok (.sipush 1024, 3) := by decide +kernel
theorem d_R_read_4 : decode b_R_read 4 = .ok (.if_icmp .ge 12, 3) := by decide +kernel
theorem d_R_read_7 : decode b_R_read 7 = .ok (.aload_n 0, 1) := by decide +kernel
theorem d_R_read_8 : decode b_R_read 8 = .ok (.getfield 7, 3) := by decide +kernel
theorem d_R_read_11 : decode b_R_read 11 = .ok (.iload_n 1, 1) := by decide +kernel
theorem d_R_read_12 : decode b_R_read 12 = .ok (.iaload, 1) := by decide +kernel
theorem d_R_read_13 : decode b_R_read 13 = .ok (.goto 6, 3) := by decide +kernel
theorem d_R_read_16 : decode b_R_read 16 = .ok (.sipush 255, 3) := by decide +kernel
theorem d_R_read_19 : decode b_R_read 19 = .ok (.ireturn, 1) := by decide +kernel
theorem d_R_write_0 : decode b_R_write 0 = .ok (.iload_n 1, 1) := by decide +kernel
theorem d_R_write_1 : decode b_R_write 1 = .ok (.sipush 1024, 3) := by decide +kernel
theorem d_R_write_4 : decode b_R_write 4 = .ok (.if_icmp .ge 14, 3) := by decide +kernel
theorem d_R_write_7 : decode b_R_write 7 = .ok (.aload_n 0, 1) := by decide +kernel
theorem d_R_write_8 : decode b_R_write 8 = .ok (.getfield 7, 3) := by decide +kernel
theorem d_R_write_11 : decode b_R_write 11 = .ok (.iload_n 1, 1) := by decide +kernel
theorem d_R_write_12 : decode b_R_write 12 = .ok (.iload_n 2, 1) := by decide +kernel
theorem d_R_write_13 : decode b_R_write 13 = .ok (.sipush 256, 3) := by decide +kernel
theorem d_R_write_16 : decode b_R_write 16 = .ok (.irem, 1) := by decide +kernel
theorem d_R_write_17 : decode b_R_write 17 = .ok (.iastore, 1) := by decide +kernel
theorem d_R_write_18 : decode b_R_write 18 = .ok (.return_, 1) := by decide +kernel
theorem d_R_hl_0 : decode b_R_hl 0 = .ok (.sipush 256, 3) := by decide +kernel
theorem d_R_hl_3 : decode b_R_hl 3 = .ok (.aload_n 0, 1) := by decide +kernel
theorem d_R_hl_4 : decode b_R_hl 4 = .ok (.getfield 13, 3) := by decide +kernel
theorem d_R_hl_7 : decode b_R_hl 7 = .ok (.iconst 4, 1) := by decide +kernel
theorem d_R_hl_8 : decode b_R_hl 8 = .ok (.iaload, 1) := by decide +kernel
theorem d_R_hl_9 : decode b_R_hl 9 = .ok (.imul, 1) := by decide +kernel
theorem d_R_hl_10 : decode b_R_hl 10 = .ok (.aload_n 0, 1) := by decide +kernel
theorem d_R_hl_11 : decode b_R_hl 11 = .ok (.getfield 13, 3) := by decide +kernel
theorem d_R_hl_14 : decode b_R_hl 14 = .ok (.iconst 5, 1) := by decide +kernel
theorem d_R_hl_15 : decode b_R_hl 15 = .ok (.iaload, 1) := by decide +kernel
theorem d_R_hl_16 : decode b_R_hl 16 = .ok (.iadd, 1) := by decide +kernel
theorem d_R_hl_17 : decode b_R_hl 17 = .ok (.ireturn, 1) := by decide +kernel
theorem d_R_get_0 : decode b_R_get 0 = .ok (.iload_n 1, 1) := by decide +kernel
theorem d_R_get_1 : decode b_R_get 1 = .ok (.bipush 6, 2) := by decide +kernel
theorem d_R_get_3 : decode b_R_get 3 = .ok (.if_icmp .ne 14, 3) := by decide +kernel
theorem d_R_get_6 : decode b_R_get 6 = .ok (.aload_n 0, 1) := by decide +kernel
theorem d_R_get_7 : decode b_R_get 7 = .ok (.aload_n 0, 1) := by decide +kernel
theorem d_R_get_8 : decode b_R_get 8 = .ok (.invokevirtual 29, 3) := by decide +kernel
theorem d_R_get_11 : decode b_R_get 11 = .ok (.invokevirtual 33, 3) := by decide +kernel
theorem d_R_get_14 : decode b_R_get 14 = .ok (.goto 9, 3) := by decide +kernel
theorem d_R_get_17 : decode b_R_get 17 = .ok (.aload_n 0, 1) := by decide +kernel
theorem d_R_get_18 : decode b_R_get 18 = .ok (.getfield 13, 3) := by decide +kernel
theorem d_R_get_21 : decode b_R_get 21 = .ok (.iload_n 1, 1) := by decide +kernel
theorem d_R_get_22 : decode b_R_get 22 = .ok (.iaload, 1) := by decide +kernel
theorem d_R_get_23 : decode b_R_get 23 = .ok (.ireturn, 1) := by decide +kernel
theorem d_R_set8_0 : decode b_R_set8 0 = .ok (.iload_n 1, 1) := by decide +kernel
theorem d_R_set8_1 : decode b_R_set8 1 = .ok (.bipush 6, 2) := by decide +kernel
theorem d_R_set8_3 : decode b_R_set8 3 = .ok (.if_icmp .ne 15, 3) := by decide +kernel
theorem d_R_set8_6 : decode b_R_set8 6 = .ok (.aload_n 0, 1) := by decide +kernel
theorem d_R_set8_7 : decode b_R_set8 7 = .ok (.aload_n 0, 1) := by decide +kernel
theorem d_R_set8_8 : decode b_R_set8 8 = .ok (.invokevirtual 29, 3) := by decide +kernel
theorem d_R_set8_11 : decode b_R_set8 11 = .ok (.iload_n 2, 1) := by decide +kernel
theorem d_R_set8_12 : decode b_R_set8 12 = .ok (.invokevirtual 37, 3) := by decide +kernel
theorem d_R_set8_15 : decode b_R_set8 15 = .ok (.goto 10, 3) := by decide +kernel
theorem d_R_set8_18 : decode b_R_set8 18 = .ok (.aload_n 0, 1) := by decide +kernel
theorem d_R_set8_19 : decode b_R_set8 19 = .ok (.getfield 13, 3) := by decide +kernel
theorem d_R_set8_22 : decode b_R_set8 22 = .ok (.iload_n 1, 1) := by decide +kernel
theorem d_R_set8_23 : decode b_R_set8 23 = .ok (.iload_n 2, 1) := by decide +kernel
theorem d_R_set8_24 : decode b_R_set8 24 = .ok (.iastore, 1) := by decide +kernel
theorem d_R_set8_25 : decode b_R_set8 25 = .ok (.return_, 1) := by decide +kernel
theorem d_R_pair_0 : decode b_R_pair 0 = .ok (.iload_n 1, 1) := by decide +kernel
theorem d_R_pair_1 : decode b_R_pair 1 = .ok (.iconst 3, 1) := by decide +kernel
theorem d_R_pair_2 : decode b_R_pair 2 = .ok (.if_icmp .ne 10, 3) := by decide +kernel
theorem d_R_pair_5 : decode b_R_pair 5 = .ok (.aload_n 0, 1) := by decide +kernel
theorem d_R_pair_6 : decode b_R_pair 6 = .ok (.getfield 41, 3) := by decide +kernel
theorem d_R_pair_9 : decode b_R_pair 9 = .ok (.goto 26, 3) := by decide +kernel
theorem d_R_pair_12 : decode b_R_pair 12 = .ok (.sipush 256, 3) := by decide +kernel
theorem d_R_pair_15 : decode b_R_pair 15 = .ok (.aload_n 0, 1) := by decide +kernel
theorem d_R_pair_16 : decode b_R_pair 16 = .ok (.getfield 13, 3) := by decide +kernel
theorem d_R_pair_19 : decode b_R_pair 19 = .ok (.iconst 2, 1) := by decide +kernel
theorem d_R_pair_20 : decode b_R_pair 20 = .ok (.iload_n 1, 1) := by decide +kernel
theorem d_R_pair_21 : decode b_R_pair 21 = .ok (.imul, 1) := by decide +kernel
theorem d_R_pair_22 : decode b_R_pair 22 = .ok (.iaload, 1) := by decide +kernel
theorem d_R_pair_23 : decode b_R_pair 23 = .ok (.imul, 1) := by decide +kernel
theorem d_R_pair_24 : decode b_R_pair 24 = .ok (.aload_n 0, 1) := by decide +kernel
theorem d_R_pair_25 : decode b_R_pair 25 = .ok (.getfield 13, 3) := by decide +kernel
theorem d_R_pair_28 : decode b_R_pair 28 = .ok (.iconst 2, 1) := by decide +kernel
theorem d_R_pair_29 : decode b_R_pair 29 = .ok (.iload_n 1, 1) := by decide +kernel
theorem d_R_pair_30 : decode b_R_pair 30 = .ok (.imul, 1) := by decide +kernel
theorem d_R_pair_31 : decode b_R_pair 31 = .ok (.iconst 1, 1) := by decide +kernel
theorem d_R_pair_32 : decode b_R_pair 32 = .ok (.iadd, 1) := by decide +kernel
theorem d_R_pair_33 : decode b_R_pair 33 = .ok (.iaload, 1) := by decide +kernel
theorem d_R_pair_34 : decode b_R_pair 34 = .ok (.iadd, 1) := by decide +kernel
theorem d_R_pair_35 : decode b_R_pair 35 = .ok (.ireturn, 1) := by decide +kernel
theorem d_R_setPair_0 : decode b_R_setPair 0 = .ok (.iload_n 2, 1) := by decide +kernel
theorem d_R_setPair_1 : decode b_R_setPair 1 = .ok (.ldc 44, 2) := by decide +kernel
theorem d_R_setPair_3 : decode b_R_setPair 3 = .ok (.iand, 1) := by decide +kernel
theorem d_R_setPair_4 : decode b_R_setPair 4 = .ok (.istore_n 3, 1) := by decide +kernel
theorem d_R_setPair_5 : decode b_R_setPair 5 = .ok (.iload_n 1, 1) := by decide +kernel
theorem d_R_setPair_6 : decode b_R_setPair 6 = .ok (.iconst 3, 1) := by decide +kernel
theorem d_R_setPair_7 : decode b_R_setPair 7 = .ok (.if_icmp .ne 11, 3) := by decide +kernel
theorem d_R_setPair_10 : decode b_R_setPair 10 = .ok (.aload_n 0, 1) := by decide +kernel
theorem d_R_setPair_11 : decode b_R_setPair 11 = .ok (.iload_n 3, 1) := by decide +kernel
theorem d_R_setPair_12 : decode b_R_setPair 12 = .ok (.putfield 41, 3) := by decide +kernel
theorem d_R_setPair_15 : decode b_R_setPair 15 = .ok (.goto 31, 3) := by decide +kernel
theorem d_R_setPair_18 : decode b_R_setPair 18 = .ok (.aload_n 0, 1) := by decide +kernel
theorem d_R_setPair_19 : decode b_R_setPair 19 = .ok (.getfield 13, 3) := by decide +kernel
theorem d_R_setPair_22 : decode b_R_setPair 22 = .ok (.iconst 2, 1) := by decide +kernel
theorem d_R_setPair_23 : decode b_R_setPair 23 = .ok (.iload_n 1, 1) := by decide +kernel
theorem d_R_setPair_24 : decode b_R_setPair 24 = .ok (.imul, 1) := by decide +kernel
theorem d_R_setPair_25 : decode b_R_setPair 25 = .ok (.iload_n 3, 1) := by decide +kernel
theorem d_R_setPair_26 : decode b_R_setPair 26 = .ok (.sipush 256, 3) := by decide +kernel
theorem d_R_setPair_29 : decode b_R_setPair 29 = .ok (.idiv, 1) := by decide +kernel
theorem d_R_setPair_30 : decode b_R_setPair 30 = .ok (.iastore, 1) := by decide +kernel
theorem d_R_setPair_31 : decode b_R_setPair 31 = .ok (.aload_n 0, 1) := by decide +kernel
theorem d_R_setPair_32 : decode b_R_setPair 32 = .ok (.getfield 13, 3) := by decide +kernel
theorem d_R_setPair_35 : decode b_R_setPair 35 = .ok (.iconst 2, 1) := by decide +kernel
theorem d_R_setPair_36 : decode b_R_setPair 36 = .ok (.iload_n 1, 1) := by decide +kernel
theorem d_R_setPair_37 : decode b_R_setPair 37 = .ok (.imul, 1) := by decide +kernel
theorem d_R_setPair_38 : decode b_R_setPair 38 = .ok (.iconst 1, 1) := by decide +kernel
theorem d_R_setPair_39 : decode b_R_setPair 39 = .ok (.iadd, 1) := by decide +kernel
theorem d_R_setPair_40 : decode b_R_setPair 40 = .ok (.iload_n 3, 1) := by decide +kernel
theorem d_R_setPair_41 : decode b_R_setPair 41 = .ok (.sipush 256, 3) := by decide +kernel
theorem d_R_setPair_44 : decode b_R_setPair 44 = .ok (.irem, 1) := by decide +kernel
theorem d_R_setPair_45 : decode b_R_setPair 45 = .ok (.iastore, 1) := by decide +kernel
theorem d_R_setPair_46 : decode b_R_setPair 46 = .ok (.return_, 1) := by decide +kernel
theorem d_R_next_0 : decode b_R_next 0 = .ok (.aload_n 0, 1) := by decide +kernel
theorem d_R_next_1 : decode b_R_next 1 = .ok (.aload_n 0, 1) := by decide +kernel
theorem d_R_next_2 : decode b_R_next 2 = .ok (.getfield 45, 3) := by decide +kernel
theorem d_R_next_5 : decode b_R_next 5 = .ok (.invokevirtual 33, 3) := by decide +kernel
theorem d_R_next_8 : decode b_R_next 8 = .ok (.istore_n 1, 1) := by decide +kernel
theorem d_R_next_9 : decode b_R_next 9 = .ok (.aload_n 0, 1) := by decide +kernel
theorem d_R_next_10 : decode b_R_next 10 = .ok (.aload_n 0, 1) := by decide +kernel
theorem d_R_next_11 : decode b_R_next 11 = .ok (.getfield 45, 3) := by decide +kernel
theorem d_R_next_14 : decode b_R_next 14 = .ok (.iconst 1, 1) := by decide +kernel
theorem d_R_next_15 : decode b_R_next 15 = .ok (.iadd, 1) := by decide +kernel
theorem d_R_next_16 : decode b_R_next 16 = .ok (.ldc 48, 2) := by decide +kernel
theorem d_R_next_18 : decode b_R_next 18 = .ok (.irem, 1) := by decide +kernel
theorem d_R_next_19 : decode b_R_next 19 = .ok (.putfield 45, 3) := by decide +kernel
theorem d_R_next_22 : decode b_R_next 22 = .ok (.iload_n 1, 1) := by decide +kernel
theorem d_R_next_23 : decode b_R_next 23 = .ok (.ireturn, 1) := by decide +kernel
theorem d_R_nextWord_0 : decode b_R_nextWord 0 = .ok (.aload_n 0, 1) := by decide +kernel
theorem d_R_nextWord_1 : decode b_R_nextWord 1 = .ok (.invokevirtual 49, 3) := by decide +kernel
theorem d_R_nextWord_4 : decode b_R_nextWord 4 = .ok (.istore_n 1, 1) := by decide +kernel
theorem d_R_nextWord_5 : decode b_R_nextWord 5 = .ok (.iload_n 1, 1) := by decide +kernel
theorem d_R_nextWord_6 : decode b_R_nextWord 6 = .ok (.sipush 256, 3) := by decide +kernel
theorem d_R_nextWord_9 : decode b_R_nextWord 9 = .ok (.aload_n 0, 1) := by decide +kernel
theorem d_R_nextWord_10 : decode b_R_nextWord 10 = .ok (.invokevirtual 49, 3) := by decide +kernel
theorem d_R_nextWord_13 : decode b_R_nextWord 13 = .ok (.imul, 1) := by decide +kernel
theorem d_R_nextWord_14 : decode b_R_nextWord 14 = .ok (.iadd, 1) := by decide +kernel
theorem d_R_nextWord_15 : decode b_R_nextWord 15 = .ok (.ireturn, 1) := by decide +kernel
theorem d_R_push_0 : decode b_R_push 0 = .ok (.iconst 0, 1) := by decide +kernel
theorem d_R_push_1 : decode b_R_push 1 = .ok (.istore_n 2, 1) := by decide +kernel
theorem d_R_push_2 : decode b_R_push 2 = .ok (.iload_n 2, 1) := by decide +kernel
theorem d_R_push_3 : decode b_R_push 3 = .ok (.iconst 2, 1) := by decide +kernel
theorem d_R_push_4 : decode b_R_push 4 = .ok (.if_icmp .ge 48, 3) := by decide +kernel
theorem d_R_push_7 : decode b_R_push 7 = .ok (.aload_n 0, 1) := by decide +kernel
theorem d_R_push_8 : decode b_R_push 8 = .ok (.aload_n 0, 1) := by decide +kernel
theorem d_R_push_9 : decode b_R_push 9 = .ok (.getfield 41, 3) := by decide +kernel
theorem d_R_push_12 : decode b_R_push 12 = .ok (.ldc 44, 2) := by decide +kernel
theorem d_R_push_14 : decode b_R_push 14 = .ok (.iadd, 1) := by decide +kernel
theorem d_R_push_15 : decode b_R_push 15 = .ok (.ldc 48, 2) := by decide +kernel
theorem d_R_push_17 : decode b_R_push 17 = .ok (.irem, 1) := by decide +kernel
theorem d_R_push_18 : decode b_R_push 18 = .ok (.putfield 41, 3) := by decide +kernel
theorem d_R_push_21 : decode b_R_push 21 = .ok (.aload_n 0, 1) := by decide +kernel
theorem d_R_push_22 : decode b_R_push 22 = .ok (.aload_n 0, 1) := by decide +kernel
theorem d_R_push_23 : decode b_R_push 23 = .ok (.getfield 41, 3) := by decide +kernel
theorem d_R_push_26 : decode b_R_push 26 = .ok (.iload_n 2, 1) := by decide +kernel
theorem d_R_push_27 : decode b_R_push 27 = .ok (.ifCond .ne 11, 3) := by decide +kernel
theorem d_R_push_30 : decode b_R_push 30 = .ok (.iload_n 1, 1) := by decide +kernel
theorem d_R_push_31 : decode b_R_push 31 = .ok (.sipush 256, 3) := by decide +kernel
theorem d_R_push_34 : decode b_R_push 34 = .ok (.idiv, 1) := by decide +kernel
theorem d_R_push_35 : decode b_R_push 35 = .ok (.goto 8, 3) := by decide +kernel
theorem d_R_push_38 : decode b_R_push 38 = .ok (.iload_n 1, 1) := by decide +kernel
theorem d_R_push_39 : decode b_R_push 39 = .ok (.sipush 256, 3) := by decide +kernel
theorem d_R_push_42 : decode b_R_push 42 = .ok (.irem, 1) := by decide +kernel
theorem d_R_push_43 : decode b_R_push 43 = .ok (.invokevirtual 37, 3) := by decide +kernel
theorem d_R_push_46 : decode b_R_push 46 = .ok (.iinc 2 1, 3) := by decide +kernel
theorem d_R_push_49 : decode b_R_push 49 = .ok (.goto (-47), 3) := by decide +kernel
theorem d_R_push_52 : decode b_R_push 52 = .ok (.return_, 1) := by decide +kernel
theorem d_R_pop_0 : decode b_R_pop 0 = .ok (.aload_n 0, 1) := by decide +kernel
theorem d_R_pop_1 : decode b_R_pop 1 = .ok (.aload_n 0, 1) := by decide +kernel
theorem d_R_pop_2 : decode b_R_pop 2 = .ok (.getfield 41, 3) := by decide +kernel
theorem d_R_pop_5 : decode b_R_pop 5 = .ok (.invokevirtual 33, 3) := by decide +kernel
theorem d_R_pop_8 : decode b_R_pop 8 = .ok (.istore_n 1, 1) := by decide +kernel
theorem d_R_pop_9 : decode b_R_pop 9 = .ok (.aload_n 0, 1) := by decide +kernel
theorem d_R_pop_10 : decode b_R_pop 10 = .ok (.aload_n 0, 1) := by decide +kernel
theorem d_R_pop_11 : decode b_R_pop 11 = .ok (.getfield 41, 3) := by decide +kernel
theorem d_R_pop_14 : decode b_R_pop 14 = .ok (.iconst 1, 1) := by decide +kernel
theorem d_R_pop_15 : decode b_R_pop 15 = .ok (.iadd, 1) := by decide +kernel
theorem d_R_pop_16 : decode b_R_pop 16 = .ok (.ldc 48, 2) := by decide +kernel
theorem d_R_pop_18 : decode b_R_pop 18 = .ok (.irem, 1) := by decide +kernel
theorem d_R_pop_19 : decode b_R_pop 19 = .ok (.invokevirtual 33, 3) := by decide +kernel
theorem d_R_pop_22 : decode b_R_pop 22 = .ok (.istore_n 2, 1) := by decide +kernel
theorem d_R_pop_23 : decode b_R_pop 23 = .ok (.aload_n 0, 1) := by decide +kernel
theorem d_R_pop_24 : decode b_R_pop 24 = .ok (.aload_n 0, 1) := by decide +kernel
theorem d_R_pop_25 : decode b_R_pop 25 = .ok (.getfield 41, 3) := by decide +kernel
theorem d_R_pop_28 : decode b_R_pop 28 = .ok (.iconst 2, 1) := by decide +kernel
theorem d_R_pop_29 : decode b_R_pop 29 = .ok (.iadd, 1) := by decide +kernel
theorem d_R_pop_30 : decode b_R_pop 30 = .ok (.ldc 48, 2) := by decide +kernel
theorem d_R_pop_32 : decode b_R_pop 32 = .ok (.irem, 1) := by decide +kernel
theorem d_R_pop_33 : decode b_R_pop 33 = .ok (.putfield 41, 3) := by decide +kernel
theorem d_R_pop_36 : decode b_R_pop 36 = .ok (.iload_n 1, 1) := by decide +kernel
theorem d_R_pop_37 : decode b_R_pop 37 = .ok (.sipush 256, 3) := by decide +kernel
theorem d_R_pop_40 : decode b_R_pop 40 = .ok (.iload_n 2, 1) := by decide +kernel
theorem d_R_pop_41 : decode b_R_pop 41 = .ok (.imul, 1) := by decide +kernel
theorem d_R_pop_42 : decode b_R_pop 42 = .ok (.iadd, 1) := by decide +kernel
theorem d_R_pop_43 : decode b_R_pop 43 = .ok (.ireturn, 1) := by decide +kernel
theorem d_R_show_0 : decode b_R_show 0 = .ok (.aload_n 0, 1) := by decide +kernel
theorem d_R_show_1 : decode b_R_show 1 = .ok (.iload_n 1, 1) := by decide +kernel
theorem d_R_show_2 : decode b_R_show 2 = .ok (.sipush 128, 3) := by decide +kernel
theorem d_R_show_5 : decode b_R_show 5 = .ok (.idiv, 1) := by decide +kernel
theorem d_R_show_6 : decode b_R_show 6 = .ok (.putfield 52, 3) := by decide +kernel
theorem d_R_show_9 : decode b_R_show 9 = .ok (.aload_n 0, 1) := by decide +kernel
theorem d_R_show_10 : decode b_R_show 10 = .ok (.iload_n 1, 1) := by decide +kernel
theorem d_R_show_11 : decode b_R_show 11 = .ok (.ifCond .ne 7, 3) := by decide +kernel
theorem d_R_show_14 : decode b_R_show 14 = .ok (.iconst 1, 1) := by decide +kernel
theorem d_R_show_15 : decode b_R_show 15 = .ok (.goto 4, 3) := by decide +kernel
theorem d_R_show_18 : decode b_R_show 18 = .ok (.iconst 0, 1) := by decide +kernel
theorem d_R_show_19 : decode b_R_show 19 = .ok (.putfield 55, 3) := by decide +kernel
theorem d_R_show_22 : decode b_R_show 22 = .ok (.aload_n 0, 1) := by decide +kernel
theorem d_R_show_23 : decode b_R_show 23 = .ok (.iconst 1, 1) := by decide +kernel
theorem d_R_show_24 : decode b_R_show 24 = .ok (.putfield 58, 3) := by decide +kernel
theorem d_R_show_27 : decode b_R_show 27 = .ok (.iload_n 1, 1) := by decide +kernel
theorem d_R_show_28 : decode b_R_show 28 = .ok (.istore_n 2, 1) := by decide +kernel
theorem d_R_show_29 : decode b_R_show 29 = .ok (.iload_n 2, 1) := by decide +kernel
theorem d_R_show_30 : decode b_R_show 30 = .ok (.ifCond .le 34, 3) := by decide +kernel
theorem d_R_show_33 : decode b_R_show 33 = .ok (.aload_n 0, 1) := by decide +kernel
theorem d_R_show_34 : decode b_R_show 34 = .ok (.iload_n 2, 1) := by decide +kernel
theorem d_R_show_35 : decode b_R_show 35 = .ok (.iconst 2, 1) := by decide +kernel
theorem d_R_show_36 : decode b_R_show 36 = .ok (.irem, 1) := by decide +kernel
theorem d_R_show_37 : decode b_R_show 37 = .ok (.iconst 1, 1) := by decide +kernel
theorem d_R_show_38 : decode b_R_show 38 = .ok (.if_icmp .ne 12, 3) := by decide +kernel
theorem d_R_show_41 : decode b_R_show 41 = .ok (.iconst 1, 1) := by decide +kernel
theorem d_R_show_42 : decode b_R_show 42 = .ok (.aload_n 0, 1) := by decide +kernel
theorem d_R_show_43 : decode b_R_show 43 = .ok (.getfield 58, 3) := by decide +kernel
theorem d_R_show_46 : decode b_R_show 46 = .ok (.isub, 1) := by decide +kernel
theorem d_R_show_47 : decode b_R_show 47 = .ok (.goto 7, 3) := by decide +kernel
theorem d_R_show_50 : decode b_R_show 50 = .ok (.aload_n 0, 1) := by decide +kernel
theorem d_R_show_51 : decode b_R_show 51 = .ok (.getfield 58, 3) := by decide +kernel
theorem d_R_show_54 : decode b_R_show 54 = .ok (.putfield 58, 3) := by decide +kernel
theorem d_R_show_57 : decode b_R_show 57 = .ok (.iload_n 2, 1) := by decide +kernel
theorem d_R_show_58 : decode b_R_show 58 = .ok (.iconst 2, 1) := by decide +kernel
theorem d_R_show_59 : decode b_R_show 59 = .ok (.idiv, 1) := by decide +kernel
theorem d_R_show_60 : decode b_R_show 60 = .ok (.istore_n 2, 1) := by decide +kernel
theorem d_R_show_61 : decode b_R_show 61 = .ok (.goto (-32), 3) := by decide +kernel
theorem d_R_show_64 : decode b_R_show 64 = .ok (.return_, 1) := by decide +kernel
theorem d_R_flags_0 : decode b_R_flags 0 = .ok (.sipush 128, 3) := by decide +kernel
theorem d_R_flags_3 : decode b_R_flags 3 = .ok (.aload_n 0, 1) := by decide +kernel
theorem d_R_flags_4 : decode b_R_flags 4 = .ok (.getfield 52, 3) := by decide +kernel
theorem d_R_flags_7 : decode b_R_flags 7 = .ok (.imul, 1) := by decide +kernel
theorem d_R_flags_8 : decode b_R_flags 8 = .ok (.bipush 64, 2) := by decide +kernel
theorem d_R_flags_10 : decode b_R_flags 10 = .ok (.aload_n 0, 1) := by decide +kernel
theorem d_R_flags_11 : decode b_R_flags 11 = .ok (.getfield 55, 3) := by decide +kernel
theorem d_R_flags_14 : decode b_R_flags 14 = .ok (.imul, 1) := by decide +kernel
theorem d_R_flags_15 : decode b_R_flags 15 = .ok (.iadd, 1) := by decide +kernel
theorem d_R_flags_16 : decode b_R_flags 16 = .ok (.bipush 16, 2) := by decide +kernel
theorem d_R_flags_18 : decode b_R_flags 18 = .ok (.aload_n 0, 1) := by decide +kernel
theorem d_R_flags_19 : decode b_R_flags 19 = .ok (.getfield 61, 3) := by decide +kernel
theorem d_R_flags_22 : decode b_R_flags 22 = .ok (.imul, 1) := by decide +kernel
theorem d_R_flags_23 : decode b_R_flags 23 = .ok (.iadd, 1) := by decide +kernel
theorem d_R_flags_24 : decode b_R_flags 24 = .ok (.iconst 4, 1) := by decide +kernel
theorem d_R_flags_25 : decode b_R_flags 25 = .ok (.aload_n 0, 1) := by decide +kernel
theorem d_R_flags_26 : decode b_R_flags 26 = .ok (.getfield 58, 3) := by decide +kernel
theorem d_R_flags_29 : decode b_R_flags 29 = .ok (.imul, 1) := by decide +kernel
theorem d_R_flags_30 : decode b_R_flags 30 = .ok (.iadd, 1) := by decide +kernel
theorem d_R_flags_31 : decode b_R_flags 31 = .ok (.iconst 2, 1) := by decide +kernel
theorem d_R_flags_32 : decode b_R_flags 32 = .ok (.iadd, 1) := by decide +kernel
theorem d_R_flags_33 : decode b_R_flags 33 = .ok (.aload_n 0, 1) := by decide +kernel
theorem d_R_flags_34 : decode b_R_flags 34 = .ok (.getfield 64, 3) := by decide +kernel
theorem d_R_flags_37 : decode b_R_flags 37 = .ok (.iadd, 1) := by decide +kernel
theorem d_R_flags_38 : decode b_R_flags 38 = .ok (.ireturn, 1) := by decide +kernel
theorem d_R_setFlags_0 : decode b_R_setFlags 0 = .ok (.aload_n 0, 1) := by decide +kernel
theorem d_R_setFlags_1 : decode b_R_setFlags 1 = .ok (.iload_n 1, 1) := by decide +kernel
theorem d_R_setFlags_2 : decode b_R_setFlags 2 = .ok (.sipush 128, 3) := by decide +kernel
theorem d_R_setFlags_5 : decode b_R_setFlags 5 = .ok (.idiv, 1) := by decide +kernel
theorem d_R_setFlags_6 : decode b_R_setFlags 6 = .ok (.iconst 2, 1) := by decide +kernel
theorem d_R_setFlags_7 : decode b_R_setFlags 7 = .ok (.irem, 1) := by decide +kernel
theorem d_R_setFlags_8 : decode b_R_setFlags 8 = .ok (.putfield 52, 3) := by decide +kernel
theorem d_R_setFlags_11 : decode b_R_setFlags 11 = .ok (.aload_n 0, 1) := by decide +kernel
theorem d_R_setFlags_12 : decode b_R_setFlags 12 = .ok (.iload_n 1, 1) := by decide +kernel
theorem d_R_setFlags_13 : decode b_R_setFlags 13 = .ok (.bipush 64, 2) := by decide +kernel
theorem d_R_setFlags_15 : decode b_R_setFlags 15 = .ok (.idiv, 1) := by decide +kernel
theorem d_R_setFlags_16 : decode b_R_setFlags 16 = .ok (.iconst 2, 1) := by decide +kernel
theorem d_R_setFlags_17 : decode b_R_setFlags 17 = .ok (.irem, 1) := by decide +kernel
theorem d_R_setFlags_18 : decode b_R_setFlags 18 = .ok (.putfield 55, 3) := by decide +kernel
theorem d_R_setFlags_21 : decode b_R_setFlags 21 = .ok (.aload_n 0, 1) := by decide +kernel
theorem d_R_setFlags_22 : decode b_R_setFlags 22 = .ok (.iload_n 1, 1) := by decide +kernel
theorem d_R_setFlags_23 : decode b_R_setFlags 23 = .ok (.bipush 16, 2) := by decide +kernel
theorem d_R_setFlags_25 : decode b_R_setFlags 25 = .ok (.idiv, 1) := by decide +kernel
theorem d_R_setFlags_26 : decode b_R_setFlags 26 = .ok (.iconst 2, 1) := by decide +kernel
theorem d_R_setFlags_27 : decode b_R_setFlags 27 = .ok (.irem, 1) := by decide +kernel
theorem d_R_setFlags_28 : decode b_R_setFlags 28 = .ok (.putfield 61, 3) := by decide +kernel
theorem d_R_setFlags_31 : decode b_R_setFlags 31 = .ok (.aload_n 0, 1) := by decide +kernel
theorem d_R_setFlags_32 : decode b_R_setFlags 32 = .ok (.iload_n 1, 1) := by decide +kernel
theorem d_R_setFlags_33 : decode b_R_setFlags 33 = .ok (.iconst 4, 1) := by decide +kernel
theorem d_R_setFlags_34 : decode b_R_setFlags 34 = .ok (.idiv, 1) := by decide +kernel
theorem d_R_setFlags_35 : decode b_R_setFlags 35 = .ok (.iconst 2, 1) := by decide +kernel
theorem d_R_setFlags_36 : decode b_R_setFlags 36 = .ok (.irem, 1) := by decide +kernel
theorem d_R_setFlags_37 : decode b_R_setFlags 37 = .ok (.putfield 58, 3) := by decide +kernel
theorem d_R_setFlags_40 : decode b_R_setFlags 40 = .ok (.aload_n 0, 1) := by decide +kernel
theorem d_R_setFlags_41 : decode b_R_setFlags 41 = .ok (.iload_n 1, 1) := by decide +kernel
theorem d_R_setFlags_42 : decode b_R_setFlags 42 = .ok (.iconst 2, 1) := by decide +kernel
theorem d_R_setFlags_43 : decode b_R_setFlags 43 = .ok (.irem, 1) := by decide +kernel
theorem d_R_setFlags_44 : decode b_R_setFlags 44 = .ok (.putfield 64, 3) := by decide +kernel
theorem d_R_setFlags_47 : decode b_R_setFlags 47 = .ok (.return_, 1) := by decide +kernel
theorem d_R_holds_0 : decode b_R_holds 0 = .ok (.iload_n 1, 1) := by decide +kernel
theorem d_R_holds_1 : decode b_R_holds 1 = .ok (.iconst 2, 1) := by decide +kernel
theorem d_R_holds_2 : decode b_R_holds 2 = .ok (.if_icmp .ge 10, 3) := by decide +kernel
theorem d_R_holds_5 : decode b_R_holds 5 = .ok (.aload_n 0, 1) := by decide +kernel
theorem d_R_holds_6 : decode b_R_holds 6 = .ok (.getfield 55, 3) := by decide +kernel
theorem d_R_holds_9 : decode b_R_holds 9 = .ok (.goto 32, 3) := by decide +kernel
theorem d_R_holds_12 : decode b_R_holds 12 = .ok (.iload_n 1, 1) := by decide +kernel
theorem d_R_holds_13 : decode b_R_holds 13 = .ok (.iconst 4, 1) := by decide +kernel
theorem d_R_holds_14 : decode b_R_holds 14 = .ok (.if_icmp .ge 10, 3) := by decide +kernel
theorem d_R_holds_17 : decode b_R_holds 17 = .ok (.aload_n 0, 1) := by decide +kernel
theorem d_R_holds_18 : decode b_R_holds 18 = .ok (.getfield 64, 3) := by decide +kernel
theorem d_R_holds_21 : decode b_R_holds 21 = .ok (.goto 20, 3) := by decide +kernel
theorem d_R_holds_24 : decode b_R_holds 24 = .ok (.iload_n 1, 1) := by decide +kernel
theorem d_R_holds_25 : decode b_R_holds 25 = .ok (.bipush 6, 2) := by decide +kernel
theorem d_R_holds_27 : decode b_R_holds 27 = .ok (.if_icmp .ge 10, 3) := by decide +kernel
theorem d_R_holds_30 : decode b_R_holds 30 = .ok (.aload_n 0, 1) := by decide +kernel
theorem d_R_holds_31 : decode b_R_holds 31 = .ok (.getfield 58, 3) := by decide +kernel
theorem d_R_holds_34 : decode b_R_holds 34 = .ok (.goto 7, 3) := by decide +kernel
theorem d_R_holds_37 : decode b_R_holds 37 = .ok (.aload_n 0, 1) := by decide +kernel
theorem d_R_holds_38 : decode b_R_holds 38 = .ok (.getfield 52, 3) := by decide +kernel
theorem d_R_holds_41 : decode b_R_holds 41 = .ok (.istore_n 2, 1) := by decide +kernel
theorem d_R_holds_42 : decode b_R_holds 42 = .ok (.iload_n 2, 1) := by decide +kernel
theorem d_R_holds_43 : decode b_R_holds 43 = .ok (.iload_n 1, 1) := by decide +kernel
theorem d_R_holds_44 : decode b_R_holds 44 = .ok (.iconst 2, 1) := by decide +kernel
theorem d_R_holds_45 : decode b_R_holds 45 = .ok (.irem, 1) := by decide +kernel
theorem d_R_holds_46 : decode b_R_holds 46 = .ok (.if_icmp .ne 7, 3) := by decide +kernel
theorem d_R_holds_49 : decode b_R_holds 49 = .ok (.iconst 1, 1) := by decide +kernel
theorem d_R_holds_50 : decode b_R_holds 50 = .ok (.goto 4, 3) := by decide +kernel
theorem d_R_holds_53 : decode b_R_holds 53 = .ok (.iconst 0, 1) := by decide +kernel
theorem d_R_holds_54 : decode b_R_holds 54 = .ok (.ireturn, 1) := by decide +kernel
theorem d_R_sum_0 : decode b_R_sum 0 = .ok (.iconst 0, 1) := by decide +kernel
theorem d_R_sum_1 : decode b_R_sum 1 = .ok (.istore 4, 2) := by decide +kernel
theorem d_R_sum_3 : decode b_R_sum 3 = .ok (.iload_n 3, 1) := by decide +kernel
theorem d_R_sum_4 : decode b_R_sum 4 = .ok (.istore 5, 2) := by decide +kernel
theorem d_R_sum_6 : decode b_R_sum 6 = .ok (.iconst 0, 1) := by decide +kernel
theorem d_R_sum_7 : decode b_R_sum 7 = .ok (.istore 6, 2) := by decide +kernel
theorem d_R_sum_9 : decode b_R_sum 9 = .ok (.iload 6, 2) := by decide +kernel
theorem d_R_sum_11 : decode b_R_sum 11 = .ok (.bipush 8, 2) := by decide +kernel
theorem d_R_sum_13 : decode b_R_sum 13 = .ok (.if_icmp .ge 57, 3) := by decide +kernel
theorem d_R_sum_16 : decode b_R_sum 16 = .ok (.iload_n 1, 1) := by decide +kernel
theorem d_R_sum_17 : decode b_R_sum 17 = .ok (.iload 6, 2) := by decide +kernel
theorem d_R_sum_19 : decode b_R_sum 19 = .ok (.ishr, 1) := by decide +kernel
theorem d_R_sum_20 : decode b_R_sum 20 = .ok (.iconst 1, 1) := by decide +kernel
theorem d_R_sum_21 : decode b_R_sum 21 = .ok (.iand, 1) := by decide +kernel
theorem d_R_sum_22 : decode b_R_sum 22 = .ok (.iload_n 2, 1) := by decide +kernel
theorem d_R_sum_23 : decode b_R_sum 23 = .ok (.iload 6, 2) := by decide +kernel
theorem d_R_sum_25 : decode b_R_sum 25 = .ok (.ishr, 1) := by decide +kernel
theorem d_R_sum_26 : decode b_R_sum 26 = .ok (.iconst 1, 1) := by decide +kernel
theorem d_R_sum_27 : decode b_R_sum 27 = .ok (.iand, 1) := by decide +kernel
theorem d_R_sum_28 : decode b_R_sum 28 = .ok (.iadd, 1) := by decide +kernel
theorem d_R_sum_29 : decode b_R_sum 29 = .ok (.iload 5, 2) := by decide +kernel
theorem d_R_sum_31 : decode b_R_sum 31 = .ok (.iadd, 1) := by decide +kernel
theorem d_R_sum_32 : decode b_R_sum 32 = .ok (.istore 7, 2) := by decide +kernel
theorem d_R_sum_34 : decode b_R_sum 34 = .ok (.iload 4, 2) := by decide +kernel
theorem d_R_sum_36 : decode b_R_sum 36 = .ok (.iload 7, 2) := by decide +kernel
theorem d_R_sum_38 : decode b_R_sum 38 = .ok (.iconst 2, 1) := by decide +kernel
theorem d_R_sum_39 : decode b_R_sum 39 = .ok (.irem, 1) := by decide +kernel
theorem d_R_sum_40 : decode b_R_sum 40 = .ok (.iload 6, 2) := by decide +kernel
theorem d_R_sum_42 : decode b_R_sum 42 = .ok (.ishl, 1) := by decide +kernel
theorem d_R_sum_43 : decode b_R_sum 43 = .ok (.iadd, 1) := by decide +kernel
theorem d_R_sum_44 : decode b_R_sum 44 = .ok (.istore 4, 2) := by decide +kernel
theorem d_R_sum_46 : decode b_R_sum 46 = .ok (.iload 7, 2) := by decide +kernel
theorem d_R_sum_48 : decode b_R_sum 48 = .ok (.iconst 2, 1) := by decide +kernel
theorem d_R_sum_49 : decode b_R_sum 49 = .ok (.idiv, 1) := by decide +kernel
theorem d_R_sum_50 : decode b_R_sum 50 = .ok (.istore 5, 2) := by decide +kernel
theorem d_R_sum_52 : decode b_R_sum 52 = .ok (.iload 6, 2) := by decide +kernel
theorem d_R_sum_54 : decode b_R_sum 54 = .ok (.iconst 3, 1) := by decide +kernel
theorem d_R_sum_55 : decode b_R_sum 55 = .ok (.if_icmp .ne 9, 3) := by decide +kernel
theorem d_R_sum_58 : decode b_R_sum 58 = .ok (.aload_n 0, 1) := by decide +kernel
theorem d_R_sum_59 : decode b_R_sum 59 = .ok (.iload 5, 2) := by decide +kernel
theorem d_R_sum_61 : decode b_R_sum 61 = .ok (.putfield 61, 3) := by decide +kernel
theorem d_R_sum_64 : decode b_R_sum 64 = .ok (.iinc 6 1, 3) := by decide +kernel
theorem d_R_sum_67 : decode b_R_sum 67 = .ok (.goto (-58), 3) := by decide +kernel
theorem d_R_sum_70 : decode b_R_sum 70 = .ok (.aload_n 0, 1) := by decide +kernel
theorem d_R_sum_71 : decode b_R_sum 71 = .ok (.iload 5, 2) := by decide +kernel
theorem d_R_sum_73 : decode b_R_sum 73 = .ok (.putfield 64, 3) := by decide +kernel
theorem d_R_sum_76 : decode b_R_sum 76 = .ok (.aload_n 0, 1) := by decide +kernel
theorem d_R_sum_77 : decode b_R_sum 77 = .ok (.iload 4, 2) := by decide +kernel
theorem d_R_sum_79 : decode b_R_sum 79 = .ok (.invokevirtual 67, 3) := by decide +kernel
theorem d_R_sum_82 : decode b_R_sum 82 = .ok (.iload 4, 2) := by decide +kernel
theorem d_R_sum_84 : decode b_R_sum 84 = .ok (.ireturn, 1) := by decide +kernel
theorem d_R_difference_0 : decode b_R_difference 0 = .ok (.aload_n 0, 1) := by decide +kernel
theorem d_R_difference_1 : decode b_R_difference 1 = .ok (.iload_n 1, 1) := by decide +kernel
theorem d_R_difference_2 : decode b_R_difference 2 = .ok (.sipush 255, 3) := by decide +kernel
theorem d_R_difference_5 : decode b_R_difference 5 = .ok (.iload_n 2, 1) := by decide +kernel
theorem d_R_difference_6 : decode b_R_difference 6 = .ok (.isub, 1) := by decide +kernel
theorem d_R_difference_7 : decode b_R_difference 7 = .ok (.iconst 1, 1) := by decide +kernel
theorem d_R_difference_8 : decode b_R_difference 8 = .ok (.iload_n 3, 1) := by decide +kernel
theorem d_R_difference_9 : decode b_R_difference 9 = .ok (.isub, 1) := by decide +kernel
theorem d_R_difference_10 : decode b_R_difference 10 = .ok (.invokevirtual 71, 3) := by decide +kernel
theorem d_R_difference_13 : decode b_R_difference 13 = .ok (.istore 4, 2) := by decide +kernel
theorem d_R_difference_15 : decode b_R_difference 15 = .ok (.aload_n 0, 1) := by decide +kernel
theorem d_R_difference_16 : decode b_R_difference 16 = .ok (.iconst 1, 1) := by decide +kernel
theorem d_R_difference_17 : decode b_R_difference 17 = .ok (.aload_n 0, 1) := by decide +kernel

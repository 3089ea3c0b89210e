-- decode rows: out of the printed text of this claim (NAMES), by wip/whole/mk02.py
theorem dX0_init_0 : decode cX0_init 0 = .ok (.aload_n 0, 1) := by decide +kernel
theorem dX0_init_1 : decode cX0_init 1 = .ok (.invokespecial 3, 3) := by decide +kernel
theorem dX0_init_4 : decode cX0_init 4 = .ok (.aload_n 0, 1) := by decide +kernel
theorem dX0_init_5 : decode cX0_init 5 = .ok (.bipush 12, 2) := by decide +kernel
theorem dX0_init_7 : decode cX0_init 7 = .ok (.newarray .int, 2) := by decide +kernel
theorem dX0_init_9 : decode cX0_init 9 = .ok (.putfield 9, 3) := by decide +kernel
theorem dX0_init_12 : decode cX0_init 12 = .ok (.return_, 1) := by decide +kernel
theorem dX0_bestSet_0 : decode cX0_bestSet 0 = .ok (.iconst 0, 1) := by decide +kernel
theorem dX0_bestSet_1 : decode cX0_bestSet 1 = .ok (.istore_n 2, 1) := by decide +kernel
theorem dX0_bestSet_2 : decode cX0_bestSet 2 = .ok (.iconst 0, 1) := by decide +kernel
theorem dX0_bestSet_3 : decode cX0_bestSet 3 = .ok (.istore_n 3, 1) := by decide +kernel
theorem dX0_bestSet_4 : decode cX0_bestSet 4 = .ok (.iload_n 3, 1) := by decide +kernel
theorem dX0_bestSet_5 : decode cX0_bestSet 5 = .ok (.aload_n 1, 1) := by decide +kernel
theorem dX0_bestSet_6 : decode cX0_bestSet 6 = .ok (.getfield 15, 3) := by decide +kernel
theorem dX0_bestSet_9 : decode cX0_bestSet 9 = .ok (.if_icmp .ge 52, 3) := by decide +kernel
theorem dX0_bestSet_12 : decode cX0_bestSet 12 = .ok (.aload_n 1, 1) := by decide +kernel
theorem dX0_bestSet_13 : decode cX0_bestSet 13 = .ok (.getfield 21, 3) := by decide +kernel
theorem dX0_bestSet_16 : decode cX0_bestSet 16 = .ok (.iload_n 3, 1) := by decide +kernel
theorem dX0_bestSet_17 : decode cX0_bestSet 17 = .ok (.aaload, 1) := by decide +kernel
theorem dX0_bestSet_18 : decode cX0_bestSet 18 = .ok (.getfield 25, 3) := by decide +kernel
theorem dX0_bestSet_21 : decode cX0_bestSet 21 = .ok (.ifCond .ne 34, 3) := by decide +kernel
theorem dX0_bestSet_24 : decode cX0_bestSet 24 = .ok (.aload_n 0, 1) := by decide +kernel
theorem dX0_bestSet_25 : decode cX0_bestSet 25 = .ok (.getfield 9, 3) := by decide +kernel
theorem dX0_bestSet_28 : decode cX0_bestSet 28 = .ok (.iload_n 3, 1) := by decide +kernel
theorem dX0_bestSet_29 : decode cX0_bestSet 29 = .ok (.aload_n 0, 1) := by decide +kernel
theorem dX0_bestSet_30 : decode cX0_bestSet 30 = .ok (.aload_n 1, 1) := by decide +kernel
theorem dX0_bestSet_31 : decode cX0_bestSet 31 = .ok (.iload_n 3, 1) := by decide +kernel
theorem dX0_bestSet_32 : decode cX0_bestSet 32 = .ok (.invokevirtual 31, 3) := by decide +kernel
theorem dX0_bestSet_35 : decode cX0_bestSet 35 = .ok (.sipush 4096, 3) := by decide +kernel
theorem dX0_bestSet_38 : decode cX0_bestSet 38 = .ok (.iadd, 1) := by decide +kernel
theorem dX0_bestSet_39 : decode cX0_bestSet 39 = .ok (.iconst 1, 1) := by decide +kernel
theorem dX0_bestSet_40 : decode cX0_bestSet 40 = .ok (.iload_n 3, 1) := by decide +kernel
theorem dX0_bestSet_41 : decode cX0_bestSet 41 = .ok (.ishl, 1) := by decide +kernel
theorem dX0_bestSet_42 : decode cX0_bestSet 42 = .ok (.iadd, 1) := by decide +kernel
theorem dX0_bestSet_43 : decode cX0_bestSet 43 = .ok (.iastore, 1) := by decide +kernel
theorem dX0_bestSet_44 : decode cX0_bestSet 44 = .ok (.iload_n 2, 1) := by decide +kernel
theorem dX0_bestSet_45 : decode cX0_bestSet 45 = .ok (.aload_n 0, 1) := by decide +kernel
theorem dX0_bestSet_46 : decode cX0_bestSet 46 = .ok (.getfield 9, 3) := by decide +kernel
theorem dX0_bestSet_49 : decode cX0_bestSet 49 = .ok (.iload_n 3, 1) := by decide +kernel
theorem dX0_bestSet_50 : decode cX0_bestSet 50 = .ok (.iaload, 1) := by decide +kernel
theorem dX0_bestSet_51 : decode cX0_bestSet 51 = .ok (.invokestatic 35, 3) := by decide +kernel
theorem dX0_bestSet_54 : decode cX0_bestSet 54 = .ok (.istore_n 2, 1) := by decide +kernel
theorem dX0_bestSet_55 : decode cX0_bestSet 55 = .ok (.iinc 3 1, 3) := by decide +kernel
theorem dX0_bestSet_58 : decode cX0_bestSet 58 = .ok (.goto (-54), 3) := by decide +kernel
theorem dX0_bestSet_61 : decode cX0_bestSet 61 = .ok (.iload_n 2, 1) := by decide +kernel
theorem dX0_bestSet_62 : decode cX0_bestSet 62 = .ok (.sipush 4095, 3) := by decide +kernel
theorem dX0_bestSet_65 : decode cX0_bestSet 65 = .ok (.iand, 1) := by decide +kernel
theorem dX0_bestSet_66 : decode cX0_bestSet 66 = .ok (.ireturn, 1) := by decide +kernel
theorem dX0_bestAhead_0 : decode cX0_bestAhead 0 = .ok (.iconst 0, 1) := by decide +kernel
theorem dX0_bestAhead_1 : decode cX0_bestAhead 1 = .ok (.istore_n 3, 1) := by decide +kernel
theorem dX0_bestAhead_2 : decode cX0_bestAhead 2 = .ok (.iconst 0, 1) := by decide +kernel
theorem dX0_bestAhead_3 : decode cX0_bestAhead 3 = .ok (.istore 4, 2) := by decide +kernel
theorem dX0_bestAhead_5 : decode cX0_bestAhead 5 = .ok (.iload 4, 2) := by decide +kernel
theorem dX0_bestAhead_7 : decode cX0_bestAhead 7 = .ok (.iload_n 2, 1) := by decide +kernel
theorem dX0_bestAhead_8 : decode cX0_bestAhead 8 = .ok (.if_icmp .ge 44, 3) := by decide +kernel
theorem dX0_bestAhead_11 : decode cX0_bestAhead 11 = .ok (.aload_n 1, 1) := by decide +kernel
theorem dX0_bestAhead_12 : decode cX0_bestAhead 12 = .ok (.getfield 21, 3) := by decide +kernel
theorem dX0_bestAhead_15 : decode cX0_bestAhead 15 = .ok (.iload 4, 2) := by decide +kernel
theorem dX0_bestAhead_17 : decode cX0_bestAhead 17 = .ok (.aaload, 1) := by decide +kernel
theorem dX0_bestAhead_18 : decode cX0_bestAhead 18 = .ok (.getfield 25, 3) := by decide +kernel
theorem dX0_bestAhead_21 : decode cX0_bestAhead 21 = .ok (.ifCond .ne 25, 3) := by decide +kernel
theorem dX0_bestAhead_24 : decode cX0_bestAhead 24 = .ok (.aload_n 1, 1) := by decide +kernel
theorem dX0_bestAhead_25 : decode cX0_bestAhead 25 = .ok (.iload_n 2, 1) := by decide +kernel
theorem dX0_bestAhead_26 : decode cX0_bestAhead 26 = .ok (.iload 4, 2) := by decide +kernel
theorem dX0_bestAhead_28 : decode cX0_bestAhead 28 = .ok (.invokevirtual 41, 3) := by decide +kernel
theorem dX0_bestAhead_31 : decode cX0_bestAhead 31 = .ok (.ifCond .eq 15, 3) := by decide +kernel
theorem dX0_bestAhead_34 : decode cX0_bestAhead 34 = .ok (.iload_n 3, 1) := by decide +kernel
theorem dX0_bestAhead_35 : decode cX0_bestAhead 35 = .ok (.aload_n 0, 1) := by decide +kernel
theorem dX0_bestAhead_36 : decode cX0_bestAhead 36 = .ok (.getfield 9, 3) := by decide +kernel
theorem dX0_bestAhead_39 : decode cX0_bestAhead 39 = .ok (.iload 4, 2) := by decide +kernel
theorem dX0_bestAhead_41 : decode cX0_bestAhead 41 = .ok (.iaload, 1) := by decide +kernel
theorem dX0_bestAhead_42 : decode cX0_bestAhead 42 = .ok (.invokestatic 35, 3) := by decide +kernel
theorem dX0_bestAhead_45 : decode cX0_bestAhead 45 = .ok (.istore_n 3, 1) := by decide +kernel
theorem dX0_bestAhead_46 : decode cX0_bestAhead 46 = .ok (.iinc 4 1, 3) := by decide +kernel
theorem dX0_bestAhead_49 : decode cX0_bestAhead 49 = .ok (.goto (-44), 3) := by decide +kernel
theorem dX0_bestAhead_52 : decode cX0_bestAhead 52 = .ok (.iload_n 3, 1) := by decide +kernel
theorem dX0_bestAhead_53 : decode cX0_bestAhead 53 = .ok (.ireturn, 1) := by decide +kernel
theorem dX1_init_0 : decode cX1_init 0 = .ok (.aload_n 0, 1) := by decide +kernel
theorem dX1_init_1 : decode cX1_init 1 = .ok (.invokespecial 3, 3) := by decide +kernel
theorem dX1_init_4 : decode cX1_init 4 = .ok (.aload_n 0, 1) := by decide +kernel
theorem dX1_init_5 : decode cX1_init 5 = .ok (.bipush 12, 2) := by decide +kernel
theorem dX1_init_7 : decode cX1_init 7 = .ok (.anewarray 9, 3) := by decide +kernel
theorem dX1_init_10 : decode cX1_init 10 = .ok (.putfield 11, 3) := by decide +kernel
theorem dX1_init_13 : decode cX1_init 13 = .ok (.aload_n 0, 1) := by decide +kernel
theorem dX1_init_14 : decode cX1_init 14 = .ok (.iconst 5, 1) := by decide +kernel
theorem dX1_init_15 : decode cX1_init 15 = .ok (.putfield 17, 3) := by decide +kernel
theorem dX1_init_18 : decode cX1_init 18 = .ok (.aload_n 0, 1) := by decide +kernel
theorem dX1_init_19 : decode cX1_init 19 = .ok (.iconst 1, 1) := by decide +kernel
theorem dX1_init_20 : decode cX1_init 20 = .ok (.putfield 21, 3) := by decide +kernel
theorem dX1_init_23 : decode cX1_init 23 = .ok (.iconst 0, 1) := by decide +kernel
theorem dX1_init_24 : decode cX1_init 24 = .ok (.istore_n 1, 1) := by decide +kernel
theorem dX1_init_25 : decode cX1_init 25 = .ok (.iload_n 1, 1) := by decide +kernel
theorem dX1_init_26 : decode cX1_init 26 = .ok (.bipush 12, 2) := by decide +kernel
theorem dX1_init_28 : decode cX1_init 28 = .ok (.if_icmp .ge 22, 3) := by decide +kernel
theorem dX1_init_31 : decode cX1_init 31 = .ok (.aload_n 0, 1) := by decide +kernel
theorem dX1_init_32 : decode cX1_init 32 = .ok (.getfield 11, 3) := by decide +kernel
theorem dX1_init_35 : decode cX1_init 35 = .ok (.iload_n 1, 1) := by decide +kernel
theorem dX1_init_36 : decode cX1_init 36 = .ok (.new 9, 3) := by decide +kernel
theorem dX1_init_39 : decode cX1_init 39 = .ok (.dup, 1) := by decide +kernel
theorem dX1_init_40 : decode cX1_init 40 = .ok (.invokespecial 24, 3) := by decide +kernel
theorem dX1_init_43 : decode cX1_init 43 = .ok (.aastore, 1) := by decide +kernel
theorem dX1_init_44 : decode cX1_init 44 = .ok (.iinc 1 1, 3) := by decide +kernel
theorem dX1_init_47 : decode cX1_init 47 = .ok (.goto (-22), 3) := by decide +kernel
theorem dX1_init_50 : decode cX1_init 50 = .ok (.return_, 1) := by decide +kernel
theorem dX1_add_0 : decode cX1_add 0 = .ok (.aload_n 0, 1) := by decide +kernel
theorem dX1_add_1 : decode cX1_add 1 = .ok (.getfield 11, 3) := by decide +kernel
theorem dX1_add_4 : decode cX1_add 4 = .ok (.aload_n 0, 1) := by decide +kernel
theorem dX1_add_5 : decode cX1_add 5 = .ok (.getfield 25, 3) := by decide +kernel
theorem dX1_add_8 : decode cX1_add 8 = .ok (.aaload, 1) := by decide +kernel
theorem dX1_add_9 : decode cX1_add 9 = .ok (.astore 4, 2) := by decide +kernel
theorem dX1_add_11 : decode cX1_add 11 = .ok (.aload 4, 2) := by decide +kernel
theorem dX1_add_13 : decode cX1_add 13 = .ok (.iload_n 1, 1) := by decide +kernel
theorem dX1_add_14 : decode cX1_add 14 = .ok (.invokevirtual 28, 3) := by decide +kernel
theorem dX1_add_17 : decode cX1_add 17 = .ok (.aload 4, 2) := by decide +kernel
theorem dX1_add_19 : decode cX1_add 19 = .ok (.iload_n 2, 1) := by decide +kernel
theorem dX1_add_20 : decode cX1_add 20 = .ok (.invokevirtual 32, 3) := by decide +kernel
theorem dX1_add_23 : decode cX1_add 23 = .ok (.aload 4, 2) := by decide +kernel
theorem dX1_add_25 : decode cX1_add 25 = .ok (.iload_n 3, 1) := by decide +kernel
theorem dX1_add_26 : decode cX1_add 26 = .ok (.putfield 35, 3) := by decide +kernel
theorem dX1_add_29 : decode cX1_add 29 = .ok (.aload 4, 2) := by decide +kernel
theorem dX1_add_31 : decode cX1_add 31 = .ok (.iconst 0, 1) := by decide +kernel
theorem dX1_add_32 : decode cX1_add 32 = .ok (.putfield 38, 3) := by decide +kernel
theorem dX1_add_35 : decode cX1_add 35 = .ok (.aload 4, 2) := by decide +kernel
theorem dX1_add_37 : decode cX1_add 37 = .ok (.iconst 0, 1) := by decide +kernel
theorem dX1_add_38 : decode cX1_add 38 = .ok (.putfield 41, 3) := by decide +kernel
theorem dX1_add_41 : decode cX1_add 41 = .ok (.aload_n 0, 1) := by decide +kernel
theorem dX1_add_42 : decode cX1_add 42 = .ok (.dup, 1) := by decide +kernel
theorem dX1_add_43 : decode cX1_add 43 = .ok (.getfield 25, 3) := by decide +kernel
theorem dX1_add_46 : decode cX1_add 46 = .ok (.iconst 1, 1) := by decide +kernel
theorem dX1_add_47 : decode cX1_add 47 = .ok (.iadd, 1) := by decide +kernel
theorem dX1_add_48 : decode cX1_add 48 = .ok (.putfield 25, 3) := by decide +kernel
theorem dX1_add_51 : decode cX1_add 51 = .ok (.aload_n 0, 1) := by decide +kernel
theorem dX1_add_52 : decode cX1_add 52 = .ok (.getfield 25, 3) := by decide +kernel
theorem dX1_add_55 : decode cX1_add 55 = .ok (.iconst 1, 1) := by decide +kernel
theorem dX1_add_56 : decode cX1_add 56 = .ok (.isub, 1) := by decide +kernel
theorem dX1_add_57 : decode cX1_add 57 = .ok (.ireturn, 1) := by decide +kernel
theorem dX1_echoes_0 : decode cX1_echoes 0 = .ok (.aload_n 0, 1) := by decide +kernel
theorem dX1_echoes_1 : decode cX1_echoes 1 = .ok (.getfield 11, 3) := by decide +kernel
theorem dX1_echoes_4 : decode cX1_echoes 4 = .ok (.iload_n 1, 1) := by decide +kernel
theorem dX1_echoes_5 : decode cX1_echoes 5 = .ok (.aaload, 1) := by decide +kernel
theorem dX1_echoes_6 : decode cX1_echoes 6 = .ok (.aload_n 0, 1) := by decide +kernel
theorem dX1_echoes_7 : decode cX1_echoes 7 = .ok (.getfield 11, 3) := by decide +kernel
theorem dX1_echoes_10 : decode cX1_echoes 10 = .ok (.iload_n 2, 1) := by decide +kernel
theorem dX1_echoes_11 : decode cX1_echoes 11 = .ok (.aaload, 1) := by decide +kernel
theorem dX1_echoes_12 : decode cX1_echoes 12 = .ok (.invokevirtual 45, 3) := by decide +kernel
theorem dX1_echoes_15 : decode cX1_echoes 15 = .ok (.ireturn, 1) := by decide +kernel
theorem dX1_seenAhead_0 : decode cX1_seenAhead 0 = .ok (.iload_n 1, 1) := by decide +kernel
theorem dX1_seenAhead_1 : decode cX1_seenAhead 1 = .ok (.iconst 1, 1) := by decide +kernel
theorem dX1_seenAhead_2 : decode cX1_seenAhead 2 = .ok (.isub, 1) := by decide +kernel
theorem dX1_seenAhead_3 : decode cX1_seenAhead 3 = .ok (.istore_n 2, 1) := by decide +kernel
theorem dX1_seenAhead_4 : decode cX1_seenAhead 4 = .ok (.iload_n 2, 1) := by decide +kernel
theorem dX1_seenAhead_5 : decode cX1_seenAhead 5 = .ok (.ifCond .lt 21, 3) := by decide +kernel
theorem dX1_seenAhead_8 : decode cX1_seenAhead 8 = .ok (.aload_n 0, 1) := by decide +kernel
theorem dX1_seenAhead_9 : decode cX1_seenAhead 9 = .ok (.getfield 11, 3) := by decide +kernel
theorem dX1_seenAhead_12 : decode cX1_seenAhead 12 = .ok (.iload_n 2, 1) := by decide +kernel
theorem dX1_seenAhead_13 : decode cX1_seenAhead 13 = .ok (.aaload, 1) := by decide +kernel
theorem dX1_seenAhead_14 : decode cX1_seenAhead 14 = .ok (.getfield 41, 3) := by decide +kernel
theorem dX1_seenAhead_17 : decode cX1_seenAhead 17 = .ok (.ifCond .eq 9, 3) := by decide +kernel
theorem dX1_seenAhead_20 : decode cX1_seenAhead 20 = .ok (.iinc 2 (-1), 3) := by decide +kernel
theorem dX1_seenAhead_23 : decode cX1_seenAhead 23 = .ok (.goto (-19), 3) := by decide +kernel
theorem dX1_seenAhead_26 : decode cX1_seenAhead 26 = .ok (.iload_n 2, 1) := by decide +kernel
theorem dX1_seenAhead_27 : decode cX1_seenAhead 27 = .ok (.ireturn, 1) := by decide +kernel
theorem dX1_isHeard_0 : decode cX1_isHeard 0 = .ok (.iload_n 1, 1) := by decide +kernel
theorem dX1_isHeard_1 : decode cX1_isHeard 1 = .ok (.iconst 1, 1) := by decide +kernel
theorem dX1_isHeard_2 : decode cX1_isHeard 2 = .ok (.iadd, 1) := by decide +kernel
theorem dX1_isHeard_3 : decode cX1_isHeard 3 = .ok (.istore_n 2, 1) := by decide +kernel
theorem dX1_isHeard_4 : decode cX1_isHeard 4 = .ok (.iload_n 2, 1) := by decide +kernel
theorem dX1_isHeard_5 : decode cX1_isHeard 5 = .ok (.aload_n 0, 1) := by decide +kernel
theorem dX1_isHeard_6 : decode cX1_isHeard 6 = .ok (.getfield 25, 3) := by decide +kernel
theorem dX1_isHeard_9 : decode cX1_isHeard 9 = .ok (.if_icmp .ge 21, 3) := by decide +kernel
theorem dX1_isHeard_12 : decode cX1_isHeard 12 = .ok (.aload_n 0, 1) := by decide +kernel
theorem dX1_isHeard_13 : decode cX1_isHeard 13 = .ok (.getfield 11, 3) := by decide +kernel
theorem dX1_isHeard_16 : decode cX1_isHeard 16 = .ok (.iload_n 2, 1) := by decide +kernel
theorem dX1_isHeard_17 : decode cX1_isHeard 17 = .ok (.aaload, 1) := by decide +kernel
theorem dX1_isHeard_18 : decode cX1_isHeard 18 = .ok (.getfield 41, 3) := by decide +kernel
theorem dX1_isHeard_21 : decode cX1_isHeard 21 = .ok (.ifCond .eq 9, 3) := by decide +kernel
theorem dX1_isHeard_24 : decode cX1_isHeard 24 = .ok (.iinc 2 1, 3) := by decide +kernel
theorem dX1_isHeard_27 : decode cX1_isHeard 27 = .ok (.goto (-23), 3) := by decide +kernel
theorem dX1_isHeard_30 : decode cX1_isHeard 30 = .ok (.iload_n 2, 1) := by decide +kernel
theorem dX1_isHeard_31 : decode cX1_isHeard 31 = .ok (.aload_n 0, 1) := by decide +kernel
theorem dX1_isHeard_32 : decode cX1_isHeard 32 = .ok (.getfield 25, 3) := by decide +kernel
theorem dX1_isHeard_35 : decode cX1_isHeard 35 = .ok (.if_icmp .ge 16, 3) := by decide +kernel
theorem dX1_isHeard_38 : decode cX1_isHeard 38 = .ok (.aload_n 0, 1) := by decide +kernel
theorem dX1_isHeard_39 : decode cX1_isHeard 39 = .ok (.iload_n 2, 1) := by decide +kernel
theorem dX1_isHeard_40 : decode cX1_isHeard 40 = .ok (.iload_n 1, 1) := by decide +kernel
theorem dX1_isHeard_41 : decode cX1_isHeard 41 = .ok (.invokevirtual 49, 3) := by decide +kernel
theorem dX1_isHeard_44 : decode cX1_isHeard 44 = .ok (.ifCond .eq 7, 3) := by decide +kernel
theorem dX1_isHeard_47 : decode cX1_isHeard 47 = .ok (.iconst 1, 1) := by decide +kernel
theorem dX1_isHeard_48 : decode cX1_isHeard 48 = .ok (.goto 4, 3) := by decide +kernel
theorem dX1_isHeard_51 : decode cX1_isHeard 51 = .ok (.iconst 0, 1) := by decide +kernel
theorem dX1_isHeard_52 : decode cX1_isHeard 52 = .ok (.ireturn, 1) := by decide +kernel
theorem dX1_isAnswer_0 : decode cX1_isAnswer 0 = .ok (.aload_n 0, 1) := by decide +kernel
theorem dX1_isAnswer_1 : decode cX1_isAnswer 1 = .ok (.getfield 11, 3) := by decide +kernel
theorem dX1_isAnswer_4 : decode cX1_isAnswer 4 = .ok (.iload_n 1, 1) := by decide +kernel
theorem dX1_isAnswer_5 : decode cX1_isAnswer 5 = .ok (.aaload, 1) := by decide +kernel
theorem dX1_isAnswer_6 : decode cX1_isAnswer 6 = .ok (.getfield 41, 3) := by decide +kernel
theorem dX1_isAnswer_9 : decode cX1_isAnswer 9 = .ok (.ifCond .eq 5, 3) := by decide +kernel
theorem dX1_isAnswer_12 : decode cX1_isAnswer 12 = .ok (.iconst 0, 1) := by decide +kernel
theorem dX1_isAnswer_13 : decode cX1_isAnswer 13 = .ok (.ireturn, 1) := by decide +kernel
theorem dX1_isAnswer_14 : decode cX1_isAnswer 14 = .ok (.aload_n 0, 1) := by decide +kernel
theorem dX1_isAnswer_15 : decode cX1_isAnswer 15 = .ok (.iload_n 1, 1) := by decide +kernel
theorem dX1_isAnswer_16 : decode cX1_isAnswer 16 = .ok (.invokevirtual 52, 3) := by decide +kernel
theorem dX1_isAnswer_19 : decode cX1_isAnswer 19 = .ok (.istore_n 2, 1) := by decide +kernel
theorem dX1_isAnswer_20 : decode cX1_isAnswer 20 = .ok (.iload_n 2, 1) := by decide +kernel
theorem dX1_isAnswer_21 : decode cX1_isAnswer 21 = .ok (.ifCond .lt 16, 3) := by decide +kernel
theorem dX1_isAnswer_24 : decode cX1_isAnswer 24 = .ok (.aload_n 0, 1) := by decide +kernel
theorem dX1_isAnswer_25 : decode cX1_isAnswer 25 = .ok (.iload_n 1, 1) := by decide +kernel
theorem dX1_isAnswer_26 : decode cX1_isAnswer 26 = .ok (.iload_n 2, 1) := by decide +kernel
theorem dX1_isAnswer_27 : decode cX1_isAnswer 27 = .ok (.invokevirtual 49, 3) := by decide +kernel
theorem dX1_isAnswer_30 : decode cX1_isAnswer 30 = .ok (.ifCond .eq 7, 3) := by decide +kernel
theorem dX1_isAnswer_33 : decode cX1_isAnswer 33 = .ok (.iconst 1, 1) := by decide +kernel
theorem dX1_isAnswer_34 : decode cX1_isAnswer 34 = .ok (.goto 4, 3) := by decide +kernel
theorem dX1_isAnswer_37 : decode cX1_isAnswer 37 = .ok (.iconst 0, 1) := by decide +kernel
theorem dX1_isAnswer_38 : decode cX1_isAnswer 38 = .ok (.ireturn, 1) := by decide +kernel
theorem dX1_seenCount_0 : decode cX1_seenCount 0 = .ok (.aload_n 0, 1) := by decide +kernel
theorem dX1_seenCount_1 : decode cX1_seenCount 1 = .ok (.invokevirtual 56, 3) := by decide +kernel
theorem dX1_seenCount_4 : decode cX1_seenCount 4 = .ok (.invokestatic 60, 3) := by decide +kernel
theorem dX1_seenCount_7 : decode cX1_seenCount 7 = .ok (.ireturn, 1) := by decide +kernel
theorem dX1_seenSet_0 : decode cX1_seenSet 0 = .ok (.iconst 0, 1) := by decide +kernel
theorem dX1_seenSet_1 : decode cX1_seenSet 1 = .ok (.istore_n 1, 1) := by decide +kernel
theorem dX1_seenSet_2 : decode cX1_seenSet 2 = .ok (.iconst 0, 1) := by decide +kernel
theorem dX1_seenSet_3 : decode cX1_seenSet 3 = .ok (.istore_n 2, 1) := by decide +kernel
theorem dX1_seenSet_4 : decode cX1_seenSet 4 = .ok (.iload_n 2, 1) := by decide +kernel
theorem dX1_seenSet_5 : decode cX1_seenSet 5 = .ok (.aload_n 0, 1) := by decide +kernel
theorem dX1_seenSet_6 : decode cX1_seenSet 6 = .ok (.getfield 25, 3) := by decide +kernel
theorem dX1_seenSet_9 : decode cX1_seenSet 9 = .ok (.if_icmp .ge 27, 3) := by decide +kernel
theorem dX1_seenSet_12 : decode cX1_seenSet 12 = .ok (.aload_n 0, 1) := by decide +kernel
theorem dX1_seenSet_13 : decode cX1_seenSet 13 = .ok (.getfield 11, 3) := by decide +kernel
theorem dX1_seenSet_16 : decode cX1_seenSet 16 = .ok (.iload_n 2, 1) := by decide +kernel
theorem dX1_seenSet_17 : decode cX1_seenSet 17 = .ok (.aaload, 1) := by decide +kernel
theorem dX1_seenSet_18 : decode cX1_seenSet 18 = .ok (.getfield 41, 3) := by decide +kernel
theorem dX1_seenSet_21 : decode cX1_seenSet 21 = .ok (.ifCond .ne 9, 3) := by decide +kernel
theorem dX1_seenSet_24 : decode cX1_seenSet 24 = .ok (.iload_n 1, 1) := by decide +kernel
theorem dX1_seenSet_25 : decode cX1_seenSet 25 = .ok (.iconst 1, 1) := by decide +kernel
theorem dX1_seenSet_26 : decode cX1_seenSet 26 = .ok (.iload_n 2, 1) := by decide +kernel
theorem dX1_seenSet_27 : decode cX1_seenSet 27 = .ok (.ishl, 1) := by decide +kernel
theorem dX1_seenSet_28 : decode cX1_seenSet 28 = .ok (.ior, 1) := by decide +kernel
theorem dX1_seenSet_29 : decode cX1_seenSet 29 = .ok (.istore_n 1, 1) := by decide +kernel
theorem dX1_seenSet_30 : decode cX1_seenSet 30 = .ok (.iinc 2 1, 3) := by decide +kernel
theorem dX1_seenSet_33 : decode cX1_seenSet 33 = .ok (.goto (-29), 3) := by decide +kernel
theorem dX1_seenSet_36 : decode cX1_seenSet 36 = .ok (.iload_n 1, 1) := by decide +kernel
theorem dX1_seenSet_37 : decode cX1_seenSet 37 = .ok (.ireturn, 1) := by decide +kernel
theorem dX1_answerCount_0 : decode cX1_answerCount 0 = .ok (.iconst 0, 1) := by decide +kernel
theorem dX1_answerCount_1 : decode cX1_answerCount 1 = .ok (.istore_n 1, 1) := by decide +kernel
theorem dX1_answerCount_2 : decode cX1_answerCount 2 = .ok (.iconst 0, 1) := by decide +kernel
theorem dX1_answerCount_3 : decode cX1_answerCount 3 = .ok (.istore_n 2, 1) := by decide +kernel
theorem dX1_answerCount_4 : decode cX1_answerCount 4 = .ok (.iload_n 2, 1) := by decide +kernel
theorem dX1_answerCount_5 : decode cX1_answerCount 5 = .ok (.aload_n 0, 1) := by decide +kernel
theorem dX1_answerCount_6 : decode cX1_answerCount 6 = .ok (.getfield 25, 3) := by decide +kernel
theorem dX1_answerCount_9 : decode cX1_answerCount 9 = .ok (.if_icmp .ge 20, 3) := by decide +kernel
theorem dX1_answerCount_12 : decode cX1_answerCount 12 = .ok (.aload_n 0, 1) := by decide +kernel
theorem dX1_answerCount_13 : decode cX1_answerCount 13 = .ok (.iload_n 2, 1) := by decide +kernel
theorem dX1_answerCount_14 : decode cX1_answerCount 14 = .ok (.invokevirtual 65, 3) := by decide +kernel
theorem dX1_answerCount_17 : decode cX1_answerCount 17 = .ok (.ifCond .eq 6, 3) := by decide +kernel
theorem dX1_answerCount_20 : decode cX1_answerCount 20 = .ok (.iinc 1 1, 3) := by decide +kernel
theorem dX1_answerCount_23 : decode cX1_answerCount 23 = .ok (.iinc 2 1, 3) := by decide +kernel
theorem dX1_answerCount_26 : decode cX1_answerCount 26 = .ok (.goto (-22), 3) := by decide +kernel
theorem dX1_answerCount_29 : decode cX1_answerCount 29 = .ok (.iload_n 1, 1) := by decide +kernel
theorem dX1_answerCount_30 : decode cX1_answerCount 30 = .ok (.ireturn, 1) := by decide +kernel
theorem dX1_longestTalk_0 : decode cX1_longestTalk 0 = .ok (.iconst 0, 1) := by decide +kernel
theorem dX1_longestTalk_1 : decode cX1_longestTalk 1 = .ok (.istore_n 1, 1) := by decide +kernel
theorem dX1_longestTalk_2 : decode cX1_longestTalk 2 = .ok (.iconst 0, 1) := by decide +kernel
theorem dX1_longestTalk_3 : decode cX1_longestTalk 3 = .ok (.istore_n 2, 1) := by decide +kernel
theorem dX1_longestTalk_4 : decode cX1_longestTalk 4 = .ok (.iconst 0, 1) := by decide +kernel
theorem dX1_longestTalk_5 : decode cX1_longestTalk 5 = .ok (.istore_n 3, 1) := by decide +kernel
theorem dX1_longestTalk_6 : decode cX1_longestTalk 6 = .ok (.iload_n 3, 1) := by decide +kernel
theorem dX1_longestTalk_7 : decode cX1_longestTalk 7 = .ok (.aload_n 0, 1) := by decide +kernel
theorem dX1_longestTalk_8 : decode cX1_longestTalk 8 = .ok (.getfield 25, 3) := by decide +kernel
theorem dX1_longestTalk_11 : decode cX1_longestTalk 11 = .ok (.if_icmp .ge 43, 3) := by decide +kernel
theorem dX1_longestTalk_14 : decode cX1_longestTalk 14 = .ok (.aload_n 0, 1) := by decide +kernel
theorem dX1_longestTalk_15 : decode cX1_longestTalk 15 = .ok (.getfield 11, 3) := by decide +kernel
theorem dX1_longestTalk_18 : decode cX1_longestTalk 18 = .ok (.iload_n 3, 1) := by decide +kernel
theorem dX1_longestTalk_19 : decode cX1_longestTalk 19 = .ok (.aaload, 1) := by decide +kernel
theorem dX1_longestTalk_20 : decode cX1_longestTalk 20 = .ok (.getfield 41, 3) := by decide +kernel
theorem dX1_longestTalk_23 : decode cX1_longestTalk 23 = .ok (.ifCond .ne 25, 3) := by decide +kernel
theorem dX1_longestTalk_26 : decode cX1_longestTalk 26 = .ok (.aload_n 0, 1) := by decide +kernel
theorem dX1_longestTalk_27 : decode cX1_longestTalk 27 = .ok (.iload_n 3, 1) := by decide +kernel
theorem dX1_longestTalk_28 : decode cX1_longestTalk 28 = .ok (.invokevirtual 65, 3) := by decide +kernel
theorem dX1_longestTalk_31 : decode cX1_longestTalk 31 = .ok (.ifCond .eq 9, 3) := by decide +kernel
theorem dX1_longestTalk_34 : decode cX1_longestTalk 34 = .ok (.iload_n 2, 1) := by decide +kernel
theorem dX1_longestTalk_35 : decode cX1_longestTalk 35 = .ok (.iconst 1, 1) := by decide +kernel
theorem dX1_longestTalk_36 : decode cX1_longestTalk 36 = .ok (.iadd, 1) := by decide +kernel
theorem dX1_longestTalk_37 : decode cX1_longestTalk 37 = .ok (.goto 4, 3) := by decide +kernel
theorem dX1_longestTalk_40 : decode cX1_longestTalk 40 = .ok (.iconst 1, 1) := by decide +kernel
theorem dX1_longestTalk_41 : decode cX1_longestTalk 41 = .ok (.istore_n 2, 1) := by decide +kernel
theorem dX1_longestTalk_42 : decode cX1_longestTalk 42 = .ok (.iload_n 1, 1) := by decide +kernel
theorem dX1_longestTalk_43 : decode cX1_longestTalk 43 = .ok (.iload_n 2, 1) := by decide +kernel
theorem dX1_longestTalk_44 : decode cX1_longestTalk 44 = .ok (.invokestatic 69, 3) := by decide +kernel
theorem dX1_longestTalk_47 : decode cX1_longestTalk 47 = .ok (.istore_n 1, 1) := by decide +kernel
theorem dX1_longestTalk_48 : decode cX1_longestTalk 48 = .ok (.iinc 3 1, 3) := by decide +kernel
theorem dX1_longestTalk_51 : decode cX1_longestTalk 51 = .ok (.goto (-45), 3) := by decide +kernel
theorem dX1_longestTalk_54 : decode cX1_longestTalk 54 = .ok (.iload_n 1, 1) := by decide +kernel
theorem dX1_longestTalk_55 : decode cX1_longestTalk 55 = .ok (.ireturn, 1) := by decide +kernel
theorem dX1_passYear_0 : decode cX1_passYear 0 = .ok (.iconst (-1), 1) := by decide +kernel
theorem dX1_passYear_1 : decode cX1_passYear 1 = .ok (.istore_n 1, 1) := by decide +kernel
theorem dX1_passYear_2 : decode cX1_passYear 2 = .ok (.aload_n 0, 1) := by decide +kernel
theorem dX1_passYear_3 : decode cX1_passYear 3 = .ok (.getfield 25, 3) := by decide +kernel
theorem dX1_passYear_6 : decode cX1_passYear 6 = .ok (.iconst 1, 1) := by decide +kernel
theorem dX1_passYear_7 : decode cX1_passYear 7 = .ok (.isub, 1) := by decide +kernel
theorem dX1_passYear_8 : decode cX1_passYear 8 = .ok (.istore_n 2, 1) := by decide +kernel
theorem dX1_passYear_9 : decode cX1_passYear 9 = .ok (.iload_n 2, 1) := by decide +kernel
theorem dX1_passYear_10 : decode cX1_passYear 10 = .ok (.ifCond .lt 49, 3) := by decide +kernel
theorem dX1_passYear_13 : decode cX1_passYear 13 = .ok (.aload_n 0, 1) := by decide +kernel
theorem dX1_passYear_14 : decode cX1_passYear 14 = .ok (.getfield 11, 3) := by decide +kernel
theorem dX1_passYear_17 : decode cX1_passYear 17 = .ok (.iload_n 2, 1) := by decide +kernel
theorem dX1_passYear_18 : decode cX1_passYear 18 = .ok (.aaload, 1) := by decide +kernel
theorem dX1_passYear_19 : decode cX1_passYear 19 = .ok (.getfield 41, 3) := by decide +kernel
theorem dX1_passYear_22 : decode cX1_passYear 22 = .ok (.ifCond .ne 31, 3) := by decide +kernel
theorem dX1_passYear_25 : decode cX1_passYear 25 = .ok (.iload_n 1, 1) := by decide +kernel
theorem dX1_passYear_26 : decode cX1_passYear 26 = .ok (.ifCond .lt 12, 3) := by decide +kernel
theorem dX1_passYear_29 : decode cX1_passYear 29 = .ok (.aload_n 0, 1) := by decide +kernel
theorem dX1_passYear_30 : decode cX1_passYear 30 = .ok (.iload_n 1, 1) := by decide +kernel
theorem dX1_passYear_31 : decode cX1_passYear 31 = .ok (.iload_n 2, 1) := by decide +kernel
theorem dX1_passYear_32 : decode cX1_passYear 32 = .ok (.invokevirtual 49, 3) := by decide +kernel
theorem dX1_passYear_35 : decode cX1_passYear 35 = .ok (.ifCond .ne 16, 3) := by decide +kernel
theorem dX1_passYear_38 : decode cX1_passYear 38 = .ok (.aload_n 0, 1) := by decide +kernel
theorem dX1_passYear_39 : decode cX1_passYear 39 = .ok (.getfield 11, 3) := by decide +kernel
theorem dX1_passYear_42 : decode cX1_passYear 42 = .ok (.iload_n 2, 1) := by decide +kernel
theorem dX1_passYear_43 : decode cX1_passYear 43 = .ok (.aaload, 1) := by decide +kernel
theorem dX1_passYear_44 : decode cX1_passYear 44 = .ok (.aload_n 0, 1) := by decide +kernel
theorem dX1_passYear_45 : decode cX1_passYear 45 = .ok (.getfield 17, 3) := by decide +kernel
theorem dX1_passYear_48 : decode cX1_passYear 48 = .ok (.invokevirtual 75, 3) := by decide +kernel
theorem dX1_passYear_51 : decode cX1_passYear 51 = .ok (.iload_n 2, 1) := by decide +kernel
theorem dX1_passYear_52 : decode cX1_passYear 52 = .ok (.istore_n 1, 1) := by decide +kernel
theorem dX1_passYear_53 : decode cX1_passYear 53 = .ok (.iinc 2 (-1), 3) := by decide +kernel
theorem dX1_passYear_56 : decode cX1_passYear 56 = .ok (.goto (-47), 3) := by decide +kernel
theorem dX1_passYear_59 : decode cX1_passYear 59 = .ok (.aload_n 0, 1) := by decide +kernel
theorem dX1_passYear_60 : decode cX1_passYear 60 = .ok (.dup, 1) := by decide +kernel
theorem dX1_passYear_61 : decode cX1_passYear 61 = .ok (.getfield 78, 3) := by decide +kernel
theorem dX1_passYear_64 : decode cX1_passYear 64 = .ok (.iconst 1, 1) := by decide +kernel
theorem dX1_passYear_65 : decode cX1_passYear 65 = .ok (.iadd, 1) := by decide +kernel
theorem dX1_passYear_66 : decode cX1_passYear 66 = .ok (.putfield 78, 3) := by decide +kernel
theorem dX1_passYear_69 : decode cX1_passYear 69 = .ok (.return_, 1) := by decide +kernel
theorem dX1_passYears_0 : decode cX1_passYears 0 = .ok (.iconst 0, 1) := by decide +kernel
theorem dX1_passYears_1 : decode cX1_passYears 1 = .ok (.istore_n 2, 1) := by decide +kernel
theorem dX1_passYears_2 : decode cX1_passYears 2 = .ok (.iload_n 2, 1) := by decide +kernel
theorem dX1_passYears_3 : decode cX1_passYears 3 = .ok (.iload_n 1, 1) := by decide +kernel
theorem dX1_passYears_4 : decode cX1_passYears 4 = .ok (.if_icmp .ge 13, 3) := by decide +kernel
theorem dX1_passYears_7 : decode cX1_passYears 7 = .ok (.aload_n 0, 1) := by decide +kernel
theorem dX1_passYears_8 : decode cX1_passYears 8 = .ok (.invokevirtual 81, 3) := by decide +kernel
theorem dX1_passYears_11 : decode cX1_passYears 11 = .ok (.iinc 2 1, 3) := by decide +kernel
theorem dX1_passYears_14 : decode cX1_passYears 14 = .ok (.goto (-12), 3) := by decide +kernel
theorem dX1_passYears_17 : decode cX1_passYears 17 = .ok (.return_, 1) := by decide +kernel
theorem dX1_passYearByDraws_0 : decode cX1_passYearByDraws 0 = .ok (.aload_n 0, 1) := by decide +kernel
theorem dX1_passYearByDraws_1 : decode cX1_passYearByDraws 1 = .ok (.getfield 25, 3) := by decide +kernel
theorem dX1_passYearByDraws_4 : decode cX1_passYearByDraws 4 = .ok (.bipush 12, 2) := by decide +kernel
theorem dX1_passYearByDraws_6 : decode cX1_passYearByDraws 6 = .ok (.if_icmp .ge 41, 3) := by decide +kernel
theorem dX1_passYearByDraws_9 : decode cX1_passYearByDraws 9 = .ok (.aload_n 0, 1) := by decide +kernel
theorem dX1_passYearByDraws_10 : decode cX1_passYearByDraws 10 = .ok (.invokevirtual 84, 3) := by decide +kernel
theorem dX1_passYearByDraws_13 : decode cX1_passYearByDraws 13 = .ok (.bipush 7, 2) := by decide +kernel
theorem dX1_passYearByDraws_15 : decode cX1_passYearByDraws 15 = .ok (.irem, 1) := by decide +kernel
theorem dX1_passYearByDraws_16 : decode cX1_passYearByDraws 16 = .ok (.istore_n 1, 1) := by decide +kernel
theorem dX1_passYearByDraws_17 : decode cX1_passYearByDraws 17 = .ok (.aload_n 0, 1) := by decide +kernel
theorem dX1_passYearByDraws_18 : decode cX1_passYearByDraws 18 = .ok (.invokevirtual 84, 3) := by decide +kernel
theorem dX1_passYearByDraws_21 : decode cX1_passYearByDraws 21 = .ok (.bipush 72, 2) := by decide +kernel
theorem dX1_passYearByDraws_23 : decode cX1_passYearByDraws 23 = .ok (.irem, 1) := by decide +kernel
theorem dX1_passYearByDraws_24 : decode cX1_passYearByDraws 24 = .ok (.invokestatic 87, 3) := by decide +kernel
theorem dX1_passYearByDraws_27 : decode cX1_passYearByDraws 27 = .ok (.istore_n 2, 1) := by decide +kernel
theorem dX1_passYearByDraws_28 : decode cX1_passYearByDraws 28 = .ok (.aload_n 0, 1) := by decide +kernel
theorem dX1_passYearByDraws_29 : decode cX1_passYearByDraws 29 = .ok (.invokevirtual 84, 3) := by decide +kernel
theorem dX1_passYearByDraws_32 : decode cX1_passYearByDraws 32 = .ok (.bipush 6, 2) := by decide +kernel
theorem dX1_passYearByDraws_34 : decode cX1_passYearByDraws 34 = .ok (.irem, 1) := by decide +kernel
theorem dX1_passYearByDraws_35 : decode cX1_passYearByDraws 35 = .ok (.istore_n 3, 1) := by decide +kernel
theorem dX1_passYearByDraws_36 : decode cX1_passYearByDraws 36 = .ok (.aload_n 0, 1) := by decide +kernel
theorem dX1_passYearByDraws_37 : decode cX1_passYearByDraws 37 = .ok (.bipush 10, 2) := by decide +kernel
theorem dX1_passYearByDraws_39 : decode cX1_passYearByDraws 39 = .ok (.iload_n 1, 1) := by decide +kernel
theorem dX1_passYearByDraws_40 : decode cX1_passYearByDraws 40 = .ok (.imul, 1) := by decide +kernel
theorem dX1_passYearByDraws_41 : decode cX1_passYearByDraws 41 = .ok (.iload_n 2, 1) := by decide +kernel
theorem dX1_passYearByDraws_42 : decode cX1_passYearByDraws 42 = .ok (.iload_n 3, 1) := by decide +kernel
theorem dX1_passYearByDraws_43 : decode cX1_passYearByDraws 43 = .ok (.invokevirtual 90, 3) := by decide +kernel
theorem dX1_passYearByDraws_46 : decode cX1_passYearByDraws 46 = .ok (.pop, 1) := by decide +kernel
theorem dX1_passYearByDraws_47 : decode cX1_passYearByDraws 47 = .ok (.aload_n 0, 1) := by decide +kernel
theorem dX1_passYearByDraws_48 : decode cX1_passYearByDraws 48 = .ok (.invokevirtual 81, 3) := by decide +kernel
theorem dX1_passYearByDraws_51 : decode cX1_passYearByDraws 51 = .ok (.return_, 1) := by decide +kernel
theorem dX1_nextDraw_0 : decode cX1_nextDraw 0 = .ok (.aload_n 0, 1) := by decide +kernel
theorem dX1_nextDraw_1 : decode cX1_nextDraw 1 = .ok (.aload_n 0, 1) := by decide +kernel
theorem dX1_nextDraw_2 : decode cX1_nextDraw 2 = .ok (.getfield 21, 3) := by decide +kernel
theorem dX1_nextDraw_5 : decode cX1_nextDraw 5 = .ok (.ldc 94, 2) := by decide +kernel
theorem dX1_nextDraw_7 : decode cX1_nextDraw 7 = .ok (.imul, 1) := by decide +kernel
theorem dX1_nextDraw_8 : decode cX1_nextDraw 8 = .ok (.sipush 12345, 3) := by decide +kernel
theorem dX1_nextDraw_11 : decode cX1_nextDraw 11 = .ok (.iadd, 1) := by decide +kernel
theorem dX1_nextDraw_12 : decode cX1_nextDraw 12 = .ok (.putfield 21, 3) := by decide +kernel
theorem dX1_nextDraw_15 : decode cX1_nextDraw 15 = .ok (.aload_n 0, 1) := by decide +kernel
theorem dX1_nextDraw_16 : decode cX1_nextDraw 16 = .ok (.getfield 21, 3) := by decide +kernel
theorem dX1_nextDraw_19 : decode cX1_nextDraw 19 = .ok (.bipush 8, 2) := by decide +kernel
theorem dX1_nextDraw_21 : decode cX1_nextDraw 21 = .ok (.iushr, 1) := by decide +kernel
theorem dX1_nextDraw_22 : decode cX1_nextDraw 22 = .ok (.ireturn, 1) := by decide +kernel
theorem dX1_copyFrom_0 : decode cX1_copyFrom 0 = .ok (.iconst 0, 1) := by decide +kernel
theorem dX1_copyFrom_1 : decode cX1_copyFrom 1 = .ok (.istore_n 2, 1) := by decide +kernel
theorem dX1_copyFrom_2 : decode cX1_copyFrom 2 = .ok (.iload_n 2, 1) := by decide +kernel
theorem dX1_copyFrom_3 : decode cX1_copyFrom 3 = .ok (.aload_n 1, 1) := by decide +kernel
theorem dX1_copyFrom_4 : decode cX1_copyFrom 4 = .ok (.getfield 25, 3) := by decide +kernel
theorem dX1_copyFrom_7 : decode cX1_copyFrom 7 = .ok (.if_icmp .ge 24, 3) := by decide +kernel
theorem dX1_copyFrom_10 : decode cX1_copyFrom 10 = .ok (.aload_n 0, 1) := by decide +kernel
theorem dX1_copyFrom_11 : decode cX1_copyFrom 11 = .ok (.getfield 11, 3) := by decide +kernel
theorem dX1_copyFrom_14 : decode cX1_copyFrom 14 = .ok (.iload_n 2, 1) := by decide +kernel
theorem dX1_copyFrom_15 : decode cX1_copyFrom 15 = .ok (.aaload, 1) := by decide +kernel
theorem dX1_copyFrom_16 : decode cX1_copyFrom 16 = .ok (.aload_n 1, 1) := by decide +kernel
theorem dX1_copyFrom_17 : decode cX1_copyFrom 17 = .ok (.getfield 11, 3) := by decide +kernel
theorem dX1_copyFrom_20 : decode cX1_copyFrom 20 = .ok (.iload_n 2, 1) := by decide +kernel
theorem dX1_copyFrom_21 : decode cX1_copyFrom 21 = .ok (.aaload, 1) := by decide +kernel
theorem dX1_copyFrom_22 : decode cX1_copyFrom 22 = .ok (.invokevirtual 95, 3) := by decide +kernel
theorem dX1_copyFrom_25 : decode cX1_copyFrom 25 = .ok (.iinc 2 1, 3) := by decide +kernel
theorem dX1_copyFrom_28 : decode cX1_copyFrom 28 = .ok (.goto (-26), 3) := by decide +kernel
theorem dX1_copyFrom_31 : decode cX1_copyFrom 31 = .ok (.aload_n 0, 1) := by decide +kernel
theorem dX1_copyFrom_32 : decode cX1_copyFrom 32 = .ok (.aload_n 1, 1) := by decide +kernel
theorem dX1_copyFrom_33 : decode cX1_copyFrom 33 = .ok (.getfield 25, 3) := by decide +kernel
theorem dX1_copyFrom_36 : decode cX1_copyFrom 36 = .ok (.putfield 25, 3) := by decide +kernel
theorem dX1_copyFrom_39 : decode cX1_copyFrom 39 = .ok (.aload_n 0, 1) := by decide +kernel
theorem dX1_copyFrom_40 : decode cX1_copyFrom 40 = .ok (.aload_n 1, 1) := by decide +kernel
theorem dX1_copyFrom_41 : decode cX1_copyFrom 41 = .ok (.getfield 78, 3) := by decide +kernel
theorem dX1_copyFrom_44 : decode cX1_copyFrom 44 = .ok (.putfield 78, 3) := by decide +kernel
theorem dX1_copyFrom_47 : decode cX1_copyFrom 47 = .ok (.aload_n 0, 1) := by decide +kernel
theorem dX1_copyFrom_48 : decode cX1_copyFrom 48 = .ok (.aload_n 1, 1) := by decide +kernel
theorem dX1_copyFrom_49 : decode cX1_copyFrom 49 = .ok (.getfield 17, 3) := by decide +kernel
theorem dX1_copyFrom_52 : decode cX1_copyFrom 52 = .ok (.putfield 17, 3) := by decide +kernel
theorem dX1_copyFrom_55 : decode cX1_copyFrom 55 = .ok (.aload_n 0, 1) := by decide +kernel
theorem dX1_copyFrom_56 : decode cX1_copyFrom 56 = .ok (.aload_n 1, 1) := by decide +kernel
theorem dX1_copyFrom_57 : decode cX1_copyFrom 57 = .ok (.getfield 21, 3) := by decide +kernel
theorem dX1_copyFrom_60 : decode cX1_copyFrom 60 = .ok (.putfield 21, 3) := by decide +kernel
theorem dX1_copyFrom_63 : decode cX1_copyFrom 63 = .ok (.return_, 1) := by decide +kernel
theorem dX2_init_0 : decode cX2_init 0 = .ok (.aload_n 0, 1) := by decide +kernel
theorem dX2_init_1 : decode cX2_init 1 = .ok (.invokespecial 3, 3) := by decide +kernel
theorem dX2_init_4 : decode cX2_init 4 = .ok (.aload_n 0, 1) := by decide +kernel
theorem dX2_init_5 : decode cX2_init 5 = .ok (.iconst 1, 1) := by decide +kernel
theorem dX2_init_6 : decode cX2_init 6 = .ok (.putfield 9, 3) := by decide +kernel
theorem dX2_init_9 : decode cX2_init 9 = .ok (.return_, 1) := by decide +kernel
theorem dX2_setKindAndNumber_0 : decode cX2_setKindAndNumber 0 = .ok (.aload_n 0, 1) := by decide +kernel
theorem dX2_setKindAndNumber_1 : decode cX2_setKindAndNumber 1 = .ok (.iload_n 1, 1) := by decide +kernel
theorem dX2_setKindAndNumber_2 : decode cX2_setKindAndNumber 2 = .ok (.bipush 10, 2) := by decide +kernel
theorem dX2_setKindAndNumber_4 : decode cX2_setKindAndNumber 4 = .ok (.idiv, 1) := by decide +kernel
theorem dX2_setKindAndNumber_5 : decode cX2_setKindAndNumber 5 = .ok (.putfield 15, 3) := by decide +kernel
theorem dX2_setKindAndNumber_8 : decode cX2_setKindAndNumber 8 = .ok (.aload_n 0, 1) := by decide +kernel
theorem dX2_setKindAndNumber_9 : decode cX2_setKindAndNumber 9 = .ok (.iload_n 1, 1) := by decide +kernel
theorem dX2_setKindAndNumber_10 : decode cX2_setKindAndNumber 10 = .ok (.bipush 10, 2) := by decide +kernel
theorem dX2_setKindAndNumber_12 : decode cX2_setKindAndNumber 12 = .ok (.irem, 1) := by decide +kernel
theorem dX2_setKindAndNumber_13 : decode cX2_setKindAndNumber 13 = .ok (.putfield 18, 3) := by decide +kernel
theorem dX2_setKindAndNumber_16 : decode cX2_setKindAndNumber 16 = .ok (.return_, 1) := by decide +kernel
theorem dX2_setLine_0 : decode cX2_setLine 0 = .ok (.aload_n 0, 1) := by decide +kernel
theorem dX2_setLine_1 : decode cX2_setLine 1 = .ok (.iload_n 1, 1) := by decide +kernel
theorem dX2_setLine_2 : decode cX2_setLine 2 = .ok (.bipush 10, 2) := by decide +kernel
theorem dX2_setLine_4 : decode cX2_setLine 4 = .ok (.idiv, 1) := by decide +kernel
theorem dX2_setLine_5 : decode cX2_setLine 5 = .ok (.putfield 9, 3) := by decide +kernel
theorem dX2_setLine_8 : decode cX2_setLine 8 = .ok (.aload_n 0, 1) := by decide +kernel
theorem dX2_setLine_9 : decode cX2_setLine 9 = .ok (.iload_n 1, 1) := by decide +kernel
theorem dX2_setLine_10 : decode cX2_setLine 10 = .ok (.bipush 10, 2) := by decide +kernel
theorem dX2_setLine_12 : decode cX2_setLine 12 = .ok (.irem, 1) := by decide +kernel
theorem dX2_setLine_13 : decode cX2_setLine 13 = .ok (.putfield 21, 3) := by decide +kernel
theorem dX2_setLine_16 : decode cX2_setLine 16 = .ok (.return_, 1) := by decide +kernel
theorem dX2_line_0 : decode cX2_line 0 = .ok (.bipush 10, 2) := by decide +kernel
theorem dX2_line_2 : decode cX2_line 2 = .ok (.aload_n 0, 1) := by decide +kernel
theorem dX2_line_3 : decode cX2_line 3 = .ok (.getfield 9, 3) := by decide +kernel
theorem dX2_line_6 : decode cX2_line 6 = .ok (.imul, 1) := by decide +kernel
theorem dX2_line_7 : decode cX2_line 7 = .ok (.aload_n 0, 1) := by decide +kernel
theorem dX2_line_8 : decode cX2_line 8 = .ok (.getfield 21, 3) := by decide +kernel
theorem dX2_line_11 : decode cX2_line 11 = .ok (.iadd, 1) := by decide +kernel
theorem dX2_line_12 : decode cX2_line 12 = .ok (.ireturn, 1) := by decide +kernel
theorem dX2_isOfKind_0 : decode cX2_isOfKind 0 = .ok (.aload_n 0, 1) := by decide +kernel
theorem dX2_isOfKind_1 : decode cX2_isOfKind 1 = .ok (.getfield 15, 3) := by decide +kernel
theorem dX2_isOfKind_4 : decode cX2_isOfKind 4 = .ok (.istore_n 2, 1) := by decide +kernel
theorem dX2_isOfKind_5 : decode cX2_isOfKind 5 = .ok (.iconst 0, 1) := by decide +kernel
theorem dX2_isOfKind_6 : decode cX2_isOfKind 6 = .ok (.istore_n 3, 1) := by decide +kernel
theorem dX2_isOfKind_7 : decode cX2_isOfKind 7 = .ok (.iload_n 3, 1) := by decide +kernel
theorem dX2_isOfKind_8 : decode cX2_isOfKind 8 = .ok (.bipush 7, 2) := by decide +kernel
theorem dX2_isOfKind_10 : decode cX2_isOfKind 10 = .ok (.if_icmp .ge 29, 3) := by decide +kernel
theorem dX2_isOfKind_13 : decode cX2_isOfKind 13 = .ok (.iload_n 2, 1) := by decide +kernel
theorem dX2_isOfKind_14 : decode cX2_isOfKind 14 = .ok (.invokestatic 24, 3) := by decide +kernel
theorem dX2_isOfKind_17 : decode cX2_isOfKind 17 = .ok (.ifCond .eq 22, 3) := by decide +kernel
theorem dX2_isOfKind_20 : decode cX2_isOfKind 20 = .ok (.iload_n 2, 1) := by decide +kernel
theorem dX2_isOfKind_21 : decode cX2_isOfKind 21 = .ok (.iload_n 1, 1) := by decide +kernel
theorem dX2_isOfKind_22 : decode cX2_isOfKind 22 = .ok (.if_icmp .ne 5, 3) := by decide +kernel
theorem dX2_isOfKind_25 : decode cX2_isOfKind 25 = .ok (.iconst 1, 1) := by decide +kernel
theorem dX2_isOfKind_26 : decode cX2_isOfKind 26 = .ok (.ireturn, 1) := by decide +kernel
theorem dX2_isOfKind_27 : decode cX2_isOfKind 27 = .ok (.getstatic 28, 3) := by decide +kernel
theorem dX2_isOfKind_30 : decode cX2_isOfKind 30 = .ok (.iload_n 2, 1) := by decide +kernel
theorem dX2_isOfKind_31 : decode cX2_isOfKind 31 = .ok (.iaload, 1) := by decide +kernel
theorem dX2_isOfKind_32 : decode cX2_isOfKind 32 = .ok (.istore_n 2, 1) := by decide +kernel
theorem dX2_isOfKind_33 : decode cX2_isOfKind 33 = .ok (.iinc 3 1, 3) := by decide +kernel
theorem dX2_isOfKind_36 : decode cX2_isOfKind 36 = .ok (.goto (-29), 3) := by decide +kernel
theorem dX2_isOfKind_39 : decode cX2_isOfKind 39 = .ok (.iconst 0, 1) := by decide +kernel
theorem dX2_isOfKind_40 : decode cX2_isOfKind 40 = .ok (.ireturn, 1) := by decide +kernel
theorem dX2_echoes_0 : decode cX2_echoes 0 = .ok (.aload_n 0, 1) := by decide +kernel
theorem dX2_echoes_1 : decode cX2_echoes 1 = .ok (.getfield 15, 3) := by decide +kernel
theorem dX2_echoes_4 : decode cX2_echoes 4 = .ok (.tableswitch 179 1 6 #[40, 57, 74, 109, 137, 154], 40) := by decide +kernel
theorem dX2_echoes_44 : decode cX2_echoes 44 = .ok (.aload_n 0, 1) := by decide +kernel
theorem dX2_echoes_45 : decode cX2_echoes 45 = .ok (.getfield 9, 3) := by decide +kernel
theorem dX2_echoes_48 : decode cX2_echoes 48 = .ok (.aload_n 1, 1) := by decide +kernel
theorem dX2_echoes_49 : decode cX2_echoes 49 = .ok (.getfield 9, 3) := by decide +kernel
theorem dX2_echoes_52 : decode cX2_echoes 52 = .ok (.if_icmp .ne 7, 3) := by decide +kernel
theorem dX2_echoes_55 : decode cX2_echoes 55 = .ok (.iconst 1, 1) := by decide +kernel
theorem dX2_echoes_56 : decode cX2_echoes 56 = .ok (.goto 4, 3) := by decide +kernel
theorem dX2_echoes_59 : decode cX2_echoes 59 = .ok (.iconst 0, 1) := by decide +kernel
theorem dX2_echoes_60 : decode cX2_echoes 60 = .ok (.ireturn, 1) := by decide +kernel
theorem dX2_echoes_61 : decode cX2_echoes 61 = .ok (.aload_n 0, 1) := by decide +kernel
theorem dX2_echoes_62 : decode cX2_echoes 62 = .ok (.getfield 21, 3) := by decide +kernel
theorem dX2_echoes_65 : decode cX2_echoes 65 = .ok (.aload_n 1, 1) := by decide +kernel
theorem dX2_echoes_66 : decode cX2_echoes 66 = .ok (.getfield 21, 3) := by decide +kernel
theorem dX2_echoes_69 : decode cX2_echoes 69 = .ok (.if_icmp .lt 7, 3) := by decide +kernel
theorem dX2_echoes_72 : decode cX2_echoes 72 = .ok (.iconst 1, 1) := by decide +kernel
theorem dX2_echoes_73 : decode cX2_echoes 73 = .ok (.goto 4, 3) := by decide +kernel
theorem dX2_echoes_76 : decode cX2_echoes 76 = .ok (.iconst 0, 1) := by decide +kernel
theorem dX2_echoes_77 : decode cX2_echoes 77 = .ok (.ireturn, 1) := by decide +kernel
theorem dX2_echoes_78 : decode cX2_echoes 78 = .ok (.aload_n 0, 1) := by decide +kernel
theorem dX2_echoes_79 : decode cX2_echoes 79 = .ok (.aload_n 1, 1) := by decide +kernel
theorem dX2_echoes_80 : decode cX2_echoes 80 = .ok (.invokevirtual 32, 3) := by decide +kernel
theorem dX2_echoes_83 : decode cX2_echoes 83 = .ok (.ifCond .ne 24, 3) := by decide +kernel
theorem dX2_echoes_86 : decode cX2_echoes 86 = .ok (.aload_n 0, 1) := by decide +kernel
theorem dX2_echoes_87 : decode cX2_echoes 87 = .ok (.getfield 9, 3) := by decide +kernel
theorem dX2_echoes_90 : decode cX2_echoes 90 = .ok (.aload_n 0, 1) := by decide +kernel
theorem dX2_echoes_91 : decode cX2_echoes 91 = .ok (.getfield 21, 3) := by decide +kernel
theorem dX2_echoes_94 : decode cX2_echoes 94 = .ok (.iadd, 1) := by decide +kernel
theorem dX2_echoes_95 : decode cX2_echoes 95 = .ok (.aload_n 1, 1) := by decide +kernel
theorem dX2_echoes_96 : decode cX2_echoes 96 = .ok (.getfield 9, 3) := by decide +kernel
theorem dX2_echoes_99 : decode cX2_echoes 99 = .ok (.aload_n 1, 1) := by decide +kernel
theorem dX2_echoes_100 : decode cX2_echoes 100 = .ok (.getfield 21, 3) := by decide +kernel
theorem dX2_echoes_103 : decode cX2_echoes 103 = .ok (.iadd, 1) := by decide +kernel
theorem dX2_echoes_104 : decode cX2_echoes 104 = .ok (.if_icmp .ne 7, 3) := by decide +kernel
theorem dX2_echoes_107 : decode cX2_echoes 107 = .ok (.iconst 1, 1) := by decide +kernel
theorem dX2_echoes_108 : decode cX2_echoes 108 = .ok (.goto 4, 3) := by decide +kernel
theorem dX2_echoes_111 : decode cX2_echoes 111 = .ok (.iconst 0, 1) := by decide +kernel
theorem dX2_echoes_112 : decode cX2_echoes 112 = .ok (.ireturn, 1) := by decide +kernel
theorem dX2_echoes_113 : decode cX2_echoes 113 = .ok (.aload_n 0, 1) := by decide +kernel
theorem dX2_echoes_114 : decode cX2_echoes 114 = .ok (.getfield 9, 3) := by decide +kernel
theorem dX2_echoes_117 : decode cX2_echoes 117 = .ok (.aload_n 1, 1) := by decide +kernel
theorem dX2_echoes_118 : decode cX2_echoes 118 = .ok (.getfield 9, 3) := by decide +kernel
theorem dX2_echoes_121 : decode cX2_echoes 121 = .ok (.if_icmp .ne 18, 3) := by decide +kernel
theorem dX2_echoes_124 : decode cX2_echoes 124 = .ok (.aload_n 0, 1) := by decide +kernel
theorem dX2_echoes_125 : decode cX2_echoes 125 = .ok (.getfield 21, 3) := by decide +kernel
theorem dX2_echoes_128 : decode cX2_echoes 128 = .ok (.aload_n 1, 1) := by decide +kernel
theorem dX2_echoes_129 : decode cX2_echoes 129 = .ok (.getfield 21, 3) := by decide +kernel
theorem dX2_echoes_132 : decode cX2_echoes 132 = .ok (.if_icmp .ne 7, 3) := by decide +kernel
theorem dX2_echoes_135 : decode cX2_echoes 135 = .ok (.iconst 1, 1) := by decide +kernel
theorem dX2_echoes_136 : decode cX2_echoes 136 = .ok (.goto 4, 3) := by decide +kernel
theorem dX2_echoes_139 : decode cX2_echoes 139 = .ok (.iconst 0, 1) := by decide +kernel
theorem dX2_echoes_140 : decode cX2_echoes 140 = .ok (.ireturn, 1) := by decide +kernel
theorem dX2_echoes_141 : decode cX2_echoes 141 = .ok (.aload_n 0, 1) := by decide +kernel
theorem dX2_echoes_142 : decode cX2_echoes 142 = .ok (.getfield 21, 3) := by decide +kernel
theorem dX2_echoes_145 : decode cX2_echoes 145 = .ok (.aload_n 1, 1) := by decide +kernel
theorem dX2_echoes_146 : decode cX2_echoes 146 = .ok (.getfield 21, 3) := by decide +kernel
theorem dX2_echoes_149 : decode cX2_echoes 149 = .ok (.if_icmp .ge 7, 3) := by decide +kernel
theorem dX2_echoes_152 : decode cX2_echoes 152 = .ok (.iconst 1, 1) := by decide +kernel
theorem dX2_echoes_153 : decode cX2_echoes 153 = .ok (.goto 4, 3) := by decide +kernel
theorem dX2_echoes_156 : decode cX2_echoes 156 = .ok (.iconst 0, 1) := by decide +kernel
theorem dX2_echoes_157 : decode cX2_echoes 157 = .ok (.ireturn, 1) := by decide +kernel
theorem dX2_echoes_158 : decode cX2_echoes 158 = .ok (.aload_n 0, 1) := by decide +kernel
theorem dX2_echoes_159 : decode cX2_echoes 159 = .ok (.aload_n 1, 1) := by decide +kernel
theorem dX2_echoes_160 : decode cX2_echoes 160 = .ok (.invokevirtual 32, 3) := by decide +kernel
theorem dX2_echoes_163 : decode cX2_echoes 163 = .ok (.ifCond .ne 14, 3) := by decide +kernel
theorem dX2_echoes_166 : decode cX2_echoes 166 = .ok (.aload_n 0, 1) := by decide +kernel
theorem dX2_echoes_167 : decode cX2_echoes 167 = .ok (.getfield 36, 3) := by decide +kernel
theorem dX2_echoes_170 : decode cX2_echoes 170 = .ok (.aload_n 1, 1) := by decide +kernel
theorem dX2_echoes_171 : decode cX2_echoes 171 = .ok (.getfield 36, 3) := by decide +kernel
theorem dX2_echoes_174 : decode cX2_echoes 174 = .ok (.if_icmp .ne 7, 3) := by decide +kernel
theorem dX2_echoes_177 : decode cX2_echoes 177 = .ok (.iconst 1, 1) := by decide +kernel
theorem dX2_echoes_178 : decode cX2_echoes 178 = .ok (.goto 4, 3) := by decide +kernel
theorem dX2_echoes_181 : decode cX2_echoes 181 = .ok (.iconst 0, 1) := by decide +kernel
theorem dX2_echoes_182 : decode cX2_echoes 182 = .ok (.ireturn, 1) := by decide +kernel
theorem dX2_echoes_183 : decode cX2_echoes 183 = .ok (.aload_n 0, 1) := by decide +kernel
theorem dX2_echoes_184 : decode cX2_echoes 184 = .ok (.aload_n 1, 1) := by decide +kernel
theorem dX2_echoes_185 : decode cX2_echoes 185 = .ok (.invokevirtual 32, 3) := by decide +kernel
theorem dX2_echoes_188 : decode cX2_echoes 188 = .ok (.ireturn, 1) := by decide +kernel
theorem dX2_isAlike_0 : decode cX2_isAlike 0 = .ok (.aload_n 0, 1) := by decide +kernel
theorem dX2_isAlike_1 : decode cX2_isAlike 1 = .ok (.getfield 9, 3) := by decide +kernel
theorem dX2_isAlike_4 : decode cX2_isAlike 4 = .ok (.aload_n 1, 1) := by decide +kernel
theorem dX2_isAlike_5 : decode cX2_isAlike 5 = .ok (.getfield 9, 3) := by decide +kernel
theorem dX2_isAlike_8 : decode cX2_isAlike 8 = .ok (.if_icmp .eq 14, 3) := by decide +kernel
theorem dX2_isAlike_11 : decode cX2_isAlike 11 = .ok (.aload_n 0, 1) := by decide +kernel
theorem dX2_isAlike_12 : decode cX2_isAlike 12 = .ok (.getfield 21, 3) := by decide +kernel
theorem dX2_isAlike_15 : decode cX2_isAlike 15 = .ok (.aload_n 1, 1) := by decide +kernel
theorem dX2_isAlike_16 : decode cX2_isAlike 16 = .ok (.getfield 21, 3) := by decide +kernel
theorem dX2_isAlike_19 : decode cX2_isAlike 19 = .ok (.if_icmp .ne 7, 3) := by decide +kernel
theorem dX2_isAlike_22 : decode cX2_isAlike 22 = .ok (.iconst 1, 1) := by decide +kernel
theorem dX2_isAlike_23 : decode cX2_isAlike 23 = .ok (.goto 4, 3) := by decide +kernel
theorem dX2_isAlike_26 : decode cX2_isAlike 26 = .ok (.iconst 0, 1) := by decide +kernel
theorem dX2_isAlike_27 : decode cX2_isAlike 27 = .ok (.ireturn, 1) := by decide +kernel
theorem dX2_depth_0 : decode cX2_depth 0 = .ok (.aload_n 0, 1) := by decide +kernel
theorem dX2_depth_1 : decode cX2_depth 1 = .ok (.getfield 15, 3) := by decide +kernel
theorem dX2_depth_4 : decode cX2_depth 4 = .ok (.tableswitch 85 1 6 #[40, 47, 85, 54, 66, 75], 40) := by decide +kernel
theorem dX2_depth_44 : decode cX2_depth 44 = .ok (.aload_n 0, 1) := by decide +kernel
theorem dX2_depth_45 : decode cX2_depth 45 = .ok (.getfield 18, 3) := by decide +kernel
theorem dX2_depth_48 : decode cX2_depth 48 = .ok (.iconst 2, 1) := by decide +kernel
theorem dX2_depth_49 : decode cX2_depth 49 = .ok (.iadd, 1) := by decide +kernel
theorem dX2_depth_50 : decode cX2_depth 50 = .ok (.ireturn, 1) := by decide +kernel
theorem dX2_depth_51 : decode cX2_depth 51 = .ok (.iconst 2, 1) := by decide +kernel
theorem dX2_depth_52 : decode cX2_depth 52 = .ok (.aload_n 0, 1) := by decide +kernel
theorem dX2_depth_53 : decode cX2_depth 53 = .ok (.getfield 18, 3) := by decide +kernel
theorem dX2_depth_56 : decode cX2_depth 56 = .ok (.imul, 1) := by decide +kernel
theorem dX2_depth_57 : decode cX2_depth 57 = .ok (.ireturn, 1) := by decide +kernel
theorem dX2_depth_58 : decode cX2_depth 58 = .ok (.aload_n 0, 1) := by decide +kernel
theorem dX2_depth_59 : decode cX2_depth 59 = .ok (.getfield 18, 3) := by decide +kernel
theorem dX2_depth_62 : decode cX2_depth 62 = .ok (.iconst 2, 1) := by decide +kernel
theorem dX2_depth_63 : decode cX2_depth 63 = .ok (.iadd, 1) := by decide +kernel
theorem dX2_depth_64 : decode cX2_depth 64 = .ok (.aload_n 0, 1) := by decide +kernel
theorem dX2_depth_65 : decode cX2_depth 65 = .ok (.getfield 21, 3) := by decide +kernel
theorem dX2_depth_68 : decode cX2_depth 68 = .ok (.iadd, 1) := by decide +kernel
theorem dX2_depth_69 : decode cX2_depth 69 = .ok (.ireturn, 1) := by decide +kernel
theorem dX2_depth_70 : decode cX2_depth 70 = .ok (.iconst 2, 1) := by decide +kernel
theorem dX2_depth_71 : decode cX2_depth 71 = .ok (.aload_n 0, 1) := by decide +kernel
theorem dX2_depth_72 : decode cX2_depth 72 = .ok (.getfield 18, 3) := by decide +kernel
theorem dX2_depth_75 : decode cX2_depth 75 = .ok (.imul, 1) := by decide +kernel
theorem dX2_depth_76 : decode cX2_depth 76 = .ok (.iconst 1, 1) := by decide +kernel
theorem dX2_depth_77 : decode cX2_depth 77 = .ok (.isub, 1) := by decide +kernel
theorem dX2_depth_78 : decode cX2_depth 78 = .ok (.ireturn, 1) := by decide +kernel
theorem dX2_depth_79 : decode cX2_depth 79 = .ok (.aload_n 0, 1) := by decide +kernel
theorem dX2_depth_80 : decode cX2_depth 80 = .ok (.getfield 18, 3) := by decide +kernel
theorem dX2_depth_83 : decode cX2_depth 83 = .ok (.aload_n 0, 1) := by decide +kernel
theorem dX2_depth_84 : decode cX2_depth 84 = .ok (.getfield 9, 3) := by decide +kernel
theorem dX2_depth_87 : decode cX2_depth 87 = .ok (.iadd, 1) := by decide +kernel
theorem dX2_depth_88 : decode cX2_depth 88 = .ok (.ireturn, 1) := by decide +kernel
theorem dX2_depth_89 : decode cX2_depth 89 = .ok (.aload_n 0, 1) := by decide +kernel
theorem dX2_depth_90 : decode cX2_depth 90 = .ok (.getfield 18, 3) := by decide +kernel
theorem dX2_depth_93 : decode cX2_depth 93 = .ok (.ireturn, 1) := by decide +kernel
theorem dX2_goUnheard_0 : decode cX2_goUnheard 0 = .ok (.aload_n 0, 1) := by decide +kernel
theorem dX2_goUnheard_1 : decode cX2_goUnheard 1 = .ok (.bipush 99, 2) := by decide +kernel
theorem dX2_goUnheard_3 : decode cX2_goUnheard 3 = .ok (.aload_n 0, 1) := by decide +kernel
theorem dX2_goUnheard_4 : decode cX2_goUnheard 4 = .ok (.getfield 39, 3) := by decide +kernel
theorem dX2_goUnheard_7 : decode cX2_goUnheard 7 = .ok (.iconst 1, 1) := by decide +kernel
theorem dX2_goUnheard_8 : decode cX2_goUnheard 8 = .ok (.iadd, 1) := by decide +kernel
theorem dX2_goUnheard_9 : decode cX2_goUnheard 9 = .ok (.invokestatic 42, 3) := by decide +kernel
theorem dX2_goUnheard_12 : decode cX2_goUnheard 12 = .ok (.putfield 39, 3) := by decide +kernel
theorem dX2_goUnheard_15 : decode cX2_goUnheard 15 = .ok (.aload_n 0, 1) := by decide +kernel
theorem dX2_goUnheard_16 : decode cX2_goUnheard 16 = .ok (.getfield 39, 3) := by decide +kernel
theorem dX2_goUnheard_19 : decode cX2_goUnheard 19 = .ok (.iload_n 1, 1) := by decide +kernel
theorem dX2_goUnheard_20 : decode cX2_goUnheard 20 = .ok (.if_icmp .lt 8, 3) := by decide +kernel
theorem dX2_goUnheard_23 : decode cX2_goUnheard 23 = .ok (.aload_n 0, 1) := by decide +kernel
theorem dX2_goUnheard_24 : decode cX2_goUnheard 24 = .ok (.iconst 1, 1) := by decide +kernel
theorem dX2_goUnheard_25 : decode cX2_goUnheard 25 = .ok (.putfield 48, 3) := by decide +kernel
theorem dX2_goUnheard_28 : decode cX2_goUnheard 28 = .ok (.return_, 1) := by decide +kernel
theorem dX2_copyFrom_0 : decode cX2_copyFrom 0 = .ok (.aload_n 0, 1) := by decide +kernel
theorem dX2_copyFrom_1 : decode cX2_copyFrom 1 = .ok (.aload_n 1, 1) := by decide +kernel
theorem dX2_copyFrom_2 : decode cX2_copyFrom 2 = .ok (.getfield 15, 3) := by decide +kernel
theorem dX2_copyFrom_5 : decode cX2_copyFrom 5 = .ok (.putfield 15, 3) := by decide +kernel
theorem dX2_copyFrom_8 : decode cX2_copyFrom 8 = .ok (.aload_n 0, 1) := by decide +kernel
theorem dX2_copyFrom_9 : decode cX2_copyFrom 9 = .ok (.aload_n 1, 1) := by decide +kernel
theorem dX2_copyFrom_10 : decode cX2_copyFrom 10 = .ok (.getfield 18, 3) := by decide +kernel
theorem dX2_copyFrom_13 : decode cX2_copyFrom 13 = .ok (.putfield 18, 3) := by decide +kernel
theorem dX2_copyFrom_16 : decode cX2_copyFrom 16 = .ok (.aload_n 0, 1) := by decide +kernel
theorem dX2_copyFrom_17 : decode cX2_copyFrom 17 = .ok (.aload_n 1, 1) := by decide +kernel
theorem dX2_copyFrom_18 : decode cX2_copyFrom 18 = .ok (.getfield 9, 3) := by decide +kernel
theorem dX2_copyFrom_21 : decode cX2_copyFrom 21 = .ok (.putfield 9, 3) := by decide +kernel
theorem dX2_copyFrom_24 : decode cX2_copyFrom 24 = .ok (.aload_n 0, 1) := by decide +kernel
theorem dX2_copyFrom_25 : decode cX2_copyFrom 25 = .ok (.aload_n 1, 1) := by decide +kernel
theorem dX2_copyFrom_26 : decode cX2_copyFrom 26 = .ok (.getfield 21, 3) := by decide +kernel
theorem dX2_copyFrom_29 : decode cX2_copyFrom 29 = .ok (.putfield 21, 3) := by decide +kernel
theorem dX2_copyFrom_32 : decode cX2_copyFrom 32 = .ok (.aload_n 0, 1) := by decide +kernel
theorem dX2_copyFrom_33 : decode cX2_copyFrom 33 = .ok (.aload_n 1, 1) := by decide +kernel
theorem dX2_copyFrom_34 : decode cX2_copyFrom 34 = .ok (.getfield 36, 3) := by decide +kernel
theorem dX2_copyFrom_37 : decode cX2_copyFrom 37 = .ok (.putfield 36, 3) := by decide +kernel
theorem dX2_copyFrom_40 : decode cX2_copyFrom 40 = .ok (.aload_n 0, 1) := by decide +kernel
theorem dX2_copyFrom_41 : decode cX2_copyFrom 41 = .ok (.aload_n 1, 1) := by decide +kernel
theorem dX2_copyFrom_42 : decode cX2_copyFrom 42 = .ok (.getfield 39, 3) := by decide +kernel
theorem dX2_copyFrom_45 : decode cX2_copyFrom 45 = .ok (.putfield 39, 3) := by decide +kernel
theorem dX2_copyFrom_48 : decode cX2_copyFrom 48 = .ok (.aload_n 0, 1) := by decide +kernel
theorem dX2_copyFrom_49 : decode cX2_copyFrom 49 = .ok (.aload_n 1, 1) := by decide +kernel
theorem dX2_copyFrom_50 : decode cX2_copyFrom 50 = .ok (.getfield 48, 3) := by decide +kernel
theorem dX2_copyFrom_53 : decode cX2_copyFrom 53 = .ok (.putfield 48, 3) := by decide +kernel
theorem dX2_copyFrom_56 : decode cX2_copyFrom 56 = .ok (.return_, 1) := by decide +kernel
theorem dX3_init_0 : decode cX3_init 0 = .ok (.aload_n 0, 1) := by decide +kernel
theorem dX3_init_1 : decode cX3_init 1 = .ok (.invokespecial 3, 3) := by decide +kernel
theorem dX3_init_4 : decode cX3_init 4 = .ok (.aload_n 0, 1) := by decide +kernel
theorem dX3_init_5 : decode cX3_init 5 = .ok (.bipush 60, 2) := by decide +kernel
theorem dX3_init_7 : decode cX3_init 7 = .ok (.newarray .int, 2) := by decide +kernel
theorem dX3_init_9 : decode cX3_init 9 = .ok (.putfield 9, 3) := by decide +kernel
theorem dX3_init_12 : decode cX3_init 12 = .ok (.aload_n 0, 1) := by decide +kernel
theorem dX3_init_13 : decode cX3_init 13 = .ok (.bipush 60, 2) := by decide +kernel
theorem dX3_init_15 : decode cX3_init 15 = .ok (.newarray .int, 2) := by decide +kernel
theorem dX3_init_17 : decode cX3_init 17 = .ok (.putfield 15, 3) := by decide +kernel
theorem dX3_init_20 : decode cX3_init 20 = .ok (.return_, 1) := by decide +kernel
theorem dX3_isGiven_0 : decode cX3_isGiven 0 = .ok (.aload_n 0, 1) := by decide +kernel
theorem dX3_isGiven_1 : decode cX3_isGiven 1 = .ok (.getfield 18, 3) := by decide +kernel
theorem dX3_isGiven_4 : decode cX3_isGiven 4 = .ok (.ifCond .le 7, 3) := by decide +kernel
theorem dX3_isGiven_7 : decode cX3_isGiven 7 = .ok (.iconst 1, 1) := by decide +kernel
theorem dX3_isGiven_8 : decode cX3_isGiven 8 = .ok (.goto 4, 3) := by decide +kernel
theorem dX3_isGiven_11 : decode cX3_isGiven 11 = .ok (.iconst 0, 1) := by decide +kernel
theorem dX3_isGiven_12 : decode cX3_isGiven 12 = .ok (.ireturn, 1) := by decide +kernel
theorem dX3_clear_0 : decode cX3_clear 0 = .ok (.aload_n 0, 1) := by decide +kernel
theorem dX3_clear_1 : decode cX3_clear 1 = .ok (.iconst 0, 1) := by decide +kernel
theorem dX3_clear_2 : decode cX3_clear 2 = .ok (.putfield 18, 3) := by decide +kernel
theorem dX3_clear_5 : decode cX3_clear 5 = .ok (.return_, 1) := by decide +kernel
theorem dX3_add_0 : decode cX3_add 0 = .ok (.aload_n 0, 1) := by decide +kernel
theorem dX3_add_1 : decode cX3_add 1 = .ok (.getfield 18, 3) := by decide +kernel
theorem dX3_add_4 : decode cX3_add 4 = .ok (.aload_n 0, 1) := by decide +kernel
theorem dX3_add_5 : decode cX3_add 5 = .ok (.getfield 9, 3) := by decide +kernel
theorem dX3_add_8 : decode cX3_add 8 = .ok (.arraylength, 1) := by decide +kernel
theorem dX3_add_9 : decode cX3_add 9 = .ok (.if_icmp .ge 23, 3) := by decide +kernel
theorem dX3_add_12 : decode cX3_add 12 = .ok (.aload_n 0, 1) := by decide +kernel
theorem dX3_add_13 : decode cX3_add 13 = .ok (.getfield 9, 3) := by decide +kernel
theorem dX3_add_16 : decode cX3_add 16 = .ok (.aload_n 0, 1) := by decide +kernel
theorem dX3_add_17 : decode cX3_add 17 = .ok (.getfield 18, 3) := by decide +kernel
theorem dX3_add_20 : decode cX3_add 20 = .ok (.iload_n 1, 1) := by decide +kernel
theorem dX3_add_21 : decode cX3_add 21 = .ok (.iastore, 1) := by decide +kernel
theorem dX3_add_22 : decode cX3_add 22 = .ok (.aload_n 0, 1) := by decide +kernel
theorem dX3_add_23 : decode cX3_add 23 = .ok (.dup, 1) := by decide +kernel
theorem dX3_add_24 : decode cX3_add 24 = .ok (.getfield 18, 3) := by decide +kernel
theorem dX3_add_27 : decode cX3_add 27 = .ok (.iconst 1, 1) := by decide +kernel
theorem dX3_add_28 : decode cX3_add 28 = .ok (.iadd, 1) := by decide +kernel
theorem dX3_add_29 : decode cX3_add 29 = .ok (.putfield 18, 3) := by decide +kernel
theorem dX3_add_32 : decode cX3_add 32 = .ok (.return_, 1) := by decide +kernel
theorem dX3_copyFrom_0 : decode cX3_copyFrom 0 = .ok (.aload_n 1, 1) := by decide +kernel
theorem dX3_copyFrom_1 : decode cX3_copyFrom 1 = .ok (.getfield 9, 3) := by decide +kernel
theorem dX3_copyFrom_4 : decode cX3_copyFrom 4 = .ok (.iconst 0, 1) := by decide +kernel
theorem dX3_copyFrom_5 : decode cX3_copyFrom 5 = .ok (.aload_n 0, 1) := by decide +kernel
theorem dX3_copyFrom_6 : decode cX3_copyFrom 6 = .ok (.getfield 9, 3) := by decide +kernel
theorem dX3_copyFrom_9 : decode cX3_copyFrom 9 = .ok (.iconst 0, 1) := by decide +kernel
theorem dX3_copyFrom_10 : decode cX3_copyFrom 10 = .ok (.aload_n 1, 1) := by decide +kernel
theorem dX3_copyFrom_11 : decode cX3_copyFrom 11 = .ok (.getfield 18, 3) := by decide +kernel
theorem dX3_copyFrom_14 : decode cX3_copyFrom 14 = .ok (.invokestatic 22, 3) := by decide +kernel
theorem dX3_copyFrom_17 : decode cX3_copyFrom 17 = .ok (.aload_n 0, 1) := by decide +kernel
theorem dX3_copyFrom_18 : decode cX3_copyFrom 18 = .ok (.aload_n 1, 1) := by decide +kernel
theorem dX3_copyFrom_19 : decode cX3_copyFrom 19 = .ok (.getfield 18, 3) := by decide +kernel
theorem dX3_copyFrom_22 : decode cX3_copyFrom 22 = .ok (.putfield 18, 3) := by decide +kernel
theorem dX3_copyFrom_25 : decode cX3_copyFrom 25 = .ok (.return_, 1) := by decide +kernel
theorem dX3_workOut_0 : decode cX3_workOut 0 = .ok (.aload_n 0, 1) := by decide +kernel
theorem dX3_workOut_1 : decode cX3_workOut 1 = .ok (.iconst 0, 1) := by decide +kernel
theorem dX3_workOut_2 : decode cX3_workOut 2 = .ok (.putfield 28, 3) := by decide +kernel
theorem dX3_workOut_5 : decode cX3_workOut 5 = .ok (.iconst 0, 1) := by decide +kernel
theorem dX3_workOut_6 : decode cX3_workOut 6 = .ok (.istore 4, 2) := by decide +kernel
theorem dX3_workOut_8 : decode cX3_workOut 8 = .ok (.iload 4, 2) := by decide +kernel
theorem dX3_workOut_10 : decode cX3_workOut 10 = .ok (.aload_n 0, 1) := by decide +kernel
theorem dX3_workOut_11 : decode cX3_workOut 11 = .ok (.getfield 18, 3) := by decide +kernel
theorem dX3_workOut_14 : decode cX3_workOut 14 = .ok (.if_icmp .ge 119, 3) := by decide +kernel
theorem dX3_workOut_17 : decode cX3_workOut 17 = .ok (.aload_n 0, 1) := by decide +kernel
theorem dX3_workOut_18 : decode cX3_workOut 18 = .ok (.getfield 9, 3) := by decide +kernel
theorem dX3_workOut_21 : decode cX3_workOut 21 = .ok (.iload 4, 2) := by decide +kernel
theorem dX3_workOut_23 : decode cX3_workOut 23 = .ok (.iaload, 1) := by decide +kernel
theorem dX3_workOut_24 : decode cX3_workOut 24 = .ok (.istore 5, 2) := by decide +kernel
theorem dX3_workOut_26 : decode cX3_workOut 26 = .ok (.iload 5, 2) := by decide +kernel
theorem dX3_workOut_28 : decode cX3_workOut 28 = .ok (.ifCond .lt 12, 3) := by decide +kernel
theorem dX3_workOut_31 : decode cX3_workOut 31 = .ok (.aload_n 0, 1) := by decide +kernel
theorem dX3_workOut_32 : decode cX3_workOut 32 = .ok (.iload 5, 2) := by decide +kernel
theorem dX3_workOut_34 : decode cX3_workOut 34 = .ok (.invokevirtual 31, 3) := by decide +kernel
theorem dX3_workOut_37 : decode cX3_workOut 37 = .ok (.goto 90, 3) := by decide +kernel
theorem dX3_workOut_40 : decode cX3_workOut 40 = .ok (.iload 5, 2) := by decide +kernel
theorem dX3_workOut_42 : decode cX3_workOut 42 = .ok (.bipush (-3), 2) := by decide +kernel
theorem dX3_workOut_44 : decode cX3_workOut 44 = .ok (.if_icmp .lt 32, 3) := by decide +kernel
theorem dX3_workOut_47 : decode cX3_workOut 47 = .ok (.aload_n 0, 1) := by decide +kernel
theorem dX3_workOut_48 : decode cX3_workOut 48 = .ok (.iload 5, 2) := by decide +kernel
theorem dX3_workOut_50 : decode cX3_workOut 50 = .ok (.iconst (-1), 1) := by decide +kernel
theorem dX3_workOut_51 : decode cX3_workOut 51 = .ok (.if_icmp .ne 7, 3) := by decide +kernel
theorem dX3_workOut_54 : decode cX3_workOut 54 = .ok (.iload_n 1, 1) := by decide +kernel
theorem dX3_workOut_55 : decode cX3_workOut 55 = .ok (.goto 15, 3) := by decide +kernel
theorem dX3_workOut_58 : decode cX3_workOut 58 = .ok (.iload 5, 2) := by decide +kernel
theorem dX3_workOut_60 : decode cX3_workOut 60 = .ok (.bipush (-3), 2) := by decide +kernel
theorem dX3_workOut_62 : decode cX3_workOut 62 = .ok (.if_icmp .ne 7, 3) := by decide +kernel
theorem dX3_workOut_65 : decode cX3_workOut 65 = .ok (.iload_n 3, 1) := by decide +kernel
theorem dX3_workOut_66 : decode cX3_workOut 66 = .ok (.goto 4, 3) := by decide +kernel
theorem dX3_workOut_69 : decode cX3_workOut 69 = .ok (.iload_n 2, 1) := by decide +kernel
theorem dX3_workOut_70 : decode cX3_workOut 70 = .ok (.invokevirtual 31, 3) := by decide +kernel
theorem dX3_workOut_73 : decode cX3_workOut 73 = .ok (.goto 54, 3) := by decide +kernel
theorem dX3_workOut_76 : decode cX3_workOut 76 = .ok (.iload 5, 2) := by decide +kernel
theorem dX3_workOut_78 : decode cX3_workOut 78 = .ok (.bipush (-33), 2) := by decide +kernel
theorem dX3_workOut_80 : decode cX3_workOut 80 = .ok (.if_icmp .ne 25, 3) := by decide +kernel
theorem dX3_workOut_83 : decode cX3_workOut 83 = .ok (.aload_n 0, 1) := by decide +kernel
theorem dX3_workOut_84 : decode cX3_workOut 84 = .ok (.aload_n 0, 1) := by decide +kernel
theorem dX3_workOut_85 : decode cX3_workOut 85 = .ok (.invokevirtual 35, 3) := by decide +kernel
theorem dX3_workOut_88 : decode cX3_workOut 88 = .ok (.ifCond .ne 7, 3) := by decide +kernel
theorem dX3_workOut_91 : decode cX3_workOut 91 = .ok (.iconst 1, 1) := by decide +kernel
theorem dX3_workOut_92 : decode cX3_workOut 92 = .ok (.goto 4, 3) := by decide +kernel
theorem dX3_workOut_95 : decode cX3_workOut 95 = .ok (.iconst 0, 1) := by decide +kernel
theorem dX3_workOut_96 : decode cX3_workOut 96 = .ok (.invokestatic 39, 3) := by decide +kernel
theorem dX3_workOut_99 : decode cX3_workOut 99 = .ok (.invokevirtual 31, 3) := by decide +kernel
theorem dX3_workOut_102 : decode cX3_workOut 102 = .ok (.goto 25, 3) := by decide +kernel
theorem dX3_workOut_105 : decode cX3_workOut 105 = .ok (.aload_n 0, 1) := by decide +kernel
theorem dX3_workOut_106 : decode cX3_workOut 106 = .ok (.invokevirtual 35, 3) := by decide +kernel
theorem dX3_workOut_109 : decode cX3_workOut 109 = .ok (.istore 6, 2) := by decide +kernel
theorem dX3_workOut_111 : decode cX3_workOut 111 = .ok (.aload_n 0, 1) := by decide +kernel
theorem dX3_workOut_112 : decode cX3_workOut 112 = .ok (.iload 5, 2) := by decide +kernel
theorem dX3_workOut_114 : decode cX3_workOut 114 = .ok (.ineg, 1) := by decide +kernel
theorem dX3_workOut_115 : decode cX3_workOut 115 = .ok (.aload_n 0, 1) := by decide +kernel
theorem dX3_workOut_116 : decode cX3_workOut 116 = .ok (.invokevirtual 35, 3) := by decide +kernel
theorem dX3_workOut_119 : decode cX3_workOut 119 = .ok (.iload 6, 2) := by decide +kernel
theorem dX3_workOut_121 : decode cX3_workOut 121 = .ok (.invokestatic 43, 3) := by decide +kernel
theorem dX3_workOut_124 : decode cX3_workOut 124 = .ok (.invokevirtual 31, 3) := by decide +kernel
theorem dX3_workOut_127 : decode cX3_workOut 127 = .ok (.iinc 4 1, 3) := by decide +kernel
theorem dX3_workOut_130 : decode cX3_workOut 130 = .ok (.goto (-122), 3) := by decide +kernel
theorem dX3_workOut_133 : decode cX3_workOut 133 = .ok (.aload_n 0, 1) := by decide +kernel
theorem dX3_workOut_134 : decode cX3_workOut 134 = .ok (.invokevirtual 35, 3) := by decide +kernel
theorem dX3_workOut_137 : decode cX3_workOut 137 = .ok (.ireturn, 1) := by decide +kernel
theorem dX3_push_0 : decode cX3_push 0 = .ok (.aload_n 0, 1) := by decide +kernel
theorem dX3_push_1 : decode cX3_push 1 = .ok (.getfield 28, 3) := by decide +kernel
theorem dX3_push_4 : decode cX3_push 4 = .ok (.aload_n 0, 1) := by decide +kernel
theorem dX3_push_5 : decode cX3_push 5 = .ok (.getfield 15, 3) := by decide +kernel
theorem dX3_push_8 : decode cX3_push 8 = .ok (.arraylength, 1) := by decide +kernel
theorem dX3_push_9 : decode cX3_push 9 = .ok (.if_icmp .ge 23, 3) := by decide +kernel
theorem dX3_push_12 : decode cX3_push 12 = .ok (.aload_n 0, 1) := by decide +kernel
theorem dX3_push_13 : decode cX3_push 13 = .ok (.getfield 15, 3) := by decide +kernel
theorem dX3_push_16 : decode cX3_push 16 = .ok (.aload_n 0, 1) := by decide +kernel
theorem dX3_push_17 : decode cX3_push 17 = .ok (.getfield 28, 3) := by decide +kernel
theorem dX3_push_20 : decode cX3_push 20 = .ok (.iload_n 1, 1) := by decide +kernel
theorem dX3_push_21 : decode cX3_push 21 = .ok (.iastore, 1) := by decide +kernel
theorem dX3_push_22 : decode cX3_push 22 = .ok (.aload_n 0, 1) := by decide +kernel
theorem dX3_push_23 : decode cX3_push 23 = .ok (.dup, 1) := by decide +kernel
theorem dX3_push_24 : decode cX3_push 24 = .ok (.getfield 28, 3) := by decide +kernel
theorem dX3_push_27 : decode cX3_push 27 = .ok (.iconst 1, 1) := by decide +kernel
theorem dX3_push_28 : decode cX3_push 28 = .ok (.iadd, 1) := by decide +kernel
theorem dX3_push_29 : decode cX3_push 29 = .ok (.putfield 28, 3) := by decide +kernel
theorem dX3_push_32 : decode cX3_push 32 = .ok (.return_, 1) := by decide +kernel
theorem dX3_pop_0 : decode cX3_pop 0 = .ok (.aload_n 0, 1) := by decide +kernel
theorem dX3_pop_1 : decode cX3_pop 1 = .ok (.getfield 28, 3) := by decide +kernel
theorem dX3_pop_4 : decode cX3_pop 4 = .ok (.ifCond .ne 5, 3) := by decide +kernel
theorem dX3_pop_7 : decode cX3_pop 7 = .ok (.iconst 0, 1) := by decide +kernel
theorem dX3_pop_8 : decode cX3_pop 8 = .ok (.ireturn, 1) := by decide +kernel
theorem dX3_pop_9 : decode cX3_pop 9 = .ok (.aload_n 0, 1) := by decide +kernel
theorem dX3_pop_10 : decode cX3_pop 10 = .ok (.dup, 1) := by decide +kernel
theorem dX3_pop_11 : decode cX3_pop 11 = .ok (.getfield 28, 3) := by decide +kernel
theorem dX3_pop_14 : decode cX3_pop 14 = .ok (.iconst 1, 1) := by decide +kernel
theorem dX3_pop_15 : decode cX3_pop 15 = .ok (.isub, 1) := by decide +kernel
theorem dX3_pop_16 : decode cX3_pop 16 = .ok (.putfield 28, 3) := by decide +kernel
theorem dX3_pop_19 : decode cX3_pop 19 = .ok (.aload_n 0, 1) := by decide +kernel
theorem dX3_pop_20 : decode cX3_pop 20 = .ok (.getfield 15, 3) := by decide +kernel
theorem dX3_pop_23 : decode cX3_pop 23 = .ok (.aload_n 0, 1) := by decide +kernel
theorem dX3_pop_24 : decode cX3_pop 24 = .ok (.getfield 28, 3) := by decide +kernel
theorem dX3_pop_27 : decode cX3_pop 27 = .ok (.iaload, 1) := by decide +kernel
theorem dX3_pop_28 : decode cX3_pop 28 = .ok (.ireturn, 1) := by decide +kernel
theorem dX3_join_0 : decode cX3_join 0 = .ok (.iload_n 0, 1) := by decide +kernel
theorem dX3_join_1 : decode cX3_join 1 = .ok (.lookupswitch 203 #[(37, 191), (38, 108), (42, 175), (43, 167), (45, 171), (47, 179), (60, 125), (61, 139), (62, 153), (124, 91)], 91) := by decide +kernel
theorem dX3_join_92 : decode cX3_join 92 = .ok (.iload_n 1, 1) := by decide +kernel
theorem dX3_join_93 : decode cX3_join 93 = .ok (.ifCond .ne 7, 3) := by decide +kernel
theorem dX3_join_96 : decode cX3_join 96 = .ok (.iload_n 2, 1) := by decide +kernel
theorem dX3_join_97 : decode cX3_join 97 = .ok (.ifCond .eq 7, 3) := by decide +kernel
theorem dX3_join_100 : decode cX3_join 100 = .ok (.iconst 1, 1) := by decide +kernel
theorem dX3_join_101 : decode cX3_join 101 = .ok (.goto 4, 3) := by decide +kernel
theorem dX3_join_104 : decode cX3_join 104 = .ok (.iconst 0, 1) := by decide +kernel
theorem dX3_join_105 : decode cX3_join 105 = .ok (.invokestatic 39, 3) := by decide +kernel
theorem dX3_join_108 : decode cX3_join 108 = .ok (.ireturn, 1) := by decide +kernel
theorem dX3_join_109 : decode cX3_join 109 = .ok (.iload_n 1, 1) := by decide +kernel
theorem dX3_join_110 : decode cX3_join 110 = .ok (.ifCond .eq 11, 3) := by decide +kernel
theorem dX3_join_113 : decode cX3_join 113 = .ok (.iload_n 2, 1) := by decide +kernel
theorem dX3_join_114 : decode cX3_join 114 = .ok (.ifCond .eq 7, 3) := by decide +kernel
theorem dX3_join_117 : decode cX3_join 117 = .ok (.iconst 1, 1) := by decide +kernel
theorem dX3_join_118 : decode cX3_join 118 = .ok (.goto 4, 3) := by decide +kernel
theorem dX3_join_121 : decode cX3_join 121 = .ok (.iconst 0, 1) := by decide +kernel
theorem dX3_join_122 : decode cX3_join 122 = .ok (.invokestatic 39, 3) := by decide +kernel
theorem dX3_join_125 : decode cX3_join 125 = .ok (.ireturn, 1) := by decide +kernel
theorem dX3_join_126 : decode cX3_join 126 = .ok (.iload_n 1, 1) := by decide +kernel
theorem dX3_join_127 : decode cX3_join 127 = .ok (.iload_n 2, 1) := by decide +kernel
theorem dX3_join_128 : decode cX3_join 128 = .ok (.if_icmp .ge 7, 3) := by decide +kernel
theorem dX3_join_131 : decode cX3_join 131 = .ok (.iconst 1, 1) := by decide +kernel
theorem dX3_join_132 : decode cX3_join 132 = .ok (.goto 4, 3) := by decide +kernel
theorem dX3_join_135 : decode cX3_join 135 = .ok (.iconst 0, 1) := by decide +kernel
theorem dX3_join_136 : decode cX3_join 136 = .ok (.invokestatic 39, 3) := by decide +kernel
theorem dX3_join_139 : decode cX3_join 139 = .ok (.ireturn, 1) := by decide +kernel
theorem dX3_join_140 : decode cX3_join 140 = .ok (.iload_n 1, 1) := by decide +kernel
theorem dX3_join_141 : decode cX3_join 141 = .ok (.iload_n 2, 1) := by decide +kernel
theorem dX3_join_142 : decode cX3_join 142 = .ok (.if_icmp .ne 7, 3) := by decide +kernel
theorem dX3_join_145 : decode cX3_join 145 = .ok (.iconst 1, 1) := by decide +kernel
theorem dX3_join_146 : decode cX3_join 146 = .ok (.goto 4, 3) := by decide +kernel
theorem dX3_join_149 : decode cX3_join 149 = .ok (.iconst 0, 1) := by decide +kernel
theorem dX3_join_150 : decode cX3_join 150 = .ok (.invokestatic 39, 3) := by decide +kernel
theorem dX3_join_153 : decode cX3_join 153 = .ok (.ireturn, 1) := by decide +kernel
theorem dX3_join_154 : decode cX3_join 154 = .ok (.iload_n 1, 1) := by decide +kernel
theorem dX3_join_155 : decode cX3_join 155 = .ok (.iload_n 2, 1) := by decide +kernel
theorem dX3_join_156 : decode cX3_join 156 = .ok (.if_icmp .le 7, 3) := by decide +kernel
theorem dX3_join_159 : decode cX3_join 159 = .ok (.iconst 1, 1) := by decide +kernel
theorem dX3_join_160 : decode cX3_join 160 = .ok (.goto 4, 3) := by decide +kernel
theorem dX3_join_163 : decode cX3_join 163 = .ok (.iconst 0, 1) := by decide +kernel
theorem dX3_join_164 : decode cX3_join 164 = .ok (.invokestatic 39, 3) := by decide +kernel
theorem dX3_join_167 : decode cX3_join 167 = .ok (.ireturn, 1) := by decide +kernel
theorem dX3_join_168 : decode cX3_join 168 = .ok (.iload_n 1, 1) := by decide +kernel
theorem dX3_join_169 : decode cX3_join 169 = .ok (.iload_n 2, 1) := by decide +kernel
theorem dX3_join_170 : decode cX3_join 170 = .ok (.iadd, 1) := by decide +kernel
theorem dX3_join_171 : decode cX3_join 171 = .ok (.ireturn, 1) := by decide +kernel
theorem dX3_join_172 : decode cX3_join 172 = .ok (.iload_n 1, 1) := by decide +kernel
theorem dX3_join_173 : decode cX3_join 173 = .ok (.iload_n 2, 1) := by decide +kernel
theorem dX3_join_174 : decode cX3_join 174 = .ok (.isub, 1) := by decide +kernel
theorem dX3_join_175 : decode cX3_join 175 = .ok (.ireturn, 1) := by decide +kernel
theorem dX3_join_176 : decode cX3_join 176 = .ok (.iload_n 1, 1) := by decide +kernel
theorem dX3_join_177 : decode cX3_join 177 = .ok (.iload_n 2, 1) := by decide +kernel
theorem dX3_join_178 : decode cX3_join 178 = .ok (.imul, 1) := by decide +kernel
theorem dX3_join_179 : decode cX3_join 179 = .ok (.ireturn, 1) := by decide +kernel
theorem dX3_join_180 : decode cX3_join 180 = .ok (.iload_n 2, 1) := by decide +kernel
theorem dX3_join_181 : decode cX3_join 181 = .ok (.ifCond .ne 7, 3) := by decide +kernel
theorem dX3_join_184 : decode cX3_join 184 = .ok (.iconst 0, 1) := by decide +kernel
theorem dX3_join_185 : decode cX3_join 185 = .ok (.goto 6, 3) := by decide +kernel
theorem dX3_join_188 : decode cX3_join 188 = .ok (.iload_n 1, 1) := by decide +kernel
theorem dX3_join_189 : decode cX3_join 189 = .ok (.iload_n 2, 1) := by decide +kernel
theorem dX3_join_190 : decode cX3_join 190 = .ok (.idiv, 1) := by decide +kernel
theorem dX3_join_191 : decode cX3_join 191 = .ok (.ireturn, 1) := by decide +kernel
theorem dX3_join_192 : decode cX3_join 192 = .ok (.iload_n 2, 1) := by decide +kernel
theorem dX3_join_193 : decode cX3_join 193 = .ok (.ifCond .ne 7, 3) := by decide +kernel
theorem dX3_join_196 : decode cX3_join 196 = .ok (.iconst 0, 1) := by decide +kernel
theorem dX3_join_197 : decode cX3_join 197 = .ok (.goto 6, 3) := by decide +kernel
theorem dX3_join_200 : decode cX3_join 200 = .ok (.iload_n 1, 1) := by decide +kernel
theorem dX3_join_201 : decode cX3_join 201 = .ok (.iload_n 2, 1) := by decide +kernel
theorem dX3_join_202 : decode cX3_join 202 = .ok (.irem, 1) := by decide +kernel
theorem dX3_join_203 : decode cX3_join 203 = .ok (.ireturn, 1) := by decide +kernel
theorem dX3_join_204 : decode cX3_join 204 = .ok (.iconst 0, 1) := by decide +kernel
theorem dX3_join_205 : decode cX3_join 205 = .ok (.ireturn, 1) := by decide +kernel
theorem dX4_init_0 : decode cX4_init 0 = .ok (.aload_n 0, 1) := by decide +kernel
theorem dX4_init_1 : decode cX4_init 1 = .ok (.invokespecial 1, 3) := by decide +kernel
theorem dX4_init_4 : decode cX4_init 4 = .ok (.aload_n 0, 1) := by decide +kernel
theorem dX4_init_5 : decode cX4_init 5 = .ok (.iload_n 1, 1) := by decide +kernel
theorem dX4_init_6 : decode cX4_init 6 = .ok (.newarray .int, 2) := by decide +kernel
theorem dX4_init_8 : decode cX4_init 8 = .ok (.putfield 7, 3) := by decide +kernel
theorem dX4_init_11 : decode cX4_init 11 = .ok (.aload_n 0, 1) := by decide +kernel
theorem dX4_init_12 : decode cX4_init 12 = .ok (.iload_n 1, 1) := by decide +kernel
theorem dX4_init_13 : decode cX4_init 13 = .ok (.newarray .int, 2) := by decide +kernel
theorem dX4_init_15 : decode cX4_init 15 = .ok (.putfield 13, 3) := by decide +kernel
theorem dX4_init_18 : decode cX4_init 18 = .ok (.aload_n 0, 1) := by decide +kernel
theorem dX4_init_19 : decode cX4_init 19 = .ok (.iload_n 1, 1) := by decide +kernel
theorem dX4_init_20 : decode cX4_init 20 = .ok (.newarray .boolean, 2) := by decide +kernel
theorem dX4_init_22 : decode cX4_init 22 = .ok (.putfield 16, 3) := by decide +kernel
theorem dX4_init_25 : decode cX4_init 25 = .ok (.return_, 1) := by decide +kernel
theorem dX4_measureTo_0 : decode cX4_measureTo 0 = .ok (.iconst 0, 1) := by decide +kernel
theorem dX4_measureTo_1 : decode cX4_measureTo 1 = .ok (.istore_n 2, 1) := by decide +kernel
theorem dX4_measureTo_2 : decode cX4_measureTo 2 = .ok (.iload_n 2, 1) := by decide +kernel
theorem dX4_measureTo_3 : decode cX4_measureTo 3 = .ok (.aload_n 0, 1) := by decide +kernel
theorem dX4_measureTo_4 : decode cX4_measureTo 4 = .ok (.getfield 13, 3) := by decide +kernel
theorem dX4_measureTo_7 : decode cX4_measureTo 7 = .ok (.arraylength, 1) := by decide +kernel
theorem dX4_measureTo_8 : decode cX4_measureTo 8 = .ok (.if_icmp .ge 33, 3) := by decide +kernel
theorem dX4_measureTo_11 : decode cX4_measureTo 11 = .ok (.aload_n 0, 1) := by decide +kernel
theorem dX4_measureTo_12 : decode cX4_measureTo 12 = .ok (.getfield 13, 3) := by decide +kernel
theorem dX4_measureTo_15 : decode cX4_measureTo 15 = .ok (.iload_n 2, 1) := by decide +kernel
theorem dX4_measureTo_16 : decode cX4_measureTo 16 = .ok (.iload_n 2, 1) := by decide +kernel
theorem dX4_measureTo_17 : decode cX4_measureTo 17 = .ok (.iload_n 1, 1) := by decide +kernel
theorem dX4_measureTo_18 : decode cX4_measureTo 18 = .ok (.if_icmp .ne 7, 3) := by decide +kernel
theorem dX4_measureTo_21 : decode cX4_measureTo 21 = .ok (.iconst 0, 1) := by decide +kernel
theorem dX4_measureTo_22 : decode cX4_measureTo 22 = .ok (.goto 5, 3) := by decide +kernel
theorem dX4_measureTo_25 : decode cX4_measureTo 25 = .ok (.ldc 20, 2) := by decide +kernel
theorem dX4_measureTo_27 : decode cX4_measureTo 27 = .ok (.iastore, 1) := by decide +kernel
theorem dX4_measureTo_28 : decode cX4_measureTo 28 = .ok (.aload_n 0, 1) := by decide +kernel
theorem dX4_measureTo_29 : decode cX4_measureTo 29 = .ok (.getfield 16, 3) := by decide +kernel
theorem dX4_measureTo_32 : decode cX4_measureTo 32 = .ok (.iload_n 2, 1) := by decide +kernel
theorem dX4_measureTo_33 : decode cX4_measureTo 33 = .ok (.iconst 0, 1) := by decide +kernel
theorem dX4_measureTo_34 : decode cX4_measureTo 34 = .ok (.bastore, 1) := by decide +kernel
theorem dX4_measureTo_35 : decode cX4_measureTo 35 = .ok (.iinc 2 1, 3) := by decide +kernel
theorem dX4_measureTo_38 : decode cX4_measureTo 38 = .ok (.goto (-36), 3) := by decide +kernel
theorem dX4_measureTo_41 : decode cX4_measureTo 41 = .ok (.iconst 0, 1) := by decide +kernel
theorem dX4_measureTo_42 : decode cX4_measureTo 42 = .ok (.istore_n 2, 1) := by decide +kernel
theorem dX4_measureTo_43 : decode cX4_measureTo 43 = .ok (.iload_n 2, 1) := by decide +kernel
theorem dX4_measureTo_44 : decode cX4_measureTo 44 = .ok (.aload_n 0, 1) := by decide +kernel
theorem dX4_measureTo_45 : decode cX4_measureTo 45 = .ok (.getfield 13, 3) := by decide +kernel
theorem dX4_measureTo_48 : decode cX4_measureTo 48 = .ok (.arraylength, 1) := by decide +kernel
theorem dX4_measureTo_49 : decode cX4_measureTo 49 = .ok (.if_icmp .ge 30, 3) := by decide +kernel
theorem dX4_measureTo_52 : decode cX4_measureTo 52 = .ok (.aload_n 0, 1) := by decide +kernel
theorem dX4_measureTo_53 : decode cX4_measureTo 53 = .ok (.invokevirtual 21, 3) := by decide +kernel
theorem dX4_measureTo_56 : decode cX4_measureTo 56 = .ok (.istore_n 3, 1) := by decide +kernel
theorem dX4_measureTo_57 : decode cX4_measureTo 57 = .ok (.iload_n 3, 1) := by decide +kernel
theorem dX4_measureTo_58 : decode cX4_measureTo 58 = .ok (.ifCond .lt 15, 3) := by decide +kernel
theorem dX4_measureTo_61 : decode cX4_measureTo 61 = .ok (.aload_n 0, 1) := by decide +kernel
theorem dX4_measureTo_62 : decode cX4_measureTo 62 = .ok (.getfield 16, 3) := by decide +kernel
theorem dX4_measureTo_65 : decode cX4_measureTo 65 = .ok (.iload_n 3, 1) := by decide +kernel
theorem dX4_measureTo_66 : decode cX4_measureTo 66 = .ok (.iconst 1, 1) := by decide +kernel
theorem dX4_measureTo_67 : decode cX4_measureTo 67 = .ok (.bastore, 1) := by decide +kernel
theorem dX4_measureTo_68 : decode cX4_measureTo 68 = .ok (.aload_n 0, 1) := by decide +kernel
theorem dX4_measureTo_69 : decode cX4_measureTo 69 = .ok (.iload_n 3, 1) := by decide +kernel
theorem dX4_measureTo_70 : decode cX4_measureTo 70 = .ok (.invokevirtual 25, 3) := by decide +kernel
theorem dX4_measureTo_73 : decode cX4_measureTo 73 = .ok (.iinc 2 1, 3) := by decide +kernel
theorem dX4_measureTo_76 : decode cX4_measureTo 76 = .ok (.goto (-33), 3) := by decide +kernel
theorem dX4_measureTo_79 : decode cX4_measureTo 79 = .ok (.return_, 1) := by decide +kernel
theorem dX4_cheapestUnsettled_0 : decode cX4_cheapestUnsettled 0 = .ok (.iconst (-1), 1) := by decide +kernel
theorem dX4_cheapestUnsettled_1 : decode cX4_cheapestUnsettled 1 = .ok (.istore_n 1, 1) := by decide +kernel
theorem dX4_cheapestUnsettled_2 : decode cX4_cheapestUnsettled 2 = .ok (.iconst 0, 1) := by decide +kernel
theorem dX4_cheapestUnsettled_3 : decode cX4_cheapestUnsettled 3 = .ok (.istore_n 2, 1) := by decide +kernel
theorem dX4_cheapestUnsettled_4 : decode cX4_cheapestUnsettled 4 = .ok (.iload_n 2, 1) := by decide +kernel
theorem dX4_cheapestUnsettled_5 : decode cX4_cheapestUnsettled 5 = .ok (.aload_n 0, 1) := by decide +kernel
theorem dX4_cheapestUnsettled_6 : decode cX4_cheapestUnsettled 6 = .ok (.getfield 13, 3) := by decide +kernel
theorem dX4_cheapestUnsettled_9 : decode cX4_cheapestUnsettled 9 = .ok (.arraylength, 1) := by decide +kernel
theorem dX4_cheapestUnsettled_10 : decode cX4_cheapestUnsettled 10 = .ok (.if_icmp .ge 39, 3) := by decide +kernel
theorem dX4_cheapestUnsettled_13 : decode cX4_cheapestUnsettled 13 = .ok (.aload_n 0, 1) := by decide +kernel
theorem dX4_cheapestUnsettled_14 : decode cX4_cheapestUnsettled 14 = .ok (.getfield 16, 3) := by decide +kernel
theorem dX4_cheapestUnsettled_17 : decode cX4_cheapestUnsettled 17 = .ok (.iload_n 2, 1) := by decide +kernel
theorem dX4_cheapestUnsettled_18 : decode cX4_cheapestUnsettled 18 = .ok (.baload, 1) := by decide +kernel
theorem dX4_cheapestUnsettled_19 : decode cX4_cheapestUnsettled 19 = .ok (.ifCond .ne 24, 3) := by decide +kernel
theorem dX4_cheapestUnsettled_22 : decode cX4_cheapestUnsettled 22 = .ok (.iload_n 1, 1) := by decide +kernel
theorem dX4_cheapestUnsettled_23 : decode cX4_cheapestUnsettled 23 = .ok (.ifCond .lt 18, 3) := by decide +kernel
theorem dX4_cheapestUnsettled_26 : decode cX4_cheapestUnsettled 26 = .ok (.aload_n 0, 1) := by decide +kernel
theorem dX4_cheapestUnsettled_27 : decode cX4_cheapestUnsettled 27 = .ok (.getfield 13, 3) := by decide +kernel
theorem dX4_cheapestUnsettled_30 : decode cX4_cheapestUnsettled 30 = .ok (.iload_n 2, 1) := by decide +kernel
theorem dX4_cheapestUnsettled_31 : decode cX4_cheapestUnsettled 31 = .ok (.iaload, 1) := by decide +kernel
theorem dX4_cheapestUnsettled_32 : decode cX4_cheapestUnsettled 32 = .ok (.aload_n 0, 1) := by decide +kernel
theorem dX4_cheapestUnsettled_33 : decode cX4_cheapestUnsettled 33 = .ok (.getfield 13, 3) := by decide +kernel
theorem dX4_cheapestUnsettled_36 : decode cX4_cheapestUnsettled 36 = .ok (.iload_n 1, 1) := by decide +kernel
theorem dX4_cheapestUnsettled_37 : decode cX4_cheapestUnsettled 37 = .ok (.iaload, 1) := by decide +kernel
theorem dX4_cheapestUnsettled_38 : decode cX4_cheapestUnsettled 38 = .ok (.if_icmp .ge 5, 3) := by decide +kernel
theorem dX4_cheapestUnsettled_41 : decode cX4_cheapestUnsettled 41 = .ok (.iload_n 2, 1) := by decide +kernel
theorem dX4_cheapestUnsettled_42 : decode cX4_cheapestUnsettled 42 = .ok (.istore_n 1, 1) := by decide +kernel
theorem dX4_cheapestUnsettled_43 : decode cX4_cheapestUnsettled 43 = .ok (.iinc 2 1, 3) := by decide +kernel
theorem dX4_cheapestUnsettled_46 : decode cX4_cheapestUnsettled 46 = .ok (.goto (-42), 3) := by decide +kernel
theorem dX4_cheapestUnsettled_49 : decode cX4_cheapestUnsettled 49 = .ok (.iload_n 1, 1) := by decide +kernel
theorem dX4_cheapestUnsettled_50 : decode cX4_cheapestUnsettled 50 = .ok (.ireturn, 1) := by decide +kernel
theorem dX4_reachFrom_0 : decode cX4_reachFrom 0 = .ok (.iconst 0, 1) := by decide +kernel
theorem dX4_reachFrom_1 : decode cX4_reachFrom 1 = .ok (.istore_n 2, 1) := by decide +kernel
theorem dX4_reachFrom_2 : decode cX4_reachFrom 2 = .ok (.iload_n 2, 1) := by decide +kernel
theorem dX4_reachFrom_3 : decode cX4_reachFrom 3 = .ok (.aload_n 0, 1) := by decide +kernel
theorem dX4_reachFrom_4 : decode cX4_reachFrom 4 = .ok (.getfield 13, 3) := by decide +kernel
theorem dX4_reachFrom_7 : decode cX4_reachFrom 7 = .ok (.arraylength, 1) := by decide +kernel
theorem dX4_reachFrom_8 : decode cX4_reachFrom 8 = .ok (.if_icmp .ge 51, 3) := by decide +kernel
theorem dX4_reachFrom_11 : decode cX4_reachFrom 11 = .ok (.aload_n 0, 1) := by decide +kernel
theorem dX4_reachFrom_12 : decode cX4_reachFrom 12 = .ok (.getfield 16, 3) := by decide +kernel
theorem dX4_reachFrom_15 : decode cX4_reachFrom 15 = .ok (.iload_n 2, 1) := by decide +kernel
theorem dX4_reachFrom_16 : decode cX4_reachFrom 16 = .ok (.baload, 1) := by decide +kernel
theorem dX4_reachFrom_17 : decode cX4_reachFrom 17 = .ok (.ifCond .ne 36, 3) := by decide +kernel
theorem dX4_reachFrom_20 : decode cX4_reachFrom 20 = .ok (.aload_n 0, 1) := by decide +kernel
theorem dX4_reachFrom_21 : decode cX4_reachFrom 21 = .ok (.getfield 13, 3) := by decide +kernel
theorem dX4_reachFrom_24 : decode cX4_reachFrom 24 = .ok (.iload_n 2, 1) := by decide +kernel
theorem dX4_reachFrom_25 : decode cX4_reachFrom 25 = .ok (.aload_n 0, 1) := by decide +kernel
theorem dX4_reachFrom_26 : decode cX4_reachFrom 26 = .ok (.getfield 13, 3) := by decide +kernel
theorem dX4_reachFrom_29 : decode cX4_reachFrom 29 = .ok (.iload_n 2, 1) := by decide +kernel
theorem dX4_reachFrom_30 : decode cX4_reachFrom 30 = .ok (.iaload, 1) := by decide +kernel
theorem dX4_reachFrom_31 : decode cX4_reachFrom 31 = .ok (.aload_n 0, 1) := by decide +kernel
theorem dX4_reachFrom_32 : decode cX4_reachFrom 32 = .ok (.getfield 13, 3) := by decide +kernel
theorem dX4_reachFrom_35 : decode cX4_reachFrom 35 = .ok (.iload_n 1, 1) := by decide +kernel
theorem dX4_reachFrom_36 : decode cX4_reachFrom 36 = .ok (.iaload, 1) := by decide +kernel
theorem dX4_reachFrom_37 : decode cX4_reachFrom 37 = .ok (.aload_n 0, 1) := by decide +kernel
theorem dX4_reachFrom_38 : decode cX4_reachFrom 38 = .ok (.getfield 7, 3) := by decide +kernel
theorem dX4_reachFrom_41 : decode cX4_reachFrom 41 = .ok (.iload_n 2, 1) := by decide +kernel
theorem dX4_reachFrom_42 : decode cX4_reachFrom 42 = .ok (.iload_n 1, 1) := by decide +kernel
theorem dX4_reachFrom_43 : decode cX4_reachFrom 43 = .ok (.isub, 1) := by decide +kernel
theorem dX4_reachFrom_44 : decode cX4_reachFrom 44 = .ok (.invokestatic 29, 3) := by decide +kernel
theorem dX4_reachFrom_47 : decode cX4_reachFrom 47 = .ok (.iaload, 1) := by decide +kernel
theorem dX4_reachFrom_48 : decode cX4_reachFrom 48 = .ok (.iadd, 1) := by decide +kernel
theorem dX4_reachFrom_49 : decode cX4_reachFrom 49 = .ok (.invokestatic 35, 3) := by decide +kernel
theorem dX4_reachFrom_52 : decode cX4_reachFrom 52 = .ok (.iastore, 1) := by decide +kernel
theorem dX4_reachFrom_53 : decode cX4_reachFrom 53 = .ok (.iinc 2 1, 3) := by decide +kernel
theorem dX4_reachFrom_56 : decode cX4_reachFrom 56 = .ok (.goto (-54), 3) := by decide +kernel
theorem dX4_reachFrom_59 : decode cX4_reachFrom 59 = .ok (.return_, 1) := by decide +kernel
theorem dX4_leastFirstStep_0 : decode cX4_leastFirstStep 0 = .ok (.iconst 0, 1) := by decide +kernel
theorem dX4_leastFirstStep_1 : decode cX4_leastFirstStep 1 = .ok (.istore_n 2, 1) := by decide +kernel
theorem dX4_leastFirstStep_2 : decode cX4_leastFirstStep 2 = .ok (.iload_n 2, 1) := by decide +kernel
theorem dX4_leastFirstStep_3 : decode cX4_leastFirstStep 3 = .ok (.aload_n 0, 1) := by decide +kernel
theorem dX4_leastFirstStep_4 : decode cX4_leastFirstStep 4 = .ok (.getfield 13, 3) := by decide +kernel
theorem dX4_leastFirstStep_7 : decode cX4_leastFirstStep 7 = .ok (.arraylength, 1) := by decide +kernel
theorem dX4_leastFirstStep_8 : decode cX4_leastFirstStep 8 = .ok (.if_icmp .ge 43, 3) := by decide +kernel
theorem dX4_leastFirstStep_11 : decode cX4_leastFirstStep 11 = .ok (.iload_n 2, 1) := by decide +kernel
theorem dX4_leastFirstStep_12 : decode cX4_leastFirstStep 12 = .ok (.iload_n 1, 1) := by decide +kernel
theorem dX4_leastFirstStep_13 : decode cX4_leastFirstStep 13 = .ok (.if_icmp .eq 32, 3) := by decide +kernel
theorem dX4_leastFirstStep_16 : decode cX4_leastFirstStep 16 = .ok (.aload_n 0, 1) := by decide +kernel
theorem dX4_leastFirstStep_17 : decode cX4_leastFirstStep 17 = .ok (.getfield 13, 3) := by decide +kernel
theorem dX4_leastFirstStep_20 : decode cX4_leastFirstStep 20 = .ok (.iload_n 2, 1) := by decide +kernel
theorem dX4_leastFirstStep_21 : decode cX4_leastFirstStep 21 = .ok (.iaload, 1) := by decide +kernel
theorem dX4_leastFirstStep_22 : decode cX4_leastFirstStep 22 = .ok (.aload_n 0, 1) := by decide +kernel
theorem dX4_leastFirstStep_23 : decode cX4_leastFirstStep 23 = .ok (.getfield 7, 3) := by decide +kernel
theorem dX4_leastFirstStep_26 : decode cX4_leastFirstStep 26 = .ok (.iload_n 2, 1) := by decide +kernel
theorem dX4_leastFirstStep_27 : decode cX4_leastFirstStep 27 = .ok (.iload_n 1, 1) := by decide +kernel
theorem dX4_leastFirstStep_28 : decode cX4_leastFirstStep 28 = .ok (.isub, 1) := by decide +kernel
theorem dX4_leastFirstStep_29 : decode cX4_leastFirstStep 29 = .ok (.invokestatic 29, 3) := by decide +kernel
theorem dX4_leastFirstStep_32 : decode cX4_leastFirstStep 32 = .ok (.iaload, 1) := by decide +kernel
theorem dX4_leastFirstStep_33 : decode cX4_leastFirstStep 33 = .ok (.iadd, 1) := by decide +kernel
theorem dX4_leastFirstStep_34 : decode cX4_leastFirstStep 34 = .ok (.aload_n 0, 1) := by decide +kernel
theorem dX4_leastFirstStep_35 : decode cX4_leastFirstStep 35 = .ok (.getfield 13, 3) := by decide +kernel
theorem dX4_leastFirstStep_38 : decode cX4_leastFirstStep 38 = .ok (.iload_n 1, 1) := by decide +kernel
theorem dX4_leastFirstStep_39 : decode cX4_leastFirstStep 39 = .ok (.iaload, 1) := by decide +kernel
theorem dX4_leastFirstStep_40 : decode cX4_leastFirstStep 40 = .ok (.if_icmp .ne 5, 3) := by decide +kernel
theorem dX4_leastFirstStep_43 : decode cX4_leastFirstStep 43 = .ok (.iload_n 2, 1) := by decide +kernel
theorem dX4_leastFirstStep_44 : decode cX4_leastFirstStep 44 = .ok (.ireturn, 1) := by decide +kernel
theorem dX4_leastFirstStep_45 : decode cX4_leastFirstStep 45 = .ok (.iinc 2 1, 3) := by decide +kernel
theorem dX4_leastFirstStep_48 : decode cX4_leastFirstStep 48 = .ok (.goto (-46), 3) := by decide +kernel
theorem dX4_leastFirstStep_51 : decode cX4_leastFirstStep 51 = .ok (.iconst (-1), 1) := by decide +kernel
theorem dX4_leastFirstStep_52 : decode cX4_leastFirstStep 52 = .ok (.ireturn, 1) := by decide +kernel
theorem dX5_init_0 : decode cX5_init 0 = .ok (.aload_n 0, 1) := by decide +kernel
theorem dX5_init_1 : decode cX5_init 1 = .ok (.invokespecial 3, 3) := by decide +kernel
theorem dX5_init_4 : decode cX5_init 4 = .ok (.aload_n 0, 1) := by decide +kernel
theorem dX5_init_5 : decode cX5_init 5 = .ok (.bipush 24, 2) := by decide +kernel
theorem dX5_init_7 : decode cX5_init 7 = .ok (.newarray .int, 2) := by decide +kernel
theorem dX5_init_9 : decode cX5_init 9 = .ok (.putfield 9, 3) := by decide +kernel
theorem dX5_init_12 : decode cX5_init 12 = .ok (.return_, 1) := by decide +kernel
theorem dX5_isMissing_0 : decode cX5_isMissing 0 = .ok (.aload_n 0, 1) := by decide +kernel
theorem dX5_isMissing_1 : decode cX5_isMissing 1 = .ok (.getfield 15, 3) := by decide +kernel
theorem dX5_isMissing_4 : decode cX5_isMissing 4 = .ok (.ifCond .ne 7, 3) := by decide +kernel
theorem dX5_isMissing_7 : decode cX5_isMissing 7 = .ok (.iconst 1, 1) := by decide +kernel
theorem dX5_isMissing_8 : decode cX5_isMissing 8 = .ok (.goto 4, 3) := by decide +kernel
theorem dX5_isMissing_11 : decode cX5_isMissing 11 = .ok (.iconst 0, 1) := by decide +kernel
theorem dX5_isMissing_12 : decode cX5_isMissing 12 = .ok (.ireturn, 1) := by decide +kernel
theorem dX5_lay_0 : decode cX5_lay 0 = .ok (.aload_n 0, 1) := by decide +kernel
theorem dX5_lay_1 : decode cX5_lay 1 = .ok (.iload_n 1, 1) := by decide +kernel
theorem dX5_lay_2 : decode cX5_lay 2 = .ok (.putfield 15, 3) := by decide +kernel
theorem dX5_lay_5 : decode cX5_lay 5 = .ok (.aload_n 0, 1) := by decide +kernel
theorem dX5_lay_6 : decode cX5_lay 6 = .ok (.iload_n 2, 1) := by decide +kernel
theorem dX5_lay_7 : decode cX5_lay 7 = .ok (.putfield 19, 3) := by decide +kernel
theorem dX5_lay_10 : decode cX5_lay 10 = .ok (.iconst 0, 1) := by decide +kernel
theorem dX5_lay_11 : decode cX5_lay 11 = .ok (.istore_n 3, 1) := by decide +kernel
theorem dX5_lay_12 : decode cX5_lay 12 = .ok (.iload_n 3, 1) := by decide +kernel
theorem dX5_lay_13 : decode cX5_lay 13 = .ok (.bipush 24, 2) := by decide +kernel
theorem dX5_lay_15 : decode cX5_lay 15 = .ok (.if_icmp .ge 16, 3) := by decide +kernel
theorem dX5_lay_18 : decode cX5_lay 18 = .ok (.aload_n 0, 1) := by decide +kernel
theorem dX5_lay_19 : decode cX5_lay 19 = .ok (.getfield 9, 3) := by decide +kernel
theorem dX5_lay_22 : decode cX5_lay 22 = .ok (.iload_n 3, 1) := by decide +kernel
theorem dX5_lay_23 : decode cX5_lay 23 = .ok (.iconst 0, 1) := by decide +kernel
theorem dX5_lay_24 : decode cX5_lay 24 = .ok (.iastore, 1) := by decide +kernel
theorem dX5_lay_25 : decode cX5_lay 25 = .ok (.iinc 3 1, 3) := by decide +kernel
theorem dX5_lay_28 : decode cX5_lay 28 = .ok (.goto (-16), 3) := by decide +kernel
theorem dX5_lay_31 : decode cX5_lay 31 = .ok (.return_, 1) := by decide +kernel
theorem dX5_write_0 : decode cX5_write 0 = .ok (.aload_n 0, 1) := by decide +kernel
theorem dX5_write_1 : decode cX5_write 1 = .ok (.getfield 9, 3) := by decide +kernel
theorem dX5_write_4 : decode cX5_write 4 = .ok (.iload_n 1, 1) := by decide +kernel
theorem dX5_write_5 : decode cX5_write 5 = .ok (.aload_n 0, 1) := by decide +kernel
theorem dX5_write_6 : decode cX5_write 6 = .ok (.getfield 15, 3) := by decide +kernel
theorem dX5_write_9 : decode cX5_write 9 = .ok (.bipush 8, 2) := by decide +kernel
theorem dX5_write_11 : decode cX5_write 11 = .ok (.if_icmp .ne 8, 3) := by decide +kernel
theorem dX5_write_14 : decode cX5_write 14 = .ok (.iload_n 2, 1) := by decide +kernel
theorem dX5_write_15 : decode cX5_write 15 = .ok (.i2b, 1) := by decide +kernel
theorem dX5_write_16 : decode cX5_write 16 = .ok (.goto 18, 3) := by decide +kernel
theorem dX5_write_19 : decode cX5_write 19 = .ok (.aload_n 0, 1) := by decide +kernel
theorem dX5_write_20 : decode cX5_write 20 = .ok (.getfield 15, 3) := by decide +kernel
theorem dX5_write_23 : decode cX5_write 23 = .ok (.bipush 16, 2) := by decide +kernel
theorem dX5_write_25 : decode cX5_write 25 = .ok (.if_icmp .ne 8, 3) := by decide +kernel
theorem dX5_write_28 : decode cX5_write 28 = .ok (.iload_n 2, 1) := by decide +kernel
theorem dX5_write_29 : decode cX5_write 29 = .ok (.i2s, 1) := by decide +kernel
theorem dX5_write_30 : decode cX5_write 30 = .ok (.goto 4, 3) := by decide +kernel
theorem dX5_write_33 : decode cX5_write 33 = .ok (.iload_n 2, 1) := by decide +kernel
theorem dX5_write_34 : decode cX5_write 34 = .ok (.iastore, 1) := by decide +kernel
theorem dX5_write_35 : decode cX5_write 35 = .ok (.return_, 1) := by decide +kernel
theorem dX5_holds_0 : decode cX5_holds 0 = .ok (.iload_n 1, 1) := by decide +kernel
theorem dX5_holds_1 : decode cX5_holds 1 = .ok (.ifCond .lt 29, 3) := by decide +kernel
theorem dX5_holds_4 : decode cX5_holds 4 = .ok (.iload_n 2, 1) := by decide +kernel
theorem dX5_holds_5 : decode cX5_holds 5 = .ok (.ifCond .lt 25, 3) := by decide +kernel
theorem dX5_holds_8 : decode cX5_holds 8 = .ok (.iload_n 2, 1) := by decide +kernel
theorem dX5_holds_9 : decode cX5_holds 9 = .ok (.aload_n 0, 1) := by decide +kernel
theorem dX5_holds_10 : decode cX5_holds 10 = .ok (.getfield 19, 3) := by decide +kernel
theorem dX5_holds_13 : decode cX5_holds 13 = .ok (.if_icmp .gt 17, 3) := by decide +kernel
theorem dX5_holds_16 : decode cX5_holds 16 = .ok (.iload_n 1, 1) := by decide +kernel
theorem dX5_holds_17 : decode cX5_holds 17 = .ok (.aload_n 0, 1) := by decide +kernel
theorem dX5_holds_18 : decode cX5_holds 18 = .ok (.getfield 19, 3) := by decide +kernel
theorem dX5_holds_21 : decode cX5_holds 21 = .ok (.iload_n 2, 1) := by decide +kernel
theorem dX5_holds_22 : decode cX5_holds 22 = .ok (.isub, 1) := by decide +kernel
theorem dX5_holds_23 : decode cX5_holds 23 = .ok (.if_icmp .gt 7, 3) := by decide +kernel
theorem dX5_holds_26 : decode cX5_holds 26 = .ok (.iconst 1, 1) := by decide +kernel
theorem dX5_holds_27 : decode cX5_holds 27 = .ok (.goto 4, 3) := by decide +kernel
theorem dX5_holds_30 : decode cX5_holds 30 = .ok (.iconst 0, 1) := by decide +kernel
theorem dX5_holds_31 : decode cX5_holds 31 = .ok (.ireturn, 1) := by decide +kernel
theorem dX6_init_0 : decode cX6_init 0 = .ok (.aload_n 0, 1) := by decide +kernel
theorem dX6_init_1 : decode cX6_init 1 = .ok (.invokespecial 3, 3) := by decide +kernel
theorem dX6_init_4 : decode cX6_init 4 = .ok (.aload_n 0, 1) := by decide +kernel
theorem dX6_init_5 : decode cX6_init 5 = .ok (.bipush 30, 2) := by decide +kernel
theorem dX6_init_7 : decode cX6_init 7 = .ok (.newarray .int, 2) := by decide +kernel
theorem dX6_init_9 : decode cX6_init 9 = .ok (.putfield 9, 3) := by decide +kernel
theorem dX6_init_12 : decode cX6_init 12 = .ok (.return_, 1) := by decide +kernel
theorem dX6_speak_0 : decode cX6_speak 0 = .ok (.aload_n 0, 1) := by decide +kernel
theorem dX6_speak_1 : decode cX6_speak 1 = .ok (.iconst 0, 1) := by decide +kernel
theorem dX6_speak_2 : decode cX6_speak 2 = .ok (.putfield 15, 3) := by decide +kernel
theorem dX6_speak_5 : decode cX6_speak 5 = .ok (.aload_n 0, 1) := by decide +kernel
theorem dX6_speak_6 : decode cX6_speak 6 = .ok (.iconst 0, 1) := by decide +kernel
theorem dX6_speak_7 : decode cX6_speak 7 = .ok (.putfield 19, 3) := by decide +kernel
theorem dX6_speak_10 : decode cX6_speak 10 = .ok (.aload_n 0, 1) := by decide +kernel
theorem dX6_speak_11 : decode cX6_speak 11 = .ok (.aload_n 1, 1) := by decide +kernel
theorem dX6_speak_12 : decode cX6_speak 12 = .ok (.getfield 23, 3) := by decide +kernel
theorem dX6_speak_15 : decode cX6_speak 15 = .ok (.putfield 28, 3) := by decide +kernel
theorem dX6_speak_18 : decode cX6_speak 18 = .ok (.aload_n 0, 1) := by decide +kernel
theorem dX6_speak_19 : decode cX6_speak 19 = .ok (.iload_n 2, 1) := by decide +kernel
theorem dX6_speak_20 : decode cX6_speak 20 = .ok (.putfield 29, 3) := by decide +kernel
theorem dX6_speak_23 : decode cX6_speak 23 = .ok (.aload_n 0, 1) := by decide +kernel
theorem dX6_speak_24 : decode cX6_speak 24 = .ok (.aload_n 1, 1) := by decide +kernel
theorem dX6_speak_25 : decode cX6_speak 25 = .ok (.getfield 32, 3) := by decide +kernel
theorem dX6_speak_28 : decode cX6_speak 28 = .ok (.putfield 35, 3) := by decide +kernel
theorem dX6_speak_31 : decode cX6_speak 31 = .ok (.iload_n 3, 1) := by decide +kernel
theorem dX6_speak_32 : decode cX6_speak 32 = .ok (.tableswitch 61 0 2 #[28, 39, 50], 28) := by decide +kernel
theorem dX6_speak_60 : decode cX6_speak 60 = .ok (.aload_n 0, 1) := by decide +kernel
theorem dX6_speak_61 : decode cX6_speak 61 = .ok (.aload_n 0, 1) := by decide +kernel
theorem dX6_speak_62 : decode cX6_speak 62 = .ok (.getfield 28, 3) := by decide +kernel
theorem dX6_speak_65 : decode cX6_speak 65 = .ok (.iload 4, 2) := by decide +kernel
theorem dX6_speak_67 : decode cX6_speak 67 = .ok (.invokevirtual 36, 3) := by decide +kernel
theorem dX6_speak_70 : decode cX6_speak 70 = .ok (.ireturn, 1) := by decide +kernel
theorem dX6_speak_71 : decode cX6_speak 71 = .ok (.aload_n 0, 1) := by decide +kernel
theorem dX6_speak_72 : decode cX6_speak 72 = .ok (.aload_n 0, 1) := by decide +kernel
theorem dX6_speak_73 : decode cX6_speak 73 = .ok (.getfield 28, 3) := by decide +kernel
theorem dX6_speak_76 : decode cX6_speak 76 = .ok (.iload 4, 2) := by decide +kernel
theorem dX6_speak_78 : decode cX6_speak 78 = .ok (.invokevirtual 40, 3) := by decide +kernel
theorem dX6_speak_81 : decode cX6_speak 81 = .ok (.ireturn, 1) := by decide +kernel
theorem dX6_speak_82 : decode cX6_speak 82 = .ok (.aload_n 0, 1) := by decide +kernel
theorem dX6_speak_83 : decode cX6_speak 83 = .ok (.aload_n 0, 1) := by decide +kernel
theorem dX6_speak_84 : decode cX6_speak 84 = .ok (.getfield 28, 3) := by decide +kernel
theorem dX6_speak_87 : decode cX6_speak 87 = .ok (.iload 4, 2) := by decide +kernel
theorem dX6_speak_89 : decode cX6_speak 89 = .ok (.invokevirtual 43, 3) := by decide +kernel
theorem dX6_speak_92 : decode cX6_speak 92 = .ok (.ireturn, 1) := by decide +kernel
theorem dX6_speak_93 : decode cX6_speak 93 = .ok (.aload_n 0, 1) := by decide +kernel
theorem dX6_speak_94 : decode cX6_speak 94 = .ok (.aload_n 0, 1) := by decide +kernel
theorem dX6_speak_95 : decode cX6_speak 95 = .ok (.getfield 28, 3) := by decide +kernel
theorem dX6_speak_98 : decode cX6_speak 98 = .ok (.iload 4, 2) := by decide +kernel
theorem dX6_speak_100 : decode cX6_speak 100 = .ok (.invokevirtual 46, 3) := by decide +kernel
theorem dX6_speak_103 : decode cX6_speak 103 = .ok (.ireturn, 1) := by decide +kernel
theorem dX6_begin_0 : decode cX6_begin 0 = .ok (.aload_n 0, 1) := by decide +kernel
theorem dX6_begin_1 : decode cX6_begin 1 = .ok (.getfield 19, 3) := by decide +kernel
theorem dX6_begin_4 : decode cX6_begin 4 = .ok (.bipush 30, 2) := by decide +kernel
theorem dX6_begin_6 : decode cX6_begin 6 = .ok (.if_icmp .ge 23, 3) := by decide +kernel
theorem dX6_begin_9 : decode cX6_begin 9 = .ok (.aload_n 0, 1) := by decide +kernel
theorem dX6_begin_10 : decode cX6_begin 10 = .ok (.getfield 9, 3) := by decide +kernel
theorem dX6_begin_13 : decode cX6_begin 13 = .ok (.aload_n 0, 1) := by decide +kernel
theorem dX6_begin_14 : decode cX6_begin 14 = .ok (.getfield 19, 3) := by decide +kernel
theorem dX6_begin_17 : decode cX6_begin 17 = .ok (.iload_n 1, 1) := by decide +kernel
theorem dX6_begin_18 : decode cX6_begin 18 = .ok (.iastore, 1) := by decide +kernel
theorem dX6_begin_19 : decode cX6_begin 19 = .ok (.aload_n 0, 1) := by decide +kernel
theorem dX6_begin_20 : decode cX6_begin 20 = .ok (.dup, 1) := by decide +kernel
theorem dX6_begin_21 : decode cX6_begin 21 = .ok (.getfield 19, 3) := by decide +kernel
theorem dX6_begin_24 : decode cX6_begin 24 = .ok (.iconst 1, 1) := by decide +kernel
theorem dX6_begin_25 : decode cX6_begin 25 = .ok (.iadd, 1) := by decide +kernel
theorem dX6_begin_26 : decode cX6_begin 26 = .ok (.putfield 19, 3) := by decide +kernel
theorem dX6_begin_29 : decode cX6_begin 29 = .ok (.return_, 1) := by decide +kernel
theorem dX6_says_0 : decode cX6_says 0 = .ok (.iload_n 1, 1) := by decide +kernel
theorem dX6_says_1 : decode cX6_says 1 = .ok (.lookupswitch 74 #[(1, 35), (4, 50), (6, 65)], 35) := by decide +kernel
theorem dX6_says_36 : decode cX6_says 36 = .ok (.aload_n 0, 1) := by decide +kernel
theorem dX6_says_37 : decode cX6_says 37 = .ok (.bipush 20, 2) := by decide +kernel
theorem dX6_says_39 : decode cX6_says 39 = .ok (.invokevirtual 49, 3) := by decide +kernel
theorem dX6_says_42 : decode cX6_says 42 = .ok (.aload_n 0, 1) := by decide +kernel
theorem dX6_says_43 : decode cX6_says 43 = .ok (.iconst 0, 1) := by decide +kernel
theorem dX6_says_44 : decode cX6_says 44 = .ok (.iload_n 2, 1) := by decide +kernel
theorem dX6_says_45 : decode cX6_says 45 = .ok (.invokevirtual 36, 3) := by decide +kernel
theorem dX6_says_48 : decode cX6_says 48 = .ok (.iconst 4, 1) := by decide +kernel
theorem dX6_says_49 : decode cX6_says 49 = .ok (.isub, 1) := by decide +kernel
theorem dX6_says_50 : decode cX6_says 50 = .ok (.ireturn, 1) := by decide +kernel
theorem dX6_says_51 : decode cX6_says 51 = .ok (.aload_n 0, 1) := by decide +kernel
theorem dX6_says_52 : decode cX6_says 52 = .ok (.bipush 50, 2) := by decide +kernel
theorem dX6_says_54 : decode cX6_says 54 = .ok (.invokevirtual 49, 3) := by decide +kernel
theorem dX6_says_57 : decode cX6_says 57 = .ok (.aload_n 0, 1) := by decide +kernel
theorem dX6_says_58 : decode cX6_says 58 = .ok (.iconst 1, 1) := by decide +kernel
theorem dX6_says_59 : decode cX6_says 59 = .ok (.iload_n 2, 1) := by decide +kernel
theorem dX6_says_60 : decode cX6_says 60 = .ok (.invokevirtual 36, 3) := by decide +kernel
theorem dX6_says_63 : decode cX6_says 63 = .ok (.iconst 3, 1) := by decide +kernel
theorem dX6_says_64 : decode cX6_says 64 = .ok (.imul, 1) := by decide +kernel
theorem dX6_says_65 : decode cX6_says 65 = .ok (.ireturn, 1) := by decide +kernel
theorem dX6_says_66 : decode cX6_says 66 = .ok (.aload_n 0, 1) := by decide +kernel
theorem dX6_says_67 : decode cX6_says 67 = .ok (.bipush 70, 2) := by decide +kernel
theorem dX6_says_69 : decode cX6_says 69 = .ok (.invokevirtual 49, 3) := by decide +kernel
theorem dX6_says_72 : decode cX6_says 72 = .ok (.bipush 9, 2) := by decide +kernel
theorem dX6_says_74 : decode cX6_says 74 = .ok (.ireturn, 1) := by decide +kernel
theorem dX6_says_75 : decode cX6_says 75 = .ok (.aload_n 0, 1) := by decide +kernel
theorem dX6_says_76 : decode cX6_says 76 = .ok (.bipush 10, 2) := by decide +kernel
theorem dX6_says_78 : decode cX6_says 78 = .ok (.invokevirtual 49, 3) := by decide +kernel
theorem dX6_says_81 : decode cX6_says 81 = .ok (.iload_n 2, 1) := by decide +kernel
theorem dX6_says_82 : decode cX6_says 82 = .ok (.aload_n 0, 1) := by decide +kernel
theorem dX6_says_83 : decode cX6_says 83 = .ok (.getfield 29, 3) := by decide +kernel
theorem dX6_says_86 : decode cX6_says 86 = .ok (.iadd, 1) := by decide +kernel
theorem dX6_says_87 : decode cX6_says 87 = .ok (.ireturn, 1) := by decide +kernel
theorem dX6_asks_0 : decode cX6_asks 0 = .ok (.iload_n 1, 1) := by decide +kernel
theorem dX6_asks_1 : decode cX6_asks 1 = .ok (.tableswitch 83 2 6 #[35, 83, 83, 50, 65], 35) := by decide +kernel
theorem dX6_asks_36 : decode cX6_asks 36 = .ok (.aload_n 0, 1) := by decide +kernel
theorem dX6_asks_37 : decode cX6_asks 37 = .ok (.bipush 30, 2) := by decide +kernel
theorem dX6_asks_39 : decode cX6_asks 39 = .ok (.invokevirtual 49, 3) := by decide +kernel
theorem dX6_asks_42 : decode cX6_asks 42 = .ok (.iconst 0, 1) := by decide +kernel
theorem dX6_asks_43 : decode cX6_asks 43 = .ok (.aload_n 0, 1) := by decide +kernel
theorem dX6_asks_44 : decode cX6_asks 44 = .ok (.iconst 0, 1) := by decide +kernel
theorem dX6_asks_45 : decode cX6_asks 45 = .ok (.iload_n 2, 1) := by decide +kernel
theorem dX6_asks_46 : decode cX6_asks 46 = .ok (.invokevirtual 40, 3) := by decide +kernel
theorem dX6_asks_49 : decode cX6_asks 49 = .ok (.isub, 1) := by decide +kernel
theorem dX6_asks_50 : decode cX6_asks 50 = .ok (.ireturn, 1) := by decide +kernel
theorem dX6_asks_51 : decode cX6_asks 51 = .ok (.aload_n 0, 1) := by decide +kernel
theorem dX6_asks_52 : decode cX6_asks 52 = .ok (.bipush 60, 2) := by decide +kernel
theorem dX6_asks_54 : decode cX6_asks 54 = .ok (.invokevirtual 49, 3) := by decide +kernel
theorem dX6_asks_57 : decode cX6_asks 57 = .ok (.aload_n 0, 1) := by decide +kernel
theorem dX6_asks_58 : decode cX6_asks 58 = .ok (.iconst 2, 1) := by decide +kernel
theorem dX6_asks_59 : decode cX6_asks 59 = .ok (.iload_n 2, 1) := by decide +kernel
theorem dX6_asks_60 : decode cX6_asks 60 = .ok (.iconst 1, 1) := by decide +kernel
theorem dX6_asks_61 : decode cX6_asks 61 = .ok (.iadd, 1) := by decide +kernel
theorem dX6_asks_62 : decode cX6_asks 62 = .ok (.invokevirtual 40, 3) := by decide +kernel
theorem dX6_asks_65 : decode cX6_asks 65 = .ok (.ireturn, 1) := by decide +kernel
theorem dX6_asks_66 : decode cX6_asks 66 = .ok (.aload_n 0, 1) := by decide +kernel
theorem dX6_asks_67 : decode cX6_asks 67 = .ok (.bipush 71, 2) := by decide +kernel
theorem dX6_asks_69 : decode cX6_asks 69 = .ok (.invokevirtual 49, 3) := by decide +kernel
theorem dX6_asks_72 : decode cX6_asks 72 = .ok (.aload_n 0, 1) := by decide +kernel
theorem dX6_asks_73 : decode cX6_asks 73 = .ok (.iconst 0, 1) := by decide +kernel
theorem dX6_asks_74 : decode cX6_asks 74 = .ok (.iload_n 2, 1) := by decide +kernel
theorem dX6_asks_75 : decode cX6_asks 75 = .ok (.invokevirtual 40, 3) := by decide +kernel
theorem dX6_asks_78 : decode cX6_asks 78 = .ok (.aload_n 0, 1) := by decide +kernel
theorem dX6_asks_79 : decode cX6_asks 79 = .ok (.getfield 35, 3) := by decide +kernel
theorem dX6_asks_82 : decode cX6_asks 82 = .ok (.iadd, 1) := by decide +kernel
theorem dX6_asks_83 : decode cX6_asks 83 = .ok (.ireturn, 1) := by decide +kernel
theorem dX6_asks_84 : decode cX6_asks 84 = .ok (.aload_n 0, 1) := by decide +kernel
theorem dX6_asks_85 : decode cX6_asks 85 = .ok (.bipush 11, 2) := by decide +kernel
theorem dX6_asks_87 : decode cX6_asks 87 = .ok (.invokevirtual 49, 3) := by decide +kernel
theorem dX6_asks_90 : decode cX6_asks 90 = .ok (.aload_n 0, 1) := by decide +kernel
theorem dX6_asks_91 : decode cX6_asks 91 = .ok (.aload_n 0, 1) := by decide +kernel
theorem dX6_asks_92 : decode cX6_asks 92 = .ok (.getfield 28, 3) := by decide +kernel
theorem dX6_asks_95 : decode cX6_asks 95 = .ok (.iload_n 2, 1) := by decide +kernel
theorem dX6_asks_96 : decode cX6_asks 96 = .ok (.invokevirtual 36, 3) := by decide +kernel
theorem dX6_asks_99 : decode cX6_asks 99 = .ok (.iconst 2, 1) := by decide +kernel
theorem dX6_asks_100 : decode cX6_asks 100 = .ok (.imul, 1) := by decide +kernel
theorem dX6_asks_101 : decode cX6_asks 101 = .ok (.ireturn, 1) := by decide +kernel
theorem dX6_hums_0 : decode cX6_hums 0 = .ok (.iload_n 1, 1) := by decide +kernel
theorem dX6_hums_1 : decode cX6_hums 1 = .ok (.lookupswitch 60 #[(3, 27), (4, 42)], 27) := by decide +kernel
theorem dX6_hums_28 : decode cX6_hums 28 = .ok (.aload_n 0, 1) := by decide +kernel
theorem dX6_hums_29 : decode cX6_hums 29 = .ok (.bipush 40, 2) := by decide +kernel
theorem dX6_hums_31 : decode cX6_hums 31 = .ok (.invokevirtual 49, 3) := by decide +kernel
theorem dX6_hums_34 : decode cX6_hums 34 = .ok (.aload_n 0, 1) := by decide +kernel
theorem dX6_hums_35 : decode cX6_hums 35 = .ok (.iconst 0, 1) := by decide +kernel
theorem dX6_hums_36 : decode cX6_hums 36 = .ok (.iload_n 2, 1) := by decide +kernel
theorem dX6_hums_37 : decode cX6_hums 37 = .ok (.iconst 2, 1) := by decide +kernel
theorem dX6_hums_38 : decode cX6_hums 38 = .ok (.idiv, 1) := by decide +kernel
theorem dX6_hums_39 : decode cX6_hums 39 = .ok (.invokevirtual 43, 3) := by decide +kernel
theorem dX6_hums_42 : decode cX6_hums 42 = .ok (.ireturn, 1) := by decide +kernel
theorem dX6_hums_43 : decode cX6_hums 43 = .ok (.aload_n 0, 1) := by decide +kernel
theorem dX6_hums_44 : decode cX6_hums 44 = .ok (.bipush 51, 2) := by decide +kernel
theorem dX6_hums_46 : decode cX6_hums 46 = .ok (.invokevirtual 49, 3) := by decide +kernel
theorem dX6_hums_49 : decode cX6_hums 49 = .ok (.aload_n 0, 1) := by decide +kernel
theorem dX6_hums_50 : decode cX6_hums 50 = .ok (.iconst 1, 1) := by decide +kernel
theorem dX6_hums_51 : decode cX6_hums 51 = .ok (.iload_n 2, 1) := by decide +kernel
theorem dX6_hums_52 : decode cX6_hums 52 = .ok (.invokevirtual 43, 3) := by decide +kernel
theorem dX6_hums_55 : decode cX6_hums 55 = .ok (.aload_n 0, 1) := by decide +kernel
theorem dX6_hums_56 : decode cX6_hums 56 = .ok (.getfield 29, 3) := by decide +kernel
theorem dX6_hums_59 : decode cX6_hums 59 = .ok (.ixor, 1) := by decide +kernel
theorem dX6_hums_60 : decode cX6_hums 60 = .ok (.ireturn, 1) := by decide +kernel
theorem dX6_hums_61 : decode cX6_hums 61 = .ok (.aload_n 0, 1) := by decide +kernel
theorem dX6_hums_62 : decode cX6_hums 62 = .ok (.bipush 12, 2) := by decide +kernel
theorem dX6_hums_64 : decode cX6_hums 64 = .ok (.invokevirtual 49, 3) := by decide +kernel
theorem dX6_hums_67 : decode cX6_hums 67 = .ok (.aload_n 0, 1) := by decide +kernel
theorem dX6_hums_68 : decode cX6_hums 68 = .ok (.aload_n 0, 1) := by decide +kernel
theorem dX6_hums_69 : decode cX6_hums 69 = .ok (.getfield 28, 3) := by decide +kernel
theorem dX6_hums_72 : decode cX6_hums 72 = .ok (.iload_n 2, 1) := by decide +kernel
theorem dX6_hums_73 : decode cX6_hums 73 = .ok (.invokevirtual 40, 3) := by decide +kernel
theorem dX6_hums_76 : decode cX6_hums 76 = .ok (.aload_n 0, 1) := by decide +kernel
theorem dX6_hums_77 : decode cX6_hums 77 = .ok (.getfield 35, 3) := by decide +kernel
theorem dX6_hums_80 : decode cX6_hums 80 = .ok (.isub, 1) := by decide +kernel
theorem dX6_hums_81 : decode cX6_hums 81 = .ok (.ireturn, 1) := by decide +kernel
theorem dX6_parts_0 : decode cX6_parts 0 = .ok (.iload_n 1, 1) := by decide +kernel
theorem dX6_parts_1 : decode cX6_parts 1 = .ok (.lookupswitch 63 #[(1, 27), (4, 27)], 27) := by decide +kernel
theorem dX6_parts_28 : decode cX6_parts 28 = .ok (.aload_n 0, 1) := by decide +kernel
theorem dX6_parts_29 : decode cX6_parts 29 = .ok (.bipush 21, 2) := by decide +kernel
theorem dX6_parts_31 : decode cX6_parts 31 = .ok (.invokevirtual 49, 3) := by decide +kernel
theorem dX6_parts_34 : decode cX6_parts 34 = .ok (.aload_n 0, 1) := by decide +kernel
theorem dX6_parts_35 : decode cX6_parts 35 = .ok (.iconst 0, 1) := by decide +kernel
theorem dX6_parts_36 : decode cX6_parts 36 = .ok (.iload_n 2, 1) := by decide +kernel
theorem dX6_parts_37 : decode cX6_parts 37 = .ok (.invokevirtual 46, 3) := by decide +kernel
theorem dX6_parts_40 : decode cX6_parts 40 = .ok (.istore_n 3, 1) := by decide +kernel
theorem dX6_parts_41 : decode cX6_parts 41 = .ok (.aload_n 0, 1) := by decide +kernel
theorem dX6_parts_42 : decode cX6_parts 42 = .ok (.getfield 15, 3) := by decide +kernel
theorem dX6_parts_45 : decode cX6_parts 45 = .ok (.ifCond .eq 7, 3) := by decide +kernel
theorem dX6_parts_48 : decode cX6_parts 48 = .ok (.iconst 0, 1) := by decide +kernel
theorem dX6_parts_49 : decode cX6_parts 49 = .ok (.goto 14, 3) := by decide +kernel
theorem dX6_parts_52 : decode cX6_parts 52 = .ok (.iload_n 3, 1) := by decide +kernel
theorem dX6_parts_53 : decode cX6_parts 53 = .ok (.aload_n 0, 1) := by decide +kernel
theorem dX6_parts_54 : decode cX6_parts 54 = .ok (.aload_n 0, 1) := by decide +kernel
theorem dX6_parts_55 : decode cX6_parts 55 = .ok (.getfield 28, 3) := by decide +kernel
theorem dX6_parts_58 : decode cX6_parts 58 = .ok (.iconst 1, 1) := by decide +kernel
theorem dX6_parts_59 : decode cX6_parts 59 = .ok (.invokevirtual 40, 3) := by decide +kernel
theorem dX6_parts_62 : decode cX6_parts 62 = .ok (.iadd, 1) := by decide +kernel
theorem dX6_parts_63 : decode cX6_parts 63 = .ok (.ireturn, 1) := by decide +kernel
theorem dX6_parts_64 : decode cX6_parts 64 = .ok (.aload_n 0, 1) := by decide +kernel
theorem dX6_parts_65 : decode cX6_parts 65 = .ok (.bipush 13, 2) := by decide +kernel
theorem dX6_parts_67 : decode cX6_parts 67 = .ok (.invokevirtual 49, 3) := by decide +kernel
theorem dX6_parts_70 : decode cX6_parts 70 = .ok (.aload_n 0, 1) := by decide +kernel
theorem dX6_parts_71 : decode cX6_parts 71 = .ok (.getfield 35, 3) := by decide +kernel
theorem dX6_parts_74 : decode cX6_parts 74 = .ok (.aload_n 0, 1) := by decide +kernel
theorem dX6_parts_75 : decode cX6_parts 75 = .ok (.getfield 29, 3) := by decide +kernel
theorem dX6_parts_78 : decode cX6_parts 78 = .ok (.if_icmp .ne 10, 3) := by decide +kernel
theorem dX6_parts_81 : decode cX6_parts 81 = .ok (.aload_n 0, 1) := by decide +kernel
theorem dX6_parts_82 : decode cX6_parts 82 = .ok (.iconst 1, 1) := by decide +kernel
theorem dX6_parts_83 : decode cX6_parts 83 = .ok (.putfield 15, 3) := by decide +kernel
theorem dX6_parts_86 : decode cX6_parts 86 = .ok (.iconst 0, 1) := by decide +kernel
theorem dX6_parts_87 : decode cX6_parts 87 = .ok (.ireturn, 1) := by decide +kernel
theorem dX6_parts_88 : decode cX6_parts 88 = .ok (.iload_n 2, 1) := by decide +kernel
theorem dX6_parts_89 : decode cX6_parts 89 = .ok (.aload_n 0, 1) := by decide +kernel
theorem dX6_parts_90 : decode cX6_parts 90 = .ok (.getfield 35, 3) := by decide +kernel
theorem dX6_parts_93 : decode cX6_parts 93 = .ok (.aload_n 0, 1) := by decide +kernel
theorem dX6_parts_94 : decode cX6_parts 94 = .ok (.getfield 29, 3) := by decide +kernel
theorem dX6_parts_97 : decode cX6_parts 97 = .ok (.isub, 1) := by decide +kernel
theorem dX6_parts_98 : decode cX6_parts 98 = .ok (.idiv, 1) := by decide +kernel
theorem dX6_parts_99 : decode cX6_parts 99 = .ok (.ireturn, 1) := by decide +kernel
theorem dX7_init_0 : decode cX7_init 0 = .ok (.aload_n 0, 1) := by decide +kernel
theorem dX7_init_1 : decode cX7_init 1 = .ok (.invokespecial 3, 3) := by decide +kernel
theorem dX7_init_4 : decode cX7_init 4 = .ok (.aload_n 0, 1) := by decide +kernel
theorem dX7_init_5 : decode cX7_init 5 = .ok (.new 9, 3) := by decide +kernel
theorem dX7_init_8 : decode cX7_init 8 = .ok (.dup, 1) := by decide +kernel
theorem dX7_init_9 : decode cX7_init 9 = .ok (.invokespecial 11, 3) := by decide +kernel
theorem dX7_init_12 : decode cX7_init 12 = .ok (.putfield 12, 3) := by decide +kernel
theorem dX7_init_15 : decode cX7_init 15 = .ok (.aload_n 0, 1) := by decide +kernel
theorem dX7_init_16 : decode cX7_init 16 = .ok (.iconst 0, 1) := by decide +kernel
theorem dX7_init_17 : decode cX7_init 17 = .ok (.newarray .byte, 2) := by decide +kernel
theorem dX7_init_19 : decode cX7_init 19 = .ok (.putfield 18, 3) := by decide +kernel
theorem dX7_init_22 : decode cX7_init 22 = .ok (.return_, 1) := by decide +kernel
theorem dX7_read_0 : decode cX7_read 0 = .ok (.aload_n 0, 1) := by decide +kernel
theorem dX7_read_1 : decode cX7_read 1 = .ok (.aload_n 1, 1) := by decide +kernel
theorem dX7_read_2 : decode cX7_read 2 = .ok (.putfield 18, 3) := by decide +kernel
theorem dX7_read_5 : decode cX7_read 5 = .ok (.aload_n 0, 1) := by decide +kernel
theorem dX7_read_6 : decode cX7_read 6 = .ok (.iload_n 2, 1) := by decide +kernel
theorem dX7_read_7 : decode cX7_read 7 = .ok (.putfield 22, 3) := by decide +kernel
theorem dX7_read_10 : decode cX7_read 10 = .ok (.aload_n 0, 1) := by decide +kernel
theorem dX7_read_11 : decode cX7_read 11 = .ok (.iload_n 3, 1) := by decide +kernel
theorem dX7_read_12 : decode cX7_read 12 = .ok (.putfield 26, 3) := by decide +kernel
theorem dX7_read_15 : decode cX7_read 15 = .ok (.aload_n 0, 1) := by decide +kernel
theorem dX7_read_16 : decode cX7_read 16 = .ok (.iconst 0, 1) := by decide +kernel
theorem dX7_read_17 : decode cX7_read 17 = .ok (.putfield 29, 3) := by decide +kernel
theorem dX7_read_20 : decode cX7_read 20 = .ok (.aload_n 0, 1) := by decide +kernel
theorem dX7_read_21 : decode cX7_read 21 = .ok (.getfield 12, 3) := by decide +kernel
theorem dX7_read_24 : decode cX7_read 24 = .ok (.invokevirtual 32, 3) := by decide +kernel
theorem dX7_read_27 : decode cX7_read 27 = .ok (.aload_n 0, 1) := by decide +kernel
theorem dX7_read_28 : decode cX7_read 28 = .ok (.iconst 0, 1) := by decide +kernel
theorem dX7_read_29 : decode cX7_read 29 = .ok (.iconst 0, 1) := by decide +kernel
theorem dX7_read_30 : decode cX7_read 30 = .ok (.invokevirtual 35, 3) := by decide +kernel
theorem dX7_read_33 : decode cX7_read 33 = .ok (.ifCond .eq 18, 3) := by decide +kernel
theorem dX7_read_36 : decode cX7_read 36 = .ok (.aload_n 0, 1) := by decide +kernel
theorem dX7_read_37 : decode cX7_read 37 = .ok (.getfield 29, 3) := by decide +kernel
theorem dX7_read_40 : decode cX7_read 40 = .ok (.aload_n 0, 1) := by decide +kernel
theorem dX7_read_41 : decode cX7_read 41 = .ok (.getfield 22, 3) := by decide +kernel
theorem dX7_read_44 : decode cX7_read 44 = .ok (.if_icmp .ne 7, 3) := by decide +kernel
theorem dX7_read_47 : decode cX7_read 47 = .ok (.iconst 1, 1) := by decide +kernel
theorem dX7_read_48 : decode cX7_read 48 = .ok (.goto 4, 3) := by decide +kernel
theorem dX7_read_51 : decode cX7_read 51 = .ok (.iconst 0, 1) := by decide +kernel
theorem dX7_read_52 : decode cX7_read 52 = .ok (.ireturn, 1) := by decide +kernel
theorem dX7_signHere_0 : decode cX7_signHere 0 = .ok (.aload_n 0, 1) := by decide +kernel
theorem dX7_signHere_1 : decode cX7_signHere 1 = .ok (.getfield 29, 3) := by decide +kernel
theorem dX7_signHere_4 : decode cX7_signHere 4 = .ok (.aload_n 0, 1) := by decide +kernel
theorem dX7_signHere_5 : decode cX7_signHere 5 = .ok (.getfield 22, 3) := by decide +kernel
theorem dX7_signHere_8 : decode cX7_signHere 8 = .ok (.if_icmp .ge 27, 3) := by decide +kernel
theorem dX7_signHere_11 : decode cX7_signHere 11 = .ok (.aload_n 0, 1) := by decide +kernel
theorem dX7_signHere_12 : decode cX7_signHere 12 = .ok (.getfield 29, 3) := by decide +kernel
theorem dX7_signHere_15 : decode cX7_signHere 15 = .ok (.aload_n 0, 1) := by decide +kernel
theorem dX7_signHere_16 : decode cX7_signHere 16 = .ok (.getfield 18, 3) := by decide +kernel
theorem dX7_signHere_19 : decode cX7_signHere 19 = .ok (.arraylength, 1) := by decide +kernel
theorem dX7_signHere_20 : decode cX7_signHere 20 = .ok (.if_icmp .ge 15, 3) := by decide +kernel
theorem dX7_signHere_23 : decode cX7_signHere 23 = .ok (.aload_n 0, 1) := by decide +kernel
theorem dX7_signHere_24 : decode cX7_signHere 24 = .ok (.getfield 18, 3) := by decide +kernel
theorem dX7_signHere_27 : decode cX7_signHere 27 = .ok (.aload_n 0, 1) := by decide +kernel
theorem dX7_signHere_28 : decode cX7_signHere 28 = .ok (.getfield 29, 3) := by decide +kernel
theorem dX7_signHere_31 : decode cX7_signHere 31 = .ok (.baload, 1) := by decide +kernel
theorem dX7_signHere_32 : decode cX7_signHere 32 = .ok (.goto 4, 3) := by decide +kernel
theorem dX7_signHere_35 : decode cX7_signHere 35 = .ok (.iconst 0, 1) := by decide +kernel
theorem dX7_signHere_36 : decode cX7_signHere 36 = .ok (.ireturn, 1) := by decide +kernel
theorem dX7_readJoined_0 : decode cX7_readJoined 0 = .ok (.iload_n 1, 1) := by decide +kernel
theorem dX7_readJoined_1 : decode cX7_readJoined 1 = .ok (.iconst 4, 1) := by decide +kernel
theorem dX7_readJoined_2 : decode cX7_readJoined 2 = .ok (.if_icmp .le 9, 3) := by decide +kernel
theorem dX7_readJoined_5 : decode cX7_readJoined 5 = .ok (.aload_n 0, 1) := by decide +kernel
theorem dX7_readJoined_6 : decode cX7_readJoined 6 = .ok (.iload_n 2, 1) := by decide +kernel
theorem dX7_readJoined_7 : decode cX7_readJoined 7 = .ok (.invokevirtual 39, 3) := by decide +kernel
theorem dX7_readJoined_10 : decode cX7_readJoined 10 = .ok (.ireturn, 1) := by decide +kernel
theorem dX7_readJoined_11 : decode cX7_readJoined 11 = .ok (.aload_n 0, 1) := by decide +kernel
theorem dX7_readJoined_12 : decode cX7_readJoined 12 = .ok (.iload_n 1, 1) := by decide +kernel
theorem dX7_readJoined_13 : decode cX7_readJoined 13 = .ok (.iconst 1, 1) := by decide +kernel
theorem dX7_readJoined_14 : decode cX7_readJoined 14 = .ok (.iadd, 1) := by decide +kernel
theorem dX7_readJoined_15 : decode cX7_readJoined 15 = .ok (.iload_n 2, 1) := by decide +kernel
theorem dX7_readJoined_16 : decode cX7_readJoined 16 = .ok (.invokevirtual 35, 3) := by decide +kernel
theorem dX7_readJoined_19 : decode cX7_readJoined 19 = .ok (.ifCond .ne 5, 3) := by decide +kernel
theorem dX7_readJoined_22 : decode cX7_readJoined 22 = .ok (.iconst 0, 1) := by decide +kernel
theorem dX7_readJoined_23 : decode cX7_readJoined 23 = .ok (.ireturn, 1) := by decide +kernel
theorem dX7_readJoined_24 : decode cX7_readJoined 24 = .ok (.iload_n 1, 1) := by decide +kernel
theorem dX7_readJoined_25 : decode cX7_readJoined 25 = .ok (.iconst 2, 1) := by decide +kernel
theorem dX7_readJoined_26 : decode cX7_readJoined 26 = .ok (.if_icmp .ne 7, 3) := by decide +kernel
theorem dX7_readJoined_29 : decode cX7_readJoined 29 = .ok (.iconst 1, 1) := by decide +kernel
theorem dX7_readJoined_30 : decode cX7_readJoined 30 = .ok (.goto 5, 3) := by decide +kernel
theorem dX7_readJoined_33 : decode cX7_readJoined 33 = .ok (.bipush 60, 2) := by decide +kernel
theorem dX7_readJoined_35 : decode cX7_readJoined 35 = .ok (.istore_n 3, 1) := by decide +kernel
theorem dX7_readJoined_36 : decode cX7_readJoined 36 = .ok (.iconst 0, 1) := by decide +kernel
theorem dX7_readJoined_37 : decode cX7_readJoined 37 = .ok (.istore 4, 2) := by decide +kernel
theorem dX7_readJoined_39 : decode cX7_readJoined 39 = .ok (.iload 4, 2) := by decide +kernel
theorem dX7_readJoined_41 : decode cX7_readJoined 41 = .ok (.iload_n 3, 1) := by decide +kernel
theorem dX7_readJoined_42 : decode cX7_readJoined 42 = .ok (.if_icmp .ge 59, 3) := by decide +kernel
theorem dX7_readJoined_45 : decode cX7_readJoined 45 = .ok (.aload_n 0, 1) := by decide +kernel
theorem dX7_readJoined_46 : decode cX7_readJoined 46 = .ok (.invokevirtual 43, 3) := by decide +kernel
theorem dX7_readJoined_49 : decode cX7_readJoined 49 = .ok (.invokestatic 47, 3) := by decide +kernel
theorem dX7_readJoined_52 : decode cX7_readJoined 52 = .ok (.iload_n 1, 1) := by decide +kernel
theorem dX7_readJoined_53 : decode cX7_readJoined 53 = .ok (.if_icmp .ne 48, 3) := by decide +kernel
theorem dX7_readJoined_56 : decode cX7_readJoined 56 = .ok (.aload_n 0, 1) := by decide +kernel
theorem dX7_readJoined_57 : decode cX7_readJoined 57 = .ok (.invokevirtual 43, 3) := by decide +kernel
theorem dX7_readJoined_60 : decode cX7_readJoined 60 = .ok (.istore 5, 2) := by decide +kernel
theorem dX7_readJoined_62 : decode cX7_readJoined 62 = .ok (.aload_n 0, 1) := by decide +kernel
theorem dX7_readJoined_63 : decode cX7_readJoined 63 = .ok (.dup, 1) := by decide +kernel
theorem dX7_readJoined_64 : decode cX7_readJoined 64 = .ok (.getfield 29, 3) := by decide +kernel
theorem dX7_readJoined_67 : decode cX7_readJoined 67 = .ok (.iconst 1, 1) := by decide +kernel
theorem dX7_readJoined_68 : decode cX7_readJoined 68 = .ok (.iadd, 1) := by decide +kernel
theorem dX7_readJoined_69 : decode cX7_readJoined 69 = .ok (.putfield 29, 3) := by decide +kernel
theorem dX7_readJoined_72 : decode cX7_readJoined 72 = .ok (.aload_n 0, 1) := by decide +kernel
theorem dX7_readJoined_73 : decode cX7_readJoined 73 = .ok (.iload_n 1, 1) := by decide +kernel
theorem dX7_readJoined_74 : decode cX7_readJoined 74 = .ok (.iconst 1, 1) := by decide +kernel
theorem dX7_readJoined_75 : decode cX7_readJoined 75 = .ok (.iadd, 1) := by decide +kernel
theorem dX7_readJoined_76 : decode cX7_readJoined 76 = .ok (.iload_n 2, 1) := by decide +kernel
theorem dX7_readJoined_77 : decode cX7_readJoined 77 = .ok (.invokevirtual 35, 3) := by decide +kernel
theorem dX7_readJoined_80 : decode cX7_readJoined 80 = .ok (.ifCond .ne 5, 3) := by decide +kernel
theorem dX7_readJoined_83 : decode cX7_readJoined 83 = .ok (.iconst 0, 1) := by decide +kernel
theorem dX7_readJoined_84 : decode cX7_readJoined 84 = .ok (.ireturn, 1) := by decide +kernel
theorem dX7_readJoined_85 : decode cX7_readJoined 85 = .ok (.aload_n 0, 1) := by decide +kernel
theorem dX7_readJoined_86 : decode cX7_readJoined 86 = .ok (.getfield 12, 3) := by decide +kernel
theorem dX7_readJoined_89 : decode cX7_readJoined 89 = .ok (.iload 5, 2) := by decide +kernel
theorem dX7_readJoined_91 : decode cX7_readJoined 91 = .ok (.ineg, 1) := by decide +kernel
theorem dX7_readJoined_92 : decode cX7_readJoined 92 = .ok (.invokevirtual 51, 3) := by decide +kernel
theorem dX7_readJoined_95 : decode cX7_readJoined 95 = .ok (.iinc 4 1, 3) := by decide +kernel
theorem dX7_readJoined_98 : decode cX7_readJoined 98 = .ok (.goto (-59), 3) := by decide +kernel
theorem dX7_readJoined_101 : decode cX7_readJoined 101 = .ok (.iconst 1, 1) := by decide +kernel
theorem dX7_readJoined_102 : decode cX7_readJoined 102 = .ok (.ireturn, 1) := by decide +kernel
theorem dX7_readSingle_0 : decode cX7_readSingle 0 = .ok (.aload_n 0, 1) := by decide +kernel
theorem dX7_readSingle_1 : decode cX7_readSingle 1 = .ok (.invokevirtual 43, 3) := by decide +kernel
theorem dX7_readSingle_4 : decode cX7_readSingle 4 = .ok (.istore_n 2, 1) := by decide +kernel
theorem dX7_readSingle_5 : decode cX7_readSingle 5 = .ok (.iload_n 2, 1) := by decide +kernel
theorem dX7_readSingle_6 : decode cX7_readSingle 6 = .ok (.invokestatic 55, 3) := by decide +kernel
theorem dX7_readSingle_9 : decode cX7_readSingle 9 = .ok (.ifCond .eq 9, 3) := by decide +kernel
theorem dX7_readSingle_12 : decode cX7_readSingle 12 = .ok (.aload_n 0, 1) := by decide +kernel
theorem dX7_readSingle_13 : decode cX7_readSingle 13 = .ok (.invokevirtual 58, 3) := by decide +kernel
theorem dX7_readSingle_16 : decode cX7_readSingle 16 = .ok (.iconst 1, 1) := by decide +kernel
theorem dX7_readSingle_17 : decode cX7_readSingle 17 = .ok (.ireturn, 1) := by decide +kernel
theorem dX7_readSingle_18 : decode cX7_readSingle 18 = .ok (.iload_n 2, 1) := by decide +kernel
theorem dX7_readSingle_19 : decode cX7_readSingle 19 = .ok (.bipush 33, 2) := by decide +kernel
theorem dX7_readSingle_21 : decode cX7_readSingle 21 = .ok (.if_icmp .eq 15, 3) := by decide +kernel
theorem dX7_readSingle_24 : decode cX7_readSingle 24 = .ok (.iload_n 2, 1) := by decide +kernel
theorem dX7_readSingle_25 : decode cX7_readSingle 25 = .ok (.bipush 40, 2) := by decide +kernel
theorem dX7_readSingle_27 : decode cX7_readSingle 27 = .ok (.if_icmp .eq 9, 3) := by decide +kernel
theorem dX7_readSingle_30 : decode cX7_readSingle 30 = .ok (.aload_n 0, 1) := by decide +kernel
theorem dX7_readSingle_31 : decode cX7_readSingle 31 = .ok (.iload_n 2, 1) := by decide +kernel
theorem dX7_readSingle_32 : decode cX7_readSingle 32 = .ok (.invokevirtual 61, 3) := by decide +kernel
theorem dX7_readSingle_35 : decode cX7_readSingle 35 = .ok (.ireturn, 1) := by decide +kernel
theorem dX7_readSingle_36 : decode cX7_readSingle 36 = .ok (.iload_n 1, 1) := by decide +kernel
theorem dX7_readSingle_37 : decode cX7_readSingle 37 = .ok (.iconst 5, 1) := by decide +kernel
theorem dX7_readSingle_38 : decode cX7_readSingle 38 = .ok (.if_icmp .lt 5, 3) := by decide +kernel
theorem dX7_readSingle_41 : decode cX7_readSingle 41 = .ok (.iconst 0, 1) := by decide +kernel
theorem dX7_readSingle_42 : decode cX7_readSingle 42 = .ok (.ireturn, 1) := by decide +kernel
theorem dX7_readSingle_43 : decode cX7_readSingle 43 = .ok (.aload_n 0, 1) := by decide +kernel
theorem dX7_readSingle_44 : decode cX7_readSingle 44 = .ok (.dup, 1) := by decide +kernel
theorem dX7_readSingle_45 : decode cX7_readSingle 45 = .ok (.getfield 29, 3) := by decide +kernel
theorem dX7_readSingle_48 : decode cX7_readSingle 48 = .ok (.iconst 1, 1) := by decide +kernel
theorem dX7_readSingle_49 : decode cX7_readSingle 49 = .ok (.iadd, 1) := by decide +kernel
theorem dX7_readSingle_50 : decode cX7_readSingle 50 = .ok (.putfield 29, 3) := by decide +kernel
theorem dX7_readSingle_53 : decode cX7_readSingle 53 = .ok (.iload_n 2, 1) := by decide +kernel
theorem dX7_readSingle_54 : decode cX7_readSingle 54 = .ok (.bipush 33, 2) := by decide +kernel
theorem dX7_readSingle_56 : decode cX7_readSingle 56 = .ok (.if_icmp .ne 13, 3) := by decide +kernel
theorem dX7_readSingle_59 : decode cX7_readSingle 59 = .ok (.aload_n 0, 1) := by decide +kernel
theorem dX7_readSingle_60 : decode cX7_readSingle 60 = .ok (.iload_n 1, 1) := by decide +kernel
theorem dX7_readSingle_61 : decode cX7_readSingle 61 = .ok (.iconst 1, 1) := by decide +kernel
theorem dX7_readSingle_62 : decode cX7_readSingle 62 = .ok (.iadd, 1) := by decide +kernel
theorem dX7_readSingle_63 : decode cX7_readSingle 63 = .ok (.invokevirtual 64, 3) := by decide +kernel
theorem dX7_readSingle_66 : decode cX7_readSingle 66 = .ok (.goto 10, 3) := by decide +kernel
theorem dX7_readSingle_69 : decode cX7_readSingle 69 = .ok (.aload_n 0, 1) := by decide +kernel
theorem dX7_readSingle_70 : decode cX7_readSingle 70 = .ok (.iload_n 1, 1) := by decide +kernel
theorem dX7_readSingle_71 : decode cX7_readSingle 71 = .ok (.iconst 1, 1) := by decide +kernel
theorem dX7_readSingle_72 : decode cX7_readSingle 72 = .ok (.iadd, 1) := by decide +kernel
theorem dX7_readSingle_73 : decode cX7_readSingle 73 = .ok (.invokevirtual 67, 3) := by decide +kernel
theorem dX7_readSingle_76 : decode cX7_readSingle 76 = .ok (.ireturn, 1) := by decide +kernel
theorem dX7_readNegated_0 : decode cX7_readNegated 0 = .ok (.aload_n 0, 1) := by decide +kernel
theorem dX7_readNegated_1 : decode cX7_readNegated 1 = .ok (.iload_n 1, 1) := by decide +kernel
theorem dX7_readNegated_2 : decode cX7_readNegated 2 = .ok (.invokevirtual 39, 3) := by decide +kernel
theorem dX7_readNegated_5 : decode cX7_readNegated 5 = .ok (.ifCond .ne 5, 3) := by decide +kernel
theorem dX7_readNegated_8 : decode cX7_readNegated 8 = .ok (.iconst 0, 1) := by decide +kernel
theorem dX7_readNegated_9 : decode cX7_readNegated 9 = .ok (.ireturn, 1) := by decide +kernel
theorem dX7_readNegated_10 : decode cX7_readNegated 10 = .ok (.aload_n 0, 1) := by decide +kernel
theorem dX7_readNegated_11 : decode cX7_readNegated 11 = .ok (.getfield 12, 3) := by decide +kernel
theorem dX7_readNegated_14 : decode cX7_readNegated 14 = .ok (.bipush (-33), 2) := by decide +kernel
theorem dX7_readNegated_16 : decode cX7_readNegated 16 = .ok (.invokevirtual 51, 3) := by decide +kernel
theorem dX7_readNegated_19 : decode cX7_readNegated 19 = .ok (.iconst 1, 1) := by decide +kernel
theorem dX7_readNegated_20 : decode cX7_readNegated 20 = .ok (.ireturn, 1) := by decide +kernel
theorem dX7_readBracketed_0 : decode cX7_readBracketed 0 = .ok (.aload_n 0, 1) := by decide +kernel
theorem dX7_readBracketed_1 : decode cX7_readBracketed 1 = .ok (.iconst 0, 1) := by decide +kernel
theorem dX7_readBracketed_2 : decode cX7_readBracketed 2 = .ok (.iload_n 1, 1) := by decide +kernel
theorem dX7_readBracketed_3 : decode cX7_readBracketed 3 = .ok (.invokevirtual 35, 3) := by decide +kernel
theorem dX7_readBracketed_6 : decode cX7_readBracketed 6 = .ok (.ifCond .eq 12, 3) := by decide +kernel
theorem dX7_readBracketed_9 : decode cX7_readBracketed 9 = .ok (.aload_n 0, 1) := by decide +kernel
theorem dX7_readBracketed_10 : decode cX7_readBracketed 10 = .ok (.invokevirtual 43, 3) := by decide +kernel
theorem dX7_readBracketed_13 : decode cX7_readBracketed 13 = .ok (.bipush 41, 2) := by decide +kernel
theorem dX7_readBracketed_15 : decode cX7_readBracketed 15 = .ok (.if_icmp .eq 5, 3) := by decide +kernel
theorem dX7_readBracketed_18 : decode cX7_readBracketed 18 = .ok (.iconst 0, 1) := by decide +kernel
theorem dX7_readBracketed_19 : decode cX7_readBracketed 19 = .ok (.ireturn, 1) := by decide +kernel
theorem dX7_readBracketed_20 : decode cX7_readBracketed 20 = .ok (.aload_n 0, 1) := by decide +kernel
theorem dX7_readBracketed_21 : decode cX7_readBracketed 21 = .ok (.dup, 1) := by decide +kernel
theorem dX7_readBracketed_22 : decode cX7_readBracketed 22 = .ok (.getfield 29, 3) := by decide +kernel
theorem dX7_readBracketed_25 : decode cX7_readBracketed 25 = .ok (.iconst 1, 1) := by decide +kernel
theorem dX7_readBracketed_26 : decode cX7_readBracketed 26 = .ok (.iadd, 1) := by decide +kernel
theorem dX7_readBracketed_27 : decode cX7_readBracketed 27 = .ok (.putfield 29, 3) := by decide +kernel
theorem dX7_readBracketed_30 : decode cX7_readBracketed 30 = .ok (.iconst 1, 1) := by decide +kernel
theorem dX7_readBracketed_31 : decode cX7_readBracketed 31 = .ok (.ireturn, 1) := by decide +kernel
theorem dX7_readNumber_0 : decode cX7_readNumber 0 = .ok (.iconst 0, 1) := by decide +kernel
theorem dX7_readNumber_1 : decode cX7_readNumber 1 = .ok (.istore_n 1, 1) := by decide +kernel
theorem dX7_readNumber_2 : decode cX7_readNumber 2 = .ok (.iconst 0, 1) := by decide +kernel
theorem dX7_readNumber_3 : decode cX7_readNumber 3 = .ok (.istore_n 2, 1) := by decide +kernel
theorem dX7_readNumber_4 : decode cX7_readNumber 4 = .ok (.iload_n 2, 1) := by decide +kernel
theorem dX7_readNumber_5 : decode cX7_readNumber 5 = .ok (.iconst 4, 1) := by decide +kernel
theorem dX7_readNumber_6 : decode cX7_readNumber 6 = .ok (.if_icmp .ge 42, 3) := by decide +kernel
theorem dX7_readNumber_9 : decode cX7_readNumber 9 = .ok (.aload_n 0, 1) := by decide +kernel
theorem dX7_readNumber_10 : decode cX7_readNumber 10 = .ok (.invokevirtual 43, 3) := by decide +kernel
theorem dX7_readNumber_13 : decode cX7_readNumber 13 = .ok (.invokestatic 55, 3) := by decide +kernel
theorem dX7_readNumber_16 : decode cX7_readNumber 16 = .ok (.ifCond .eq 32, 3) := by decide +kernel
theorem dX7_readNumber_19 : decode cX7_readNumber 19 = .ok (.bipush 10, 2) := by decide +kernel
theorem dX7_readNumber_21 : decode cX7_readNumber 21 = .ok (.iload_n 1, 1) := by decide +kernel
theorem dX7_readNumber_22 : decode cX7_readNumber 22 = .ok (.imul, 1) := by decide +kernel
theorem dX7_readNumber_23 : decode cX7_readNumber 23 = .ok (.aload_n 0, 1) := by decide +kernel
theorem dX7_readNumber_24 : decode cX7_readNumber 24 = .ok (.invokevirtual 43, 3) := by decide +kernel
theorem dX7_readNumber_27 : decode cX7_readNumber 27 = .ok (.iadd, 1) := by decide +kernel
theorem dX7_readNumber_28 : decode cX7_readNumber 28 = .ok (.bipush 48, 2) := by decide +kernel
theorem dX7_readNumber_30 : decode cX7_readNumber 30 = .ok (.isub, 1) := by decide +kernel
theorem dX7_readNumber_31 : decode cX7_readNumber 31 = .ok (.istore_n 1, 1) := by decide +kernel
theorem dX7_readNumber_32 : decode cX7_readNumber 32 = .ok (.aload_n 0, 1) := by decide +kernel
theorem dX7_readNumber_33 : decode cX7_readNumber 33 = .ok (.dup, 1) := by decide +kernel
theorem dX7_readNumber_34 : decode cX7_readNumber 34 = .ok (.getfield 29, 3) := by decide +kernel
theorem dX7_readNumber_37 : decode cX7_readNumber 37 = .ok (.iconst 1, 1) := by decide +kernel
theorem dX7_readNumber_38 : decode cX7_readNumber 38 = .ok (.iadd, 1) := by decide +kernel
theorem dX7_readNumber_39 : decode cX7_readNumber 39 = .ok (.putfield 29, 3) := by decide +kernel
theorem dX7_readNumber_42 : decode cX7_readNumber 42 = .ok (.iinc 2 1, 3) := by decide +kernel
theorem dX7_readNumber_45 : decode cX7_readNumber 45 = .ok (.goto (-41), 3) := by decide +kernel
theorem dX7_readNumber_48 : decode cX7_readNumber 48 = .ok (.aload_n 0, 1) := by decide +kernel
theorem dX7_readNumber_49 : decode cX7_readNumber 49 = .ok (.getfield 12, 3) := by decide +kernel
theorem dX7_readNumber_52 : decode cX7_readNumber 52 = .ok (.iload_n 1, 1) := by decide +kernel
theorem dX7_readNumber_53 : decode cX7_readNumber 53 = .ok (.invokevirtual 51, 3) := by decide +kernel
theorem dX7_readNumber_56 : decode cX7_readNumber 56 = .ok (.return_, 1) := by decide +kernel
theorem dX7_readName_0 : decode cX7_readName 0 = .ok (.iconst 0, 1) := by decide +kernel
theorem dX7_readName_1 : decode cX7_readName 1 = .ok (.istore_n 2, 1) := by decide +kernel
theorem dX7_readName_2 : decode cX7_readName 2 = .ok (.iload_n 2, 1) := by decide +kernel
theorem dX7_readName_3 : decode cX7_readName 3 = .ok (.iconst 3, 1) := by decide +kernel
theorem dX7_readName_4 : decode cX7_readName 4 = .ok (.if_icmp .ge 47, 3) := by decide +kernel
theorem dX7_readName_7 : decode cX7_readName 7 = .ok (.getstatic 70, 3) := by decide +kernel
theorem dX7_readName_10 : decode cX7_readName 10 = .ok (.iconst 3, 1) := by decide +kernel
theorem dX7_readName_11 : decode cX7_readName 11 = .ok (.aload_n 0, 1) := by decide +kernel
theorem dX7_readName_12 : decode cX7_readName 12 = .ok (.getfield 26, 3) := by decide +kernel
theorem dX7_readName_15 : decode cX7_readName 15 = .ok (.imul, 1) := by decide +kernel
theorem dX7_readName_16 : decode cX7_readName 16 = .ok (.iload_n 2, 1) := by decide +kernel
theorem dX7_readName_17 : decode cX7_readName 17 = .ok (.iadd, 1) := by decide +kernel
theorem dX7_readName_18 : decode cX7_readName 18 = .ok (.caload, 1) := by decide +kernel
theorem dX7_readName_19 : decode cX7_readName 19 = .ok (.iload_n 1, 1) := by decide +kernel
theorem dX7_readName_20 : decode cX7_readName 20 = .ok (.if_icmp .ne 25, 3) := by decide +kernel
theorem dX7_readName_23 : decode cX7_readName 23 = .ok (.aload_n 0, 1) := by decide +kernel
theorem dX7_readName_24 : decode cX7_readName 24 = .ok (.getfield 12, 3) := by decide +kernel
theorem dX7_readName_27 : decode cX7_readName 27 = .ok (.iconst (-1), 1) := by decide +kernel
theorem dX7_readName_28 : decode cX7_readName 28 = .ok (.iload_n 2, 1) := by decide +kernel
theorem dX7_readName_29 : decode cX7_readName 29 = .ok (.isub, 1) := by decide +kernel
theorem dX7_readName_30 : decode cX7_readName 30 = .ok (.invokevirtual 51, 3) := by decide +kernel
theorem dX7_readName_33 : decode cX7_readName 33 = .ok (.aload_n 0, 1) := by decide +kernel
theorem dX7_readName_34 : decode cX7_readName 34 = .ok (.dup, 1) := by decide +kernel
theorem dX7_readName_35 : decode cX7_readName 35 = .ok (.getfield 29, 3) := by decide +kernel
theorem dX7_readName_38 : decode cX7_readName 38 = .ok (.iconst 1, 1) := by decide +kernel
theorem dX7_readName_39 : decode cX7_readName 39 = .ok (.iadd, 1) := by decide +kernel
theorem dX7_readName_40 : decode cX7_readName 40 = .ok (.putfield 29, 3) := by decide +kernel
theorem dX7_readName_43 : decode cX7_readName 43 = .ok (.iconst 1, 1) := by decide +kernel
theorem dX7_readName_44 : decode cX7_readName 44 = .ok (.ireturn, 1) := by decide +kernel
theorem dX7_readName_45 : decode cX7_readName 45 = .ok (.iinc 2 1, 3) := by decide +kernel
theorem dX7_readName_48 : decode cX7_readName 48 = .ok (.goto (-46), 3) := by decide +kernel
theorem dX7_readName_51 : decode cX7_readName 51 = .ok (.iconst 0, 1) := by decide +kernel
theorem dX7_readName_52 : decode cX7_readName 52 = .ok (.ireturn, 1) := by decide +kernel
theorem dX7_isDigit_0 : decode cX7_isDigit 0 = .ok (.iload_n 0, 1) := by decide +kernel
theorem dX7_isDigit_1 : decode cX7_isDigit 1 = .ok (.bipush 48, 2) := by decide +kernel
theorem dX7_isDigit_3 : decode cX7_isDigit 3 = .ok (.if_icmp .lt 13, 3) := by decide +kernel
theorem dX7_isDigit_6 : decode cX7_isDigit 6 = .ok (.iload_n 0, 1) := by decide +kernel
theorem dX7_isDigit_7 : decode cX7_isDigit 7 = .ok (.bipush 57, 2) := by decide +kernel
theorem dX7_isDigit_9 : decode cX7_isDigit 9 = .ok (.if_icmp .gt 7, 3) := by decide +kernel
theorem dX7_isDigit_12 : decode cX7_isDigit 12 = .ok (.iconst 1, 1) := by decide +kernel
theorem dX7_isDigit_13 : decode cX7_isDigit 13 = .ok (.goto 4, 3) := by decide +kernel
theorem dX7_isDigit_16 : decode cX7_isDigit 16 = .ok (.iconst 0, 1) := by decide +kernel
theorem dX7_isDigit_17 : decode cX7_isDigit 17 = .ok (.ireturn, 1) := by decide +kernel
theorem dX7_levelOf_0 : decode cX7_levelOf 0 = .ok (.iload_n 0, 1) := by decide +kernel
theorem dX7_levelOf_1 : decode cX7_levelOf 1 = .ok (.lookupswitch 101 #[(37, 99), (38, 93), (42, 99), (43, 97), (45, 97), (47, 99), (60, 95), (61, 95), (62, 95), (124, 91)], 91) := by decide +kernel
theorem dX7_levelOf_92 : decode cX7_levelOf 92 = .ok (.iconst 0, 1) := by decide +kernel
theorem dX7_levelOf_93 : decode cX7_levelOf 93 = .ok (.ireturn, 1) := by decide +kernel
theorem dX7_levelOf_94 : decode cX7_levelOf 94 = .ok (.iconst 1, 1) := by decide +kernel
theorem dX7_levelOf_95 : decode cX7_levelOf 95 = .ok (.ireturn, 1) := by decide +kernel
theorem dX7_levelOf_96 : decode cX7_levelOf 96 = .ok (.iconst 2, 1) := by decide +kernel
theorem dX7_levelOf_97 : decode cX7_levelOf 97 = .ok (.ireturn, 1) := by decide +kernel
theorem dX7_levelOf_98 : decode cX7_levelOf 98 = .ok (.iconst 3, 1) := by decide +kernel
theorem dX7_levelOf_99 : decode cX7_levelOf 99 = .ok (.ireturn, 1) := by decide +kernel
theorem dX7_levelOf_100 : decode cX7_levelOf 100 = .ok (.iconst 4, 1) := by decide +kernel
theorem dX7_levelOf_101 : decode cX7_levelOf 101 = .ok (.ireturn, 1) := by decide +kernel
theorem dX7_levelOf_102 : decode cX7_levelOf 102 = .ok (.iconst (-1), 1) := by decide +kernel
theorem dX7_levelOf_103 : decode cX7_levelOf 103 = .ok (.ireturn, 1) := by decide +kernel
theorem dX8_init_0 : decode cX8_init 0 = .ok (.aload_n 0, 1) := by decide +kernel
theorem dX8_init_1 : decode cX8_init 1 = .ok (.invokespecial 3, 3) := by decide +kernel
theorem dX8_init_4 : decode cX8_init 4 = .ok (.aload_n 0, 1) := by decide +kernel
theorem dX8_init_5 : decode cX8_init 5 = .ok (.new 9, 3) := by decide +kernel
theorem dX8_init_8 : decode cX8_init 8 = .ok (.dup, 1) := by decide +kernel
theorem dX8_init_9 : decode cX8_init 9 = .ok (.invokespecial 11, 3) := by decide +kernel
theorem dX8_init_12 : decode cX8_init 12 = .ok (.putfield 12, 3) := by decide +kernel
theorem dX8_init_15 : decode cX8_init 15 = .ok (.aload_n 0, 1) := by decide +kernel
theorem dX8_init_16 : decode cX8_init 16 = .ok (.iconst 2, 1) := by decide +kernel
theorem dX8_init_17 : decode cX8_init 17 = .ok (.anewarray 18, 3) := by decide +kernel
theorem dX8_init_20 : decode cX8_init 20 = .ok (.putfield 20, 3) := by decide +kernel
theorem dX8_init_23 : decode cX8_init 23 = .ok (.aload_n 0, 1) := by decide +kernel
theorem dX8_init_24 : decode cX8_init 24 = .ok (.bipush 60, 2) := by decide +kernel
theorem dX8_init_26 : decode cX8_init 26 = .ok (.newarray .byte, 2) := by decide +kernel
theorem dX8_init_28 : decode cX8_init 28 = .ok (.putfield 24, 3) := by decide +kernel
theorem dX8_init_31 : decode cX8_init 31 = .ok (.aload_n 0, 1) := by decide +kernel
theorem dX8_init_32 : decode cX8_init 32 = .ok (.bipush 24, 2) := by decide +kernel
theorem dX8_init_34 : decode cX8_init 34 = .ok (.newarray .int, 2) := by decide +kernel
theorem dX8_init_36 : decode cX8_init 36 = .ok (.putfield 28, 3) := by decide +kernel
theorem dX8_init_39 : decode cX8_init 39 = .ok (.iconst 0, 1) := by decide +kernel
theorem dX8_init_40 : decode cX8_init 40 = .ok (.istore_n 1, 1) := by decide +kernel
theorem dX8_init_41 : decode cX8_init 41 = .ok (.iload_n 1, 1) := by decide +kernel
theorem dX8_init_42 : decode cX8_init 42 = .ok (.iconst 2, 1) := by decide +kernel
theorem dX8_init_43 : decode cX8_init 43 = .ok (.if_icmp .ge 22, 3) := by decide +kernel
theorem dX8_init_46 : decode cX8_init 46 = .ok (.aload_n 0, 1) := by decide +kernel
theorem dX8_init_47 : decode cX8_init 47 = .ok (.getfield 20, 3) := by decide +kernel
theorem dX8_init_50 : decode cX8_init 50 = .ok (.iload_n 1, 1) := by decide +kernel
theorem dX8_init_51 : decode cX8_init 51 = .ok (.new 18, 3) := by decide +kernel
theorem dX8_init_54 : decode cX8_init 54 = .ok (.dup, 1) := by decide +kernel
theorem dX8_init_55 : decode cX8_init 55 = .ok (.invokespecial 32, 3) := by decide +kernel
theorem dX8_init_58 : decode cX8_init 58 = .ok (.aastore, 1) := by decide +kernel
theorem dX8_init_59 : decode cX8_init 59 = .ok (.iinc 1 1, 3) := by decide +kernel
theorem dX8_init_62 : decode cX8_init 62 = .ok (.goto (-21), 3) := by decide +kernel
theorem dX8_init_65 : decode cX8_init 65 = .ok (.return_, 1) := by decide +kernel
theorem dX8_giveUse_0 : decode cX8_giveUse 0 = .ok (.aload_n 0, 1) := by decide +kernel
theorem dX8_giveUse_1 : decode cX8_giveUse 1 = .ok (.getfield 20, 3) := by decide +kernel
theorem dX8_giveUse_4 : decode cX8_giveUse 4 = .ok (.iload_n 1, 1) := by decide +kernel
theorem dX8_giveUse_5 : decode cX8_giveUse 5 = .ok (.aaload, 1) := by decide +kernel
theorem dX8_giveUse_6 : decode cX8_giveUse 6 = .ok (.astore 5, 2) := by decide +kernel
theorem dX8_giveUse_8 : decode cX8_giveUse 8 = .ok (.iload_n 1, 1) := by decide +kernel
theorem dX8_giveUse_9 : decode cX8_giveUse 9 = .ok (.ifCond .ne 33, 3) := by decide +kernel
theorem dX8_giveUse_12 : decode cX8_giveUse 12 = .ok (.aload 5, 2) := by decide +kernel
theorem dX8_giveUse_14 : decode cX8_giveUse 14 = .ok (.invokevirtual 33, 3) := by decide +kernel
theorem dX8_giveUse_17 : decode cX8_giveUse 17 = .ok (.ifCond .eq 15, 3) := by decide +kernel
theorem dX8_giveUse_20 : decode cX8_giveUse 20 = .ok (.aload 5, 2) := by decide +kernel
theorem dX8_giveUse_22 : decode cX8_giveUse 22 = .ok (.iload_n 2, 1) := by decide +kernel
theorem dX8_giveUse_23 : decode cX8_giveUse 23 = .ok (.iload_n 3, 1) := by decide +kernel
theorem dX8_giveUse_24 : decode cX8_giveUse 24 = .ok (.iload 4, 2) := by decide +kernel
theorem dX8_giveUse_26 : decode cX8_giveUse 26 = .ok (.invokevirtual 37, 3) := by decide +kernel
theorem dX8_giveUse_29 : decode cX8_giveUse 29 = .ok (.goto 6, 3) := by decide +kernel
theorem dX8_giveUse_32 : decode cX8_giveUse 32 = .ok (.iload_n 2, 1) := by decide +kernel
theorem dX8_giveUse_33 : decode cX8_giveUse 33 = .ok (.iload_n 3, 1) := by decide +kernel
theorem dX8_giveUse_34 : decode cX8_giveUse 34 = .ok (.iadd, 1) := by decide +kernel
theorem dX8_giveUse_35 : decode cX8_giveUse 35 = .ok (.iconst 1, 1) := by decide +kernel
theorem dX8_giveUse_36 : decode cX8_giveUse 36 = .ok (.bipush 99, 2) := by decide +kernel
theorem dX8_giveUse_38 : decode cX8_giveUse 38 = .ok (.invokestatic 41, 3) := by decide +kernel
theorem dX8_giveUse_41 : decode cX8_giveUse 41 = .ok (.ireturn, 1) := by decide +kernel
theorem dX8_giveUse_42 : decode cX8_giveUse 42 = .ok (.aload 5, 2) := by decide +kernel
theorem dX8_giveUse_44 : decode cX8_giveUse 44 = .ok (.invokevirtual 33, 3) := by decide +kernel
theorem dX8_giveUse_47 : decode cX8_giveUse 47 = .ok (.ifCond .eq 15, 3) := by decide +kernel
theorem dX8_giveUse_50 : decode cX8_giveUse 50 = .ok (.aload 5, 2) := by decide +kernel
theorem dX8_giveUse_52 : decode cX8_giveUse 52 = .ok (.iload_n 2, 1) := by decide +kernel
theorem dX8_giveUse_53 : decode cX8_giveUse 53 = .ok (.iload_n 3, 1) := by decide +kernel
theorem dX8_giveUse_54 : decode cX8_giveUse 54 = .ok (.iload 4, 2) := by decide +kernel
theorem dX8_giveUse_56 : decode cX8_giveUse 56 = .ok (.invokevirtual 37, 3) := by decide +kernel
theorem dX8_giveUse_59 : decode cX8_giveUse 59 = .ok (.goto 6, 3) := by decide +kernel
theorem dX8_giveUse_62 : decode cX8_giveUse 62 = .ok (.iload_n 2, 1) := by decide +kernel
theorem dX8_giveUse_63 : decode cX8_giveUse 63 = .ok (.iload_n 3, 1) := by decide +kernel
theorem dX8_giveUse_64 : decode cX8_giveUse 64 = .ok (.imul, 1) := by decide +kernel
theorem dX8_giveUse_65 : decode cX8_giveUse 65 = .ok (.bipush (-99), 2) := by decide +kernel
theorem dX8_giveUse_67 : decode cX8_giveUse 67 = .ok (.bipush 99, 2) := by decide +kernel
theorem dX8_giveUse_69 : decode cX8_giveUse 69 = .ok (.invokestatic 41, 3) := by decide +kernel
theorem dX8_giveUse_72 : decode cX8_giveUse 72 = .ok (.ireturn, 1) := by decide +kernel
theorem dX8_senseOf_0 : decode cX8_senseOf 0 = .ok (.aload_n 0, 1) := by decide +kernel
theorem dX8_senseOf_1 : decode cX8_senseOf 1 = .ok (.iconst 1, 1) := by decide +kernel
theorem dX8_senseOf_2 : decode cX8_senseOf 2 = .ok (.aload_n 1, 1) := by decide +kernel
theorem dX8_senseOf_3 : decode cX8_senseOf 3 = .ok (.getfield 44, 3) := by decide +kernel
theorem dX8_senseOf_6 : decode cX8_senseOf 6 = .ok (.aload_n 1, 1) := by decide +kernel
theorem dX8_senseOf_7 : decode cX8_senseOf 7 = .ok (.getfield 50, 3) := by decide +kernel
theorem dX8_senseOf_10 : decode cX8_senseOf 10 = .ok (.aload_n 1, 1) := by decide +kernel
theorem dX8_senseOf_11 : decode cX8_senseOf 11 = .ok (.invokevirtual 53, 3) := by decide +kernel
theorem dX8_senseOf_14 : decode cX8_senseOf 14 = .ok (.invokevirtual 57, 3) := by decide +kernel
theorem dX8_senseOf_17 : decode cX8_senseOf 17 = .ok (.ireturn, 1) := by decide +kernel
theorem dX8_copyFrom_0 : decode cX8_copyFrom 0 = .ok (.aload_n 0, 1) := by decide +kernel
theorem dX8_copyFrom_1 : decode cX8_copyFrom 1 = .ok (.getfield 12, 3) := by decide +kernel
theorem dX8_copyFrom_4 : decode cX8_copyFrom 4 = .ok (.aload_n 1, 1) := by decide +kernel
theorem dX8_copyFrom_5 : decode cX8_copyFrom 5 = .ok (.getfield 12, 3) := by decide +kernel
theorem dX8_copyFrom_8 : decode cX8_copyFrom 8 = .ok (.invokevirtual 61, 3) := by decide +kernel
theorem dX8_copyFrom_11 : decode cX8_copyFrom 11 = .ok (.iconst 0, 1) := by decide +kernel
theorem dX8_copyFrom_12 : decode cX8_copyFrom 12 = .ok (.istore_n 2, 1) := by decide +kernel
theorem dX8_copyFrom_13 : decode cX8_copyFrom 13 = .ok (.iload_n 2, 1) := by decide +kernel
theorem dX8_copyFrom_14 : decode cX8_copyFrom 14 = .ok (.iconst 2, 1) := by decide +kernel
theorem dX8_copyFrom_15 : decode cX8_copyFrom 15 = .ok (.if_icmp .ge 24, 3) := by decide +kernel
theorem dX8_copyFrom_18 : decode cX8_copyFrom 18 = .ok (.aload_n 0, 1) := by decide +kernel
theorem dX8_copyFrom_19 : decode cX8_copyFrom 19 = .ok (.getfield 20, 3) := by decide +kernel
theorem dX8_copyFrom_22 : decode cX8_copyFrom 22 = .ok (.iload_n 2, 1) := by decide +kernel
theorem dX8_copyFrom_23 : decode cX8_copyFrom 23 = .ok (.aaload, 1) := by decide +kernel
theorem dX8_copyFrom_24 : decode cX8_copyFrom 24 = .ok (.aload_n 1, 1) := by decide +kernel
theorem dX8_copyFrom_25 : decode cX8_copyFrom 25 = .ok (.getfield 20, 3) := by decide +kernel
theorem dX8_copyFrom_28 : decode cX8_copyFrom 28 = .ok (.iload_n 2, 1) := by decide +kernel
theorem dX8_copyFrom_29 : decode cX8_copyFrom 29 = .ok (.aaload, 1) := by decide +kernel
theorem dX8_copyFrom_30 : decode cX8_copyFrom 30 = .ok (.invokevirtual 65, 3) := by decide +kernel
theorem dX8_copyFrom_33 : decode cX8_copyFrom 33 = .ok (.iinc 2 1, 3) := by decide +kernel
theorem dX8_copyFrom_36 : decode cX8_copyFrom 36 = .ok (.goto (-23), 3) := by decide +kernel
theorem dX8_copyFrom_39 : decode cX8_copyFrom 39 = .ok (.aload_n 1, 1) := by decide +kernel
theorem dX8_copyFrom_40 : decode cX8_copyFrom 40 = .ok (.getfield 24, 3) := by decide +kernel
theorem dX8_copyFrom_43 : decode cX8_copyFrom 43 = .ok (.iconst 0, 1) := by decide +kernel
theorem dX8_copyFrom_44 : decode cX8_copyFrom 44 = .ok (.aload_n 0, 1) := by decide +kernel
theorem dX8_copyFrom_45 : decode cX8_copyFrom 45 = .ok (.getfield 24, 3) := by decide +kernel
theorem dX8_copyFrom_48 : decode cX8_copyFrom 48 = .ok (.iconst 0, 1) := by decide +kernel
theorem dX8_copyFrom_49 : decode cX8_copyFrom 49 = .ok (.aload_n 1, 1) := by decide +kernel
theorem dX8_copyFrom_50 : decode cX8_copyFrom 50 = .ok (.getfield 68, 3) := by decide +kernel
theorem dX8_copyFrom_53 : decode cX8_copyFrom 53 = .ok (.invokestatic 71, 3) := by decide +kernel
theorem dX8_copyFrom_56 : decode cX8_copyFrom 56 = .ok (.aload_n 0, 1) := by decide +kernel
theorem dX8_copyFrom_57 : decode cX8_copyFrom 57 = .ok (.aload_n 1, 1) := by decide +kernel
theorem dX8_copyFrom_58 : decode cX8_copyFrom 58 = .ok (.getfield 68, 3) := by decide +kernel
theorem dX8_copyFrom_61 : decode cX8_copyFrom 61 = .ok (.putfield 68, 3) := by decide +kernel
theorem dX8_copyFrom_64 : decode cX8_copyFrom 64 = .ok (.aload_n 1, 1) := by decide +kernel
theorem dX8_copyFrom_65 : decode cX8_copyFrom 65 = .ok (.getfield 28, 3) := by decide +kernel
theorem dX8_copyFrom_68 : decode cX8_copyFrom 68 = .ok (.iconst 0, 1) := by decide +kernel
theorem dX8_copyFrom_69 : decode cX8_copyFrom 69 = .ok (.aload_n 0, 1) := by decide +kernel
theorem dX8_copyFrom_70 : decode cX8_copyFrom 70 = .ok (.getfield 28, 3) := by decide +kernel
theorem dX8_copyFrom_73 : decode cX8_copyFrom 73 = .ok (.iconst 0, 1) := by decide +kernel
theorem dX8_copyFrom_74 : decode cX8_copyFrom 74 = .ok (.aload_n 1, 1) := by decide +kernel
theorem dX8_copyFrom_75 : decode cX8_copyFrom 75 = .ok (.getfield 77, 3) := by decide +kernel
theorem dX8_copyFrom_78 : decode cX8_copyFrom 78 = .ok (.invokestatic 71, 3) := by decide +kernel
theorem dX8_copyFrom_81 : decode cX8_copyFrom 81 = .ok (.aload_n 0, 1) := by decide +kernel
theorem dX8_copyFrom_82 : decode cX8_copyFrom 82 = .ok (.aload_n 1, 1) := by decide +kernel
theorem dX8_copyFrom_83 : decode cX8_copyFrom 83 = .ok (.getfield 77, 3) := by decide +kernel
theorem dX8_copyFrom_86 : decode cX8_copyFrom 86 = .ok (.putfield 77, 3) := by decide +kernel
theorem dX8_copyFrom_89 : decode cX8_copyFrom 89 = .ok (.return_, 1) := by decide +kernel
theorem dX9_init_0 : decode cX9_init 0 = .ok (.aload_n 0, 1) := by decide +kernel
theorem dX9_init_1 : decode cX9_init 1 = .ok (.invokespecial 3, 3) := by decide +kernel
theorem dX9_init_4 : decode cX9_init 4 = .ok (.aload_n 0, 1) := by decide +kernel
theorem dX9_init_5 : decode cX9_init 5 = .ok (.new 9, 3) := by decide +kernel
theorem dX9_init_8 : decode cX9_init 8 = .ok (.dup, 1) := by decide +kernel
theorem dX9_init_9 : decode cX9_init 9 = .ok (.invokespecial 11, 3) := by decide +kernel
theorem dX9_init_12 : decode cX9_init 12 = .ok (.putfield 12, 3) := by decide +kernel
theorem dX9_init_15 : decode cX9_init 15 = .ok (.aload_n 0, 1) := by decide +kernel
theorem dX9_init_16 : decode cX9_init 16 = .ok (.new 9, 3) := by decide +kernel
theorem dX9_init_19 : decode cX9_init 19 = .ok (.dup, 1) := by decide +kernel
theorem dX9_init_20 : decode cX9_init 20 = .ok (.invokespecial 11, 3) := by decide +kernel
theorem dX9_init_23 : decode cX9_init 23 = .ok (.putfield 16, 3) := by decide +kernel
theorem dX9_init_26 : decode cX9_init 26 = .ok (.aload_n 0, 1) := by decide +kernel
theorem dX9_init_27 : decode cX9_init 27 = .ok (.new 19, 3) := by decide +kernel
theorem dX9_init_30 : decode cX9_init 30 = .ok (.dup, 1) := by decide +kernel
theorem dX9_init_31 : decode cX9_init 31 = .ok (.invokespecial 21, 3) := by decide +kernel
theorem dX9_init_34 : decode cX9_init 34 = .ok (.putfield 22, 3) := by decide +kernel
theorem dX9_init_37 : decode cX9_init 37 = .ok (.aload_n 0, 1) := by decide +kernel
theorem dX9_init_38 : decode cX9_init 38 = .ok (.new 26, 3) := by decide +kernel
theorem dX9_init_41 : decode cX9_init 41 = .ok (.dup, 1) := by decide +kernel
theorem dX9_init_42 : decode cX9_init 42 = .ok (.invokespecial 28, 3) := by decide +kernel
theorem dX9_init_45 : decode cX9_init 45 = .ok (.putfield 29, 3) := by decide +kernel
theorem dX9_init_48 : decode cX9_init 48 = .ok (.aload_n 0, 1) := by decide +kernel
theorem dX9_init_49 : decode cX9_init 49 = .ok (.new 33, 3) := by decide +kernel
theorem dX9_init_52 : decode cX9_init 52 = .ok (.dup, 1) := by decide +kernel
theorem dX9_init_53 : decode cX9_init 53 = .ok (.invokespecial 35, 3) := by decide +kernel
theorem dX9_init_56 : decode cX9_init 56 = .ok (.putfield 36, 3) := by decide +kernel
theorem dX9_init_59 : decode cX9_init 59 = .ok (.aload_n 0, 1) := by decide +kernel
theorem dX9_init_60 : decode cX9_init 60 = .ok (.new 40, 3) := by decide +kernel
theorem dX9_init_63 : decode cX9_init 63 = .ok (.dup, 1) := by decide +kernel
theorem dX9_init_64 : decode cX9_init 64 = .ok (.bipush 12, 2) := by decide +kernel
theorem dX9_init_66 : decode cX9_init 66 = .ok (.invokespecial 42, 3) := by decide +kernel
theorem dX9_init_69 : decode cX9_init 69 = .ok (.putfield 45, 3) := by decide +kernel
theorem dX9_init_72 : decode cX9_init 72 = .ok (.aload_n 0, 1) := by decide +kernel
theorem dX9_init_73 : decode cX9_init 73 = .ok (.new 40, 3) := by decide +kernel
theorem dX9_init_76 : decode cX9_init 76 = .ok (.dup, 1) := by decide +kernel
theorem dX9_init_77 : decode cX9_init 77 = .ok (.bipush 6, 2) := by decide +kernel
theorem dX9_init_79 : decode cX9_init 79 = .ok (.invokespecial 42, 3) := by decide +kernel
theorem dX9_init_82 : decode cX9_init 82 = .ok (.putfield 49, 3) := by decide +kernel
theorem dX9_init_85 : decode cX9_init 85 = .ok (.aload_n 0, 1) := by decide +kernel
theorem dX9_init_86 : decode cX9_init 86 = .ok (.new 52, 3) := by decide +kernel
theorem dX9_init_89 : decode cX9_init 89 = .ok (.dup, 1) := by decide +kernel
theorem dX9_init_90 : decode cX9_init 90 = .ok (.invokespecial 54, 3) := by decide +kernel
theorem dX9_init_93 : decode cX9_init 93 = .ok (.putfield 55, 3) := by decide +kernel
theorem dX9_init_96 : decode cX9_init 96 = .ok (.aload_n 0, 1) := by decide +kernel
theorem dX9_init_97 : decode cX9_init 97 = .ok (.new 59, 3) := by decide +kernel
theorem dX9_init_100 : decode cX9_init 100 = .ok (.dup, 1) := by decide +kernel
theorem dX9_init_101 : decode cX9_init 101 = .ok (.invokespecial 61, 3) := by decide +kernel
theorem dX9_init_104 : decode cX9_init 104 = .ok (.putfield 62, 3) := by decide +kernel
theorem dX9_init_107 : decode cX9_init 107 = .ok (.aload_n 0, 1) := by decide +kernel
theorem dX9_init_108 : decode cX9_init 108 = .ok (.iconst 4, 1) := by decide +kernel
theorem dX9_init_109 : decode cX9_init 109 = .ok (.anewarray 66, 3) := by decide +kernel
theorem dX9_init_112 : decode cX9_init 112 = .ok (.putfield 68, 3) := by decide +kernel
theorem dX9_init_115 : decode cX9_init 115 = .ok (.aload_n 0, 1) := by decide +kernel
theorem dX9_init_116 : decode cX9_init 116 = .ok (.bipush 7, 2) := by decide +kernel
theorem dX9_init_118 : decode cX9_init 118 = .ok (.newarray .int, 2) := by decide +kernel
theorem dX9_init_120 : decode cX9_init 120 = .ok (.putfield 72, 3) := by decide +kernel
theorem dX9_init_123 : decode cX9_init 123 = .ok (.iconst 0, 1) := by decide +kernel
theorem dX9_init_124 : decode cX9_init 124 = .ok (.istore_n 1, 1) := by decide +kernel
theorem dX9_init_125 : decode cX9_init 125 = .ok (.iload_n 1, 1) := by decide +kernel
theorem dX9_init_126 : decode cX9_init 126 = .ok (.iconst 4, 1) := by decide +kernel
theorem dX9_init_127 : decode cX9_init 127 = .ok (.if_icmp .ge 22, 3) := by decide +kernel
theorem dX9_init_130 : decode cX9_init 130 = .ok (.aload_n 0, 1) := by decide +kernel
theorem dX9_init_131 : decode cX9_init 131 = .ok (.getfield 68, 3) := by decide +kernel
theorem dX9_init_134 : decode cX9_init 134 = .ok (.iload_n 1, 1) := by decide +kernel
theorem dX9_init_135 : decode cX9_init 135 = .ok (.new 66, 3) := by decide +kernel
theorem dX9_init_138 : decode cX9_init 138 = .ok (.dup, 1) := by decide +kernel
theorem dX9_init_139 : decode cX9_init 139 = .ok (.invokespecial 76, 3) := by decide +kernel
theorem dX9_init_142 : decode cX9_init 142 = .ok (.aastore, 1) := by decide +kernel
theorem dX9_init_143 : decode cX9_init 143 = .ok (.iinc 1 1, 3) := by decide +kernel
theorem dX9_init_146 : decode cX9_init 146 = .ok (.goto (-21), 3) := by decide +kernel
theorem dX9_init_149 : decode cX9_init 149 = .ok (.return_, 1) := by decide +kernel
theorem dX9_plough_0 : decode cX9_plough 0 = .ok (.iload_n 1, 1) := by decide +kernel
theorem dX9_plough_1 : decode cX9_plough 1 = .ok (.invokestatic 77, 3) := by decide +kernel
theorem dX9_plough_4 : decode cX9_plough 4 = .ok (.ifCond .eq 17, 3) := by decide +kernel
theorem dX9_plough_7 : decode cX9_plough 7 = .ok (.iload_n 2, 1) := by decide +kernel
theorem dX9_plough_8 : decode cX9_plough 8 = .ok (.invokestatic 81, 3) := by decide +kernel
theorem dX9_plough_11 : decode cX9_plough 11 = .ok (.ifCond .eq 10, 3) := by decide +kernel
theorem dX9_plough_14 : decode cX9_plough 14 = .ok (.iload_n 3, 1) := by decide +kernel
theorem dX9_plough_15 : decode cX9_plough 15 = .ok (.invokestatic 84, 3) := by decide +kernel
theorem dX9_plough_18 : decode cX9_plough 18 = .ok (.ifCond .ne 10, 3) := by decide +kernel
theorem dX9_plough_21 : decode cX9_plough 21 = .ok (.aload_n 0, 1) := by decide +kernel
theorem dX9_plough_22 : decode cX9_plough 22 = .ok (.ldc 87, 2) := by decide +kernel
theorem dX9_plough_24 : decode cX9_plough 24 = .ok (.invokevirtual 88, 3) := by decide +kernel
theorem dX9_plough_27 : decode cX9_plough 27 = .ok (.ireturn, 1) := by decide +kernel
theorem dX9_plough_28 : decode cX9_plough 28 = .ok (.aload_n 0, 1) := by decide +kernel
theorem dX9_plough_29 : decode cX9_plough 29 = .ok (.getfield 12, 3) := by decide +kernel
theorem dX9_plough_32 : decode cX9_plough 32 = .ok (.getfield 92, 3) := by decide +kernel
theorem dX9_plough_35 : decode cX9_plough 35 = .ok (.getfield 95, 3) := by decide +kernel
theorem dX9_plough_38 : decode cX9_plough 38 = .ok (.bipush 12, 2) := by decide +kernel
theorem dX9_plough_40 : decode cX9_plough 40 = .ok (.if_icmp .lt 10, 3) := by decide +kernel
theorem dX9_plough_43 : decode cX9_plough 43 = .ok (.aload_n 0, 1) := by decide +kernel
theorem dX9_plough_44 : decode cX9_plough 44 = .ok (.ldc 99, 2) := by decide +kernel
theorem dX9_plough_46 : decode cX9_plough 46 = .ok (.invokevirtual 88, 3) := by decide +kernel
theorem dX9_plough_49 : decode cX9_plough 49 = .ok (.ireturn, 1) := by decide +kernel
theorem dX9_plough_50 : decode cX9_plough 50 = .ok (.aload_n 0, 1) := by decide +kernel
theorem dX9_plough_51 : decode cX9_plough 51 = .ok (.getfield 12, 3) := by decide +kernel
theorem dX9_plough_54 : decode cX9_plough 54 = .ok (.getfield 92, 3) := by decide +kernel
theorem dX9_plough_57 : decode cX9_plough 57 = .ok (.iload_n 1, 1) := by decide +kernel
theorem dX9_plough_58 : decode cX9_plough 58 = .ok (.iload_n 2, 1) := by decide +kernel
theorem dX9_plough_59 : decode cX9_plough 59 = .ok (.iload_n 3, 1) := by decide +kernel
theorem dX9_plough_60 : decode cX9_plough 60 = .ok (.invokevirtual 100, 3) := by decide +kernel
theorem dX9_plough_63 : decode cX9_plough 63 = .ok (.ireturn, 1) := by decide +kernel
theorem dX9_furrowIs_0 : decode cX9_furrowIs 0 = .ok (.aload_n 0, 1) := by decide +kernel
theorem dX9_furrowIs_1 : decode cX9_furrowIs 1 = .ok (.iload_n 1, 1) := by decide +kernel
theorem dX9_furrowIs_2 : decode cX9_furrowIs 2 = .ok (.invokevirtual 104, 3) := by decide +kernel
theorem dX9_furrowIs_5 : decode cX9_furrowIs 5 = .ok (.ifCond .ne 10, 3) := by decide +kernel
theorem dX9_furrowIs_8 : decode cX9_furrowIs 8 = .ok (.aload_n 0, 1) := by decide +kernel
theorem dX9_furrowIs_9 : decode cX9_furrowIs 9 = .ok (.ldc 87, 2) := by decide +kernel
theorem dX9_furrowIs_11 : decode cX9_furrowIs 11 = .ok (.invokevirtual 88, 3) := by decide +kernel
theorem dX9_furrowIs_14 : decode cX9_furrowIs 14 = .ok (.ireturn, 1) := by decide +kernel
theorem dX9_furrowIs_15 : decode cX9_furrowIs 15 = .ok (.aload_n 0, 1) := by decide +kernel
theorem dX9_furrowIs_16 : decode cX9_furrowIs 16 = .ok (.getfield 12, 3) := by decide +kernel
theorem dX9_furrowIs_19 : decode cX9_furrowIs 19 = .ok (.getfield 92, 3) := by decide +kernel
theorem dX9_furrowIs_22 : decode cX9_furrowIs 22 = .ok (.getfield 107, 3) := by decide +kernel
theorem dX9_furrowIs_25 : decode cX9_furrowIs 25 = .ok (.iload_n 1, 1) := by decide +kernel
theorem dX9_furrowIs_26 : decode cX9_furrowIs 26 = .ok (.aaload, 1) := by decide +kernel
theorem dX9_furrowIs_27 : decode cX9_furrowIs 27 = .ok (.astore_n 3, 1) := by decide +kernel
theorem dX9_furrowIs_28 : decode cX9_furrowIs 28 = .ok (.iload_n 2, 1) := by decide +kernel
theorem dX9_furrowIs_29 : decode cX9_furrowIs 29 = .ok (.tableswitch 122 0 9 #[55, 60, 65, 70, 75, 80, 85, 93, 98, 107], 55) := by decide +kernel
theorem dX9_furrowIs_84 : decode cX9_furrowIs 84 = .ok (.aload_n 3, 1) := by decide +kernel
theorem dX9_furrowIs_85 : decode cX9_furrowIs 85 = .ok (.getfield 111, 3) := by decide +kernel
theorem dX9_furrowIs_88 : decode cX9_furrowIs 88 = .ok (.ireturn, 1) := by decide +kernel
theorem dX9_furrowIs_89 : decode cX9_furrowIs 89 = .ok (.aload_n 3, 1) := by decide +kernel
theorem dX9_furrowIs_90 : decode cX9_furrowIs 90 = .ok (.getfield 114, 3) := by decide +kernel
theorem dX9_furrowIs_93 : decode cX9_furrowIs 93 = .ok (.ireturn, 1) := by decide +kernel
theorem dX9_furrowIs_94 : decode cX9_furrowIs 94 = .ok (.aload_n 3, 1) := by decide +kernel
theorem dX9_furrowIs_95 : decode cX9_furrowIs 95 = .ok (.getfield 117, 3) := by decide +kernel
theorem dX9_furrowIs_98 : decode cX9_furrowIs 98 = .ok (.ireturn, 1) := by decide +kernel
theorem dX9_furrowIs_99 : decode cX9_furrowIs 99 = .ok (.aload_n 3, 1) := by decide +kernel
theorem dX9_furrowIs_100 : decode cX9_furrowIs 100 = .ok (.getfield 120, 3) := by decide +kernel
theorem dX9_furrowIs_103 : decode cX9_furrowIs 103 = .ok (.ireturn, 1) := by decide +kernel
theorem dX9_furrowIs_104 : decode cX9_furrowIs 104 = .ok (.aload_n 3, 1) := by decide +kernel
theorem dX9_furrowIs_105 : decode cX9_furrowIs 105 = .ok (.getfield 123, 3) := by decide +kernel
theorem dX9_furrowIs_108 : decode cX9_furrowIs 108 = .ok (.ireturn, 1) := by decide +kernel
theorem dX9_furrowIs_109 : decode cX9_furrowIs 109 = .ok (.aload_n 3, 1) := by decide +kernel
theorem dX9_furrowIs_110 : decode cX9_furrowIs 110 = .ok (.getfield 126, 3) := by decide +kernel
theorem dX9_furrowIs_113 : decode cX9_furrowIs 113 = .ok (.ireturn, 1) := by decide +kernel
theorem dX9_furrowIs_114 : decode cX9_furrowIs 114 = .ok (.aload_n 3, 1) := by decide +kernel
theorem dX9_furrowIs_115 : decode cX9_furrowIs 115 = .ok (.getfield 129, 3) := by decide +kernel
theorem dX9_furrowIs_118 : decode cX9_furrowIs 118 = .ok (.invokestatic 133, 3) := by decide +kernel
theorem dX9_furrowIs_121 : decode cX9_furrowIs 121 = .ok (.ireturn, 1) := by decide +kernel
theorem dX9_furrowIs_122 : decode cX9_furrowIs 122 = .ok (.aload_n 3, 1) := by decide +kernel
theorem dX9_furrowIs_123 : decode cX9_furrowIs 123 = .ok (.invokevirtual 137, 3) := by decide +kernel
theorem dX9_furrowIs_126 : decode cX9_furrowIs 126 = .ok (.ireturn, 1) := by decide +kernel
theorem dX9_furrowIs_127 : decode cX9_furrowIs 127 = .ok (.aload_n 0, 1) := by decide +kernel
theorem dX9_furrowIs_128 : decode cX9_furrowIs 128 = .ok (.getfield 12, 3) := by decide +kernel
theorem dX9_furrowIs_131 : decode cX9_furrowIs 131 = .ok (.aload_n 3, 1) := by decide +kernel
theorem dX9_furrowIs_132 : decode cX9_furrowIs 132 = .ok (.invokevirtual 141, 3) := by decide +kernel
theorem dX9_furrowIs_135 : decode cX9_furrowIs 135 = .ok (.ireturn, 1) := by decide +kernel
theorem dX9_furrowIs_136 : decode cX9_furrowIs 136 = .ok (.aload_n 0, 1) := by decide +kernel
theorem dX9_furrowIs_137 : decode cX9_furrowIs 137 = .ok (.getfield 12, 3) := by decide +kernel
theorem dX9_furrowIs_140 : decode cX9_furrowIs 140 = .ok (.getfield 92, 3) := by decide +kernel
theorem dX9_furrowIs_143 : decode cX9_furrowIs 143 = .ok (.iload_n 1, 1) := by decide +kernel
theorem dX9_furrowIs_144 : decode cX9_furrowIs 144 = .ok (.invokevirtual 145, 3) := by decide +kernel
theorem dX9_furrowIs_147 : decode cX9_furrowIs 147 = .ok (.invokestatic 133, 3) := by decide +kernel
theorem dX9_furrowIs_150 : decode cX9_furrowIs 150 = .ok (.ireturn, 1) := by decide +kernel
theorem dX9_furrowIs_151 : decode cX9_furrowIs 151 = .ok (.aload_n 0, 1) := by decide +kernel
theorem dX9_furrowIs_152 : decode cX9_furrowIs 152 = .ok (.ldc 87, 2) := by decide +kernel
theorem dX9_furrowIs_154 : decode cX9_furrowIs 154 = .ok (.invokevirtual 88, 3) := by decide +kernel
theorem dX9_furrowIs_157 : decode cX9_furrowIs 157 = .ok (.ireturn, 1) := by decide +kernel
theorem dX9_become_0 : decode cX9_become 0 = .ok (.aload_n 0, 1) := by decide +kernel
theorem dX9_become_1 : decode cX9_become 1 = .ok (.iload_n 1, 1) := by decide +kernel
theorem dX9_become_2 : decode cX9_become 2 = .ok (.invokevirtual 104, 3) := by decide +kernel
theorem dX9_become_5 : decode cX9_become 5 = .ok (.ifCond .eq 10, 3) := by decide +kernel
theorem dX9_become_8 : decode cX9_become 8 = .ok (.iload_n 2, 1) := by decide +kernel
theorem dX9_become_9 : decode cX9_become 9 = .ok (.invokestatic 77, 3) := by decide +kernel
theorem dX9_become_12 : decode cX9_become 12 = .ok (.ifCond .ne 10, 3) := by decide +kernel
theorem dX9_become_15 : decode cX9_become 15 = .ok (.aload_n 0, 1) := by decide +kernel
theorem dX9_become_16 : decode cX9_become 16 = .ok (.ldc 87, 2) := by decide +kernel
theorem dX9_become_18 : decode cX9_become 18 = .ok (.invokevirtual 88, 3) := by decide +kernel
theorem dX9_become_21 : decode cX9_become 21 = .ok (.ireturn, 1) := by decide +kernel
theorem dX9_become_22 : decode cX9_become 22 = .ok (.aload_n 0, 1) := by decide +kernel
theorem dX9_become_23 : decode cX9_become 23 = .ok (.getfield 12, 3) := by decide +kernel
theorem dX9_become_26 : decode cX9_become 26 = .ok (.getfield 92, 3) := by decide +kernel
theorem dX9_become_29 : decode cX9_become 29 = .ok (.getfield 107, 3) := by decide +kernel
theorem dX9_become_32 : decode cX9_become 32 = .ok (.iload_n 1, 1) := by decide +kernel
theorem dX9_become_33 : decode cX9_become 33 = .ok (.aaload, 1) := by decide +kernel
theorem dX9_become_34 : decode cX9_become 34 = .ok (.astore_n 3, 1) := by decide +kernel
theorem dX9_become_35 : decode cX9_become 35 = .ok (.aload_n 3, 1) := by decide +kernel
theorem dX9_become_36 : decode cX9_become 36 = .ok (.getfield 111, 3) := by decide +kernel
theorem dX9_become_39 : decode cX9_become 39 = .ok (.istore 4, 2) := by decide +kernel
theorem dX9_become_41 : decode cX9_become 41 = .ok (.aload_n 3, 1) := by decide +kernel
theorem dX9_become_42 : decode cX9_become 42 = .ok (.iload_n 2, 1) := by decide +kernel
theorem dX9_become_43 : decode cX9_become 43 = .ok (.invokevirtual 148, 3) := by decide +kernel
theorem dX9_become_46 : decode cX9_become 46 = .ok (.iload 4, 2) := by decide +kernel
theorem dX9_become_48 : decode cX9_become 48 = .ok (.ireturn, 1) := by decide +kernel
theorem dX9_as_0 : decode cX9_as 0 = .ok (.aload_n 0, 1) := by decide +kernel
theorem dX9_as_1 : decode cX9_as 1 = .ok (.iload_n 1, 1) := by decide +kernel
theorem dX9_as_2 : decode cX9_as 2 = .ok (.invokevirtual 104, 3) := by decide +kernel
theorem dX9_as_5 : decode cX9_as 5 = .ok (.ifCond .eq 10, 3) := by decide +kernel
theorem dX9_as_8 : decode cX9_as 8 = .ok (.iload_n 2, 1) := by decide +kernel
theorem dX9_as_9 : decode cX9_as 9 = .ok (.invokestatic 151, 3) := by decide +kernel
theorem dX9_as_12 : decode cX9_as 12 = .ok (.ifCond .ne 10, 3) := by decide +kernel
theorem dX9_as_15 : decode cX9_as 15 = .ok (.aload_n 0, 1) := by decide +kernel
theorem dX9_as_16 : decode cX9_as 16 = .ok (.ldc 87, 2) := by decide +kernel
theorem dX9_as_18 : decode cX9_as 18 = .ok (.invokevirtual 88, 3) := by decide +kernel
theorem dX9_as_21 : decode cX9_as 21 = .ok (.ireturn, 1) := by decide +kernel
theorem dX9_as_22 : decode cX9_as 22 = .ok (.aload_n 0, 1) := by decide +kernel
theorem dX9_as_23 : decode cX9_as 23 = .ok (.getfield 12, 3) := by decide +kernel
theorem dX9_as_26 : decode cX9_as 26 = .ok (.getfield 92, 3) := by decide +kernel
theorem dX9_as_29 : decode cX9_as 29 = .ok (.getfield 107, 3) := by decide +kernel
theorem dX9_as_32 : decode cX9_as 32 = .ok (.iload_n 1, 1) := by decide +kernel
theorem dX9_as_33 : decode cX9_as 33 = .ok (.aaload, 1) := by decide +kernel
theorem dX9_as_34 : decode cX9_as 34 = .ok (.astore_n 3, 1) := by decide +kernel
theorem dX9_as_35 : decode cX9_as 35 = .ok (.aload_n 3, 1) := by decide +kernel
theorem dX9_as_36 : decode cX9_as 36 = .ok (.iload_n 2, 1) := by decide +kernel
theorem dX9_as_37 : decode cX9_as 37 = .ok (.invokevirtual 154, 3) := by decide +kernel
theorem dX9_as_40 : decode cX9_as 40 = .ok (.ifCond .eq 10, 3) := by decide +kernel
theorem dX9_as_43 : decode cX9_as 43 = .ok (.aload_n 3, 1) := by decide +kernel
theorem dX9_as_44 : decode cX9_as 44 = .ok (.getfield 114, 3) := by decide +kernel
theorem dX9_as_47 : decode cX9_as 47 = .ok (.goto 9, 3) := by decide +kernel
theorem dX9_as_50 : decode cX9_as 50 = .ok (.aload_n 0, 1) := by decide +kernel
theorem dX9_as_51 : decode cX9_as 51 = .ok (.ldc 157, 2) := by decide +kernel
theorem dX9_as_53 : decode cX9_as 53 = .ok (.invokevirtual 88, 3) := by decide +kernel
theorem dX9_as_56 : decode cX9_as 56 = .ok (.ireturn, 1) := by decide +kernel
theorem dX9_answers_0 : decode cX9_answers 0 = .ok (.aload_n 0, 1) := by decide +kernel
theorem dX9_answers_1 : decode cX9_answers 1 = .ok (.iload_n 1, 1) := by decide +kernel
theorem dX9_answers_2 : decode cX9_answers 2 = .ok (.invokevirtual 104, 3) := by decide +kernel
theorem dX9_answers_5 : decode cX9_answers 5 = .ok (.ifCond .eq 16, 3) := by decide +kernel
theorem dX9_answers_8 : decode cX9_answers 8 = .ok (.aload_n 0, 1) := by decide +kernel
theorem dX9_answers_9 : decode cX9_answers 9 = .ok (.iload_n 2, 1) := by decide +kernel
theorem dX9_answers_10 : decode cX9_answers 10 = .ok (.invokevirtual 104, 3) := by decide +kernel
theorem dX9_answers_13 : decode cX9_answers 13 = .ok (.ifCond .eq 8, 3) := by decide +kernel
theorem dX9_answers_16 : decode cX9_answers 16 = .ok (.iload_n 1, 1) := by decide +kernel
theorem dX9_answers_17 : decode cX9_answers 17 = .ok (.iload_n 2, 1) := by decide +kernel
theorem dX9_answers_18 : decode cX9_answers 18 = .ok (.if_icmp .ne 10, 3) := by decide +kernel
theorem dX9_answers_21 : decode cX9_answers 21 = .ok (.aload_n 0, 1) := by decide +kernel
theorem dX9_answers_22 : decode cX9_answers 22 = .ok (.ldc 87, 2) := by decide +kernel
theorem dX9_answers_24 : decode cX9_answers 24 = .ok (.invokevirtual 88, 3) := by decide +kernel
theorem dX9_answers_27 : decode cX9_answers 27 = .ok (.ireturn, 1) := by decide +kernel
theorem dX9_answers_28 : decode cX9_answers 28 = .ok (.aload_n 0, 1) := by decide +kernel
theorem dX9_answers_29 : decode cX9_answers 29 = .ok (.getfield 12, 3) := by decide +kernel
theorem dX9_answers_32 : decode cX9_answers 32 = .ok (.getfield 92, 3) := by decide +kernel
theorem dX9_answers_35 : decode cX9_answers 35 = .ok (.iload_n 1, 1) := by decide +kernel
theorem dX9_answers_36 : decode cX9_answers 36 = .ok (.iload_n 2, 1) := by decide +kernel
theorem dX9_answers_37 : decode cX9_answers 37 = .ok (.invokevirtual 158, 3) := by decide +kernel
theorem dX9_answers_40 : decode cX9_answers 40 = .ok (.invokestatic 133, 3) := by decide +kernel
theorem dX9_answers_43 : decode cX9_answers 43 = .ok (.ireturn, 1) := by decide +kernel
theorem dX9_cover_0 : decode cX9_cover 0 = .ok (.aload_n 0, 1) := by decide +kernel
theorem dX9_cover_1 : decode cX9_cover 1 = .ok (.iload_n 1, 1) := by decide +kernel
theorem dX9_cover_2 : decode cX9_cover 2 = .ok (.invokevirtual 104, 3) := by decide +kernel
theorem dX9_cover_5 : decode cX9_cover 5 = .ok (.ifCond .eq 12, 3) := by decide +kernel
theorem dX9_cover_8 : decode cX9_cover 8 = .ok (.iload_n 2, 1) := by decide +kernel
theorem dX9_cover_9 : decode cX9_cover 9 = .ok (.ifCond .lt 8, 3) := by decide +kernel
theorem dX9_cover_12 : decode cX9_cover 12 = .ok (.iload_n 2, 1) := by decide +kernel
theorem dX9_cover_13 : decode cX9_cover 13 = .ok (.iconst 1, 1) := by decide +kernel
theorem dX9_cover_14 : decode cX9_cover 14 = .ok (.if_icmp .le 10, 3) := by decide +kernel
theorem dX9_cover_17 : decode cX9_cover 17 = .ok (.aload_n 0, 1) := by decide +kernel
theorem dX9_cover_18 : decode cX9_cover 18 = .ok (.ldc 87, 2) := by decide +kernel
theorem dX9_cover_20 : decode cX9_cover 20 = .ok (.invokevirtual 88, 3) := by decide +kernel
theorem dX9_cover_23 : decode cX9_cover 23 = .ok (.ireturn, 1) := by decide +kernel
theorem dX9_cover_24 : decode cX9_cover 24 = .ok (.aload_n 0, 1) := by decide +kernel
theorem dX9_cover_25 : decode cX9_cover 25 = .ok (.getfield 12, 3) := by decide +kernel
theorem dX9_cover_28 : decode cX9_cover 28 = .ok (.getfield 92, 3) := by decide +kernel
theorem dX9_cover_31 : decode cX9_cover 31 = .ok (.getfield 107, 3) := by decide +kernel
theorem dX9_cover_34 : decode cX9_cover 34 = .ok (.iload_n 1, 1) := by decide +kernel
theorem dX9_cover_35 : decode cX9_cover 35 = .ok (.aaload, 1) := by decide +kernel
theorem dX9_cover_36 : decode cX9_cover 36 = .ok (.astore_n 3, 1) := by decide +kernel
theorem dX9_cover_37 : decode cX9_cover 37 = .ok (.aload_n 3, 1) := by decide +kernel
theorem dX9_cover_38 : decode cX9_cover 38 = .ok (.getfield 129, 3) := by decide +kernel
theorem dX9_cover_41 : decode cX9_cover 41 = .ok (.invokestatic 133, 3) := by decide +kernel
theorem dX9_cover_44 : decode cX9_cover 44 = .ok (.istore 4, 2) := by decide +kernel
theorem dX9_cover_46 : decode cX9_cover 46 = .ok (.aload_n 3, 1) := by decide +kernel
theorem dX9_cover_47 : decode cX9_cover 47 = .ok (.iload_n 2, 1) := by decide +kernel
theorem dX9_cover_48 : decode cX9_cover 48 = .ok (.iconst 1, 1) := by decide +kernel
theorem dX9_cover_49 : decode cX9_cover 49 = .ok (.if_icmp .ne 7, 3) := by decide +kernel
theorem dX9_cover_52 : decode cX9_cover 52 = .ok (.iconst 1, 1) := by decide +kernel
theorem dX9_cover_53 : decode cX9_cover 53 = .ok (.goto 4, 3) := by decide +kernel
theorem dX9_cover_56 : decode cX9_cover 56 = .ok (.iconst 0, 1) := by decide +kernel
theorem dX9_cover_57 : decode cX9_cover 57 = .ok (.putfield 129, 3) := by decide +kernel
theorem dX9_cover_60 : decode cX9_cover 60 = .ok (.iload 4, 2) := by decide +kernel
theorem dX9_cover_62 : decode cX9_cover 62 = .ok (.ireturn, 1) := by decide +kernel
theorem dX9_redraw_0 : decode cX9_redraw 0 = .ok (.aload_n 0, 1) := by decide +kernel
theorem dX9_redraw_1 : decode cX9_redraw 1 = .ok (.iload_n 1, 1) := by decide +kernel
theorem dX9_redraw_2 : decode cX9_redraw 2 = .ok (.invokevirtual 104, 3) := by decide +kernel
theorem dX9_redraw_5 : decode cX9_redraw 5 = .ok (.ifCond .eq 10, 3) := by decide +kernel
theorem dX9_redraw_8 : decode cX9_redraw 8 = .ok (.iload_n 2, 1) := by decide +kernel
theorem dX9_redraw_9 : decode cX9_redraw 9 = .ok (.invokestatic 81, 3) := by decide +kernel
theorem dX9_redraw_12 : decode cX9_redraw 12 = .ok (.ifCond .ne 10, 3) := by decide +kernel
theorem dX9_redraw_15 : decode cX9_redraw 15 = .ok (.aload_n 0, 1) := by decide +kernel
theorem dX9_redraw_16 : decode cX9_redraw 16 = .ok (.ldc 87, 2) := by decide +kernel
theorem dX9_redraw_18 : decode cX9_redraw 18 = .ok (.invokevirtual 88, 3) := by decide +kernel
theorem dX9_redraw_21 : decode cX9_redraw 21 = .ok (.ireturn, 1) := by decide +kernel
theorem dX9_redraw_22 : decode cX9_redraw 22 = .ok (.aload_n 0, 1) := by decide +kernel
theorem dX9_redraw_23 : decode cX9_redraw 23 = .ok (.getfield 12, 3) := by decide +kernel
theorem dX9_redraw_26 : decode cX9_redraw 26 = .ok (.getfield 92, 3) := by decide +kernel
theorem dX9_redraw_29 : decode cX9_redraw 29 = .ok (.getfield 107, 3) := by decide +kernel
theorem dX9_redraw_32 : decode cX9_redraw 32 = .ok (.iload_n 1, 1) := by decide +kernel
theorem dX9_redraw_33 : decode cX9_redraw 33 = .ok (.aaload, 1) := by decide +kernel
theorem dX9_redraw_34 : decode cX9_redraw 34 = .ok (.astore_n 3, 1) := by decide +kernel
theorem dX9_redraw_35 : decode cX9_redraw 35 = .ok (.aload_n 3, 1) := by decide +kernel
theorem dX9_redraw_36 : decode cX9_redraw 36 = .ok (.invokevirtual 162, 3) := by decide +kernel
theorem dX9_redraw_39 : decode cX9_redraw 39 = .ok (.istore 4, 2) := by decide +kernel
theorem dX9_redraw_41 : decode cX9_redraw 41 = .ok (.aload_n 3, 1) := by decide +kernel
theorem dX9_redraw_42 : decode cX9_redraw 42 = .ok (.iload_n 2, 1) := by decide +kernel
theorem dX9_redraw_43 : decode cX9_redraw 43 = .ok (.invokevirtual 165, 3) := by decide +kernel
theorem dX9_redraw_46 : decode cX9_redraw 46 = .ok (.iload 4, 2) := by decide +kernel
theorem dX9_redraw_48 : decode cX9_redraw 48 = .ok (.ireturn, 1) := by decide +kernel
theorem dX9_patience_0 : decode cX9_patience 0 = .ok (.iload_n 1, 1) := by decide +kernel
theorem dX9_patience_1 : decode cX9_patience 1 = .ok (.iconst 1, 1) := by decide +kernel
theorem dX9_patience_2 : decode cX9_patience 2 = .ok (.if_icmp .lt 9, 3) := by decide +kernel
theorem dX9_patience_5 : decode cX9_patience 5 = .ok (.iload_n 1, 1) := by decide +kernel
theorem dX9_patience_6 : decode cX9_patience 6 = .ok (.bipush 20, 2) := by decide +kernel
theorem dX9_patience_8 : decode cX9_patience 8 = .ok (.if_icmp .le 10, 3) := by decide +kernel
theorem dX9_patience_11 : decode cX9_patience 11 = .ok (.aload_n 0, 1) := by decide +kernel
theorem dX9_patience_12 : decode cX9_patience 12 = .ok (.ldc 87, 2) := by decide +kernel
theorem dX9_patience_14 : decode cX9_patience 14 = .ok (.invokevirtual 88, 3) := by decide +kernel
theorem dX9_patience_17 : decode cX9_patience 17 = .ok (.ireturn, 1) := by decide +kernel
theorem dX9_patience_18 : decode cX9_patience 18 = .ok (.aload_n 0, 1) := by decide +kernel
theorem dX9_patience_19 : decode cX9_patience 19 = .ok (.getfield 12, 3) := by decide +kernel
theorem dX9_patience_22 : decode cX9_patience 22 = .ok (.getfield 92, 3) := by decide +kernel
theorem dX9_patience_25 : decode cX9_patience 25 = .ok (.getfield 168, 3) := by decide +kernel
theorem dX9_patience_28 : decode cX9_patience 28 = .ok (.istore_n 2, 1) := by decide +kernel
theorem dX9_patience_29 : decode cX9_patience 29 = .ok (.aload_n 0, 1) := by decide +kernel
theorem dX9_patience_30 : decode cX9_patience 30 = .ok (.getfield 12, 3) := by decide +kernel
theorem dX9_patience_33 : decode cX9_patience 33 = .ok (.getfield 92, 3) := by decide +kernel
theorem dX9_patience_36 : decode cX9_patience 36 = .ok (.iload_n 1, 1) := by decide +kernel
theorem dX9_patience_37 : decode cX9_patience 37 = .ok (.putfield 168, 3) := by decide +kernel
theorem dX9_patience_40 : decode cX9_patience 40 = .ok (.iload_n 2, 1) := by decide +kernel
theorem dX9_patience_41 : decode cX9_patience 41 = .ok (.ireturn, 1) := by decide +kernel
theorem dX9_feed_0 : decode cX9_feed 0 = .ok (.iload_n 3, 1) := by decide +kernel
theorem dX9_feed_1 : decode cX9_feed 1 = .ok (.iconst 1, 1) := by decide +kernel
theorem dX9_feed_2 : decode cX9_feed 2 = .ok (.if_icmp .lt 9, 3) := by decide +kernel
theorem dX9_feed_5 : decode cX9_feed 5 = .ok (.iload_n 3, 1) := by decide +kernel
theorem dX9_feed_6 : decode cX9_feed 6 = .ok (.bipush 8, 2) := by decide +kernel
theorem dX9_feed_8 : decode cX9_feed 8 = .ok (.if_icmp .le 10, 3) := by decide +kernel
theorem dX9_feed_11 : decode cX9_feed 11 = .ok (.aload_n 0, 1) := by decide +kernel
theorem dX9_feed_12 : decode cX9_feed 12 = .ok (.ldc 87, 2) := by decide +kernel
theorem dX9_feed_14 : decode cX9_feed 14 = .ok (.invokevirtual 88, 3) := by decide +kernel
theorem dX9_feed_17 : decode cX9_feed 17 = .ok (.ireturn, 1) := by decide +kernel
theorem dX9_feed_18 : decode cX9_feed 18 = .ok (.aload_n 0, 1) := by decide +kernel
theorem dX9_feed_19 : decode cX9_feed 19 = .ok (.getfield 12, 3) := by decide +kernel
theorem dX9_feed_22 : decode cX9_feed 22 = .ok (.getfield 171, 3) := by decide +kernel
theorem dX9_feed_25 : decode cX9_feed 25 = .ok (.iload_n 3, 1) := by decide +kernel
theorem dX9_feed_26 : decode cX9_feed 26 = .ok (.iadd, 1) := by decide +kernel
theorem dX9_feed_27 : decode cX9_feed 27 = .ok (.bipush 60, 2) := by decide +kernel
theorem dX9_feed_29 : decode cX9_feed 29 = .ok (.if_icmp .le 10, 3) := by decide +kernel
theorem dX9_feed_32 : decode cX9_feed 32 = .ok (.aload_n 0, 1) := by decide +kernel
theorem dX9_feed_33 : decode cX9_feed 33 = .ok (.ldc 99, 2) := by decide +kernel
theorem dX9_feed_35 : decode cX9_feed 35 = .ok (.invokevirtual 88, 3) := by decide +kernel
theorem dX9_feed_38 : decode cX9_feed 38 = .ok (.ireturn, 1) := by decide +kernel
theorem dX9_feed_39 : decode cX9_feed 39 = .ok (.iconst 0, 1) := by decide +kernel
theorem dX9_feed_40 : decode cX9_feed 40 = .ok (.istore 4, 2) := by decide +kernel
theorem dX9_feed_42 : decode cX9_feed 42 = .ok (.iload 4, 2) := by decide +kernel
theorem dX9_feed_44 : decode cX9_feed 44 = .ok (.iload_n 3, 1) := by decide +kernel
theorem dX9_feed_45 : decode cX9_feed 45 = .ok (.if_icmp .ge 36, 3) := by decide +kernel
theorem dX9_feed_48 : decode cX9_feed 48 = .ok (.aload_n 0, 1) := by decide +kernel
theorem dX9_feed_49 : decode cX9_feed 49 = .ok (.getfield 12, 3) := by decide +kernel
theorem dX9_feed_52 : decode cX9_feed 52 = .ok (.getfield 174, 3) := by decide +kernel
theorem dX9_feed_55 : decode cX9_feed 55 = .ok (.aload_n 0, 1) := by decide +kernel
theorem dX9_feed_56 : decode cX9_feed 56 = .ok (.getfield 12, 3) := by decide +kernel
theorem dX9_feed_59 : decode cX9_feed 59 = .ok (.getfield 171, 3) := by decide +kernel
theorem dX9_feed_62 : decode cX9_feed 62 = .ok (.iload 4, 2) := by decide +kernel
theorem dX9_feed_64 : decode cX9_feed 64 = .ok (.iadd, 1) := by decide +kernel
theorem dX9_feed_65 : decode cX9_feed 65 = .ok (.lload_n 1, 1) := by decide +kernel
theorem dX9_feed_66 : decode cX9_feed 66 = .ok (.bipush 8, 2) := by decide +kernel
theorem dX9_feed_68 : decode cX9_feed 68 = .ok (.iload 4, 2) := by decide +kernel
theorem dX9_feed_70 : decode cX9_feed 70 = .ok (.imul, 1) := by decide +kernel
theorem dX9_feed_71 : decode cX9_feed 71 = .ok (.lushr, 1) := by decide +kernel
theorem dX9_feed_72 : decode cX9_feed 72 = .ok (.l2i, 1) := by decide +kernel
theorem dX9_feed_73 : decode cX9_feed 73 = .ok (.i2b, 1) := by decide +kernel
theorem dX9_feed_74 : decode cX9_feed 74 = .ok (.bastore, 1) := by decide +kernel
theorem dX9_feed_75 : decode cX9_feed 75 = .ok (.iinc 4 1, 3) := by decide +kernel
theorem dX9_feed_78 : decode cX9_feed 78 = .ok (.goto (-36), 3) := by decide +kernel
theorem dX9_feed_81 : decode cX9_feed 81 = .ok (.aload_n 0, 1) := by decide +kernel
theorem dX9_feed_82 : decode cX9_feed 82 = .ok (.getfield 12, 3) := by decide +kernel
theorem dX9_feed_85 : decode cX9_feed 85 = .ok (.dup, 1) := by decide +kernel
theorem dX9_feed_86 : decode cX9_feed 86 = .ok (.getfield 171, 3) := by decide +kernel
theorem dX9_feed_89 : decode cX9_feed 89 = .ok (.iload_n 3, 1) := by decide +kernel
theorem dX9_feed_90 : decode cX9_feed 90 = .ok (.iadd, 1) := by decide +kernel
theorem dX9_feed_91 : decode cX9_feed 91 = .ok (.putfield 171, 3) := by decide +kernel
theorem dX9_feed_94 : decode cX9_feed 94 = .ok (.aload_n 0, 1) := by decide +kernel
theorem dX9_feed_95 : decode cX9_feed 95 = .ok (.getfield 12, 3) := by decide +kernel
theorem dX9_feed_98 : decode cX9_feed 98 = .ok (.getfield 171, 3) := by decide +kernel
theorem dX9_feed_101 : decode cX9_feed 101 = .ok (.ireturn, 1) := by decide +kernel
theorem dX9_text_0 : decode cX9_text 0 = .ok (.iload_n 1, 1) := by decide +kernel
theorem dX9_text_1 : decode cX9_text 1 = .ok (.invokestatic 178, 3) := by decide +kernel
theorem dX9_text_4 : decode cX9_text 4 = .ok (.ifCond .ne 10, 3) := by decide +kernel
theorem dX9_text_7 : decode cX9_text 7 = .ok (.aload_n 0, 1) := by decide +kernel
theorem dX9_text_8 : decode cX9_text 8 = .ok (.ldc 87, 2) := by decide +kernel
theorem dX9_text_10 : decode cX9_text 10 = .ok (.invokevirtual 88, 3) := by decide +kernel
theorem dX9_text_13 : decode cX9_text 13 = .ok (.ireturn, 1) := by decide +kernel
theorem dX9_text_14 : decode cX9_text 14 = .ok (.aload_n 0, 1) := by decide +kernel
theorem dX9_text_15 : decode cX9_text 15 = .ok (.getfield 55, 3) := by decide +kernel
theorem dX9_text_18 : decode cX9_text 18 = .ok (.aload_n 0, 1) := by decide +kernel
theorem dX9_text_19 : decode cX9_text 19 = .ok (.getfield 12, 3) := by decide +kernel
theorem dX9_text_22 : decode cX9_text 22 = .ok (.getfield 174, 3) := by decide +kernel
theorem dX9_text_25 : decode cX9_text 25 = .ok (.aload_n 0, 1) := by decide +kernel
theorem dX9_text_26 : decode cX9_text 26 = .ok (.getfield 12, 3) := by decide +kernel
theorem dX9_text_29 : decode cX9_text 29 = .ok (.getfield 171, 3) := by decide +kernel
theorem dX9_text_32 : decode cX9_text 32 = .ok (.iload_n 1, 1) := by decide +kernel
theorem dX9_text_33 : decode cX9_text 33 = .ok (.invokevirtual 181, 3) := by decide +kernel
theorem dX9_text_36 : decode cX9_text 36 = .ok (.istore_n 2, 1) := by decide +kernel
theorem dX9_text_37 : decode cX9_text 37 = .ok (.aload_n 0, 1) := by decide +kernel
theorem dX9_text_38 : decode cX9_text 38 = .ok (.getfield 12, 3) := by decide +kernel
theorem dX9_text_41 : decode cX9_text 41 = .ok (.iconst 0, 1) := by decide +kernel
theorem dX9_text_42 : decode cX9_text 42 = .ok (.putfield 171, 3) := by decide +kernel
theorem dX9_text_45 : decode cX9_text 45 = .ok (.iload_n 2, 1) := by decide +kernel
theorem dX9_text_46 : decode cX9_text 46 = .ok (.ifCond .ne 14, 3) := by decide +kernel
theorem dX9_text_49 : decode cX9_text 49 = .ok (.bipush (-10), 2) := by decide +kernel
theorem dX9_text_51 : decode cX9_text 51 = .ok (.aload_n 0, 1) := by decide +kernel
theorem dX9_text_52 : decode cX9_text 52 = .ok (.getfield 55, 3) := by decide +kernel
theorem dX9_text_55 : decode cX9_text 55 = .ok (.getfield 185, 3) := by decide +kernel
theorem dX9_text_58 : decode cX9_text 58 = .ok (.isub, 1) := by decide +kernel
theorem dX9_text_59 : decode cX9_text 59 = .ok (.ireturn, 1) := by decide +kernel
theorem dX9_text_60 : decode cX9_text 60 = .ok (.aload_n 0, 1) := by decide +kernel
theorem dX9_text_61 : decode cX9_text 61 = .ok (.getfield 12, 3) := by decide +kernel
theorem dX9_text_64 : decode cX9_text 64 = .ok (.getfield 188, 3) := by decide +kernel
theorem dX9_text_67 : decode cX9_text 67 = .ok (.iload_n 1, 1) := by decide +kernel
theorem dX9_text_68 : decode cX9_text 68 = .ok (.aaload, 1) := by decide +kernel
theorem dX9_text_69 : decode cX9_text 69 = .ok (.aload_n 0, 1) := by decide +kernel
theorem dX9_text_70 : decode cX9_text 70 = .ok (.getfield 55, 3) := by decide +kernel
theorem dX9_text_73 : decode cX9_text 73 = .ok (.getfield 192, 3) := by decide +kernel
theorem dX9_text_76 : decode cX9_text 76 = .ok (.invokevirtual 196, 3) := by decide +kernel
theorem dX9_text_79 : decode cX9_text 79 = .ok (.iconst 1, 1) := by decide +kernel
theorem dX9_text_80 : decode cX9_text 80 = .ok (.ireturn, 1) := by decide +kernel
theorem dX9_untell_0 : decode cX9_untell 0 = .ok (.iload_n 1, 1) := by decide +kernel
theorem dX9_untell_1 : decode cX9_untell 1 = .ok (.invokestatic 178, 3) := by decide +kernel
theorem dX9_untell_4 : decode cX9_untell 4 = .ok (.ifCond .ne 10, 3) := by decide +kernel
theorem dX9_untell_7 : decode cX9_untell 7 = .ok (.aload_n 0, 1) := by decide +kernel
theorem dX9_untell_8 : decode cX9_untell 8 = .ok (.ldc 87, 2) := by decide +kernel
theorem dX9_untell_10 : decode cX9_untell 10 = .ok (.invokevirtual 88, 3) := by decide +kernel
theorem dX9_untell_13 : decode cX9_untell 13 = .ok (.ireturn, 1) := by decide +kernel
theorem dX9_untell_14 : decode cX9_untell 14 = .ok (.aload_n 0, 1) := by decide +kernel
theorem dX9_untell_15 : decode cX9_untell 15 = .ok (.getfield 12, 3) := by decide +kernel
theorem dX9_untell_18 : decode cX9_untell 18 = .ok (.getfield 188, 3) := by decide +kernel
theorem dX9_untell_21 : decode cX9_untell 21 = .ok (.iload_n 1, 1) := by decide +kernel
theorem dX9_untell_22 : decode cX9_untell 22 = .ok (.aaload, 1) := by decide +kernel
theorem dX9_untell_23 : decode cX9_untell 23 = .ok (.invokevirtual 202, 3) := by decide +kernel
theorem dX9_untell_26 : decode cX9_untell 26 = .ok (.invokestatic 133, 3) := by decide +kernel
theorem dX9_untell_29 : decode cX9_untell 29 = .ok (.istore_n 2, 1) := by decide +kernel
theorem dX9_untell_30 : decode cX9_untell 30 = .ok (.aload_n 0, 1) := by decide +kernel
theorem dX9_untell_31 : decode cX9_untell 31 = .ok (.getfield 12, 3) := by decide +kernel
theorem dX9_untell_34 : decode cX9_untell 34 = .ok (.getfield 188, 3) := by decide +kernel
theorem dX9_untell_37 : decode cX9_untell 37 = .ok (.iload_n 1, 1) := by decide +kernel
theorem dX9_untell_38 : decode cX9_untell 38 = .ok (.aaload, 1) := by decide +kernel
theorem dX9_untell_39 : decode cX9_untell 39 = .ok (.invokevirtual 206, 3) := by decide +kernel
theorem dX9_untell_42 : decode cX9_untell 42 = .ok (.iload_n 2, 1) := by decide +kernel
theorem dX9_untell_43 : decode cX9_untell 43 = .ok (.ireturn, 1) := by decide +kernel
theorem dX9_law_0 : decode cX9_law 0 = .ok (.iload_n 1, 1) := by decide +kernel
theorem dX9_law_1 : decode cX9_law 1 = .ok (.invokestatic 178, 3) := by decide +kernel
theorem dX9_law_4 : decode cX9_law 4 = .ok (.ifCond .ne 10, 3) := by decide +kernel
theorem dX9_law_7 : decode cX9_law 7 = .ok (.aload_n 0, 1) := by decide +kernel
theorem dX9_law_8 : decode cX9_law 8 = .ok (.ldc 87, 2) := by decide +kernel
theorem dX9_law_10 : decode cX9_law 10 = .ok (.invokevirtual 88, 3) := by decide +kernel
theorem dX9_law_13 : decode cX9_law 13 = .ok (.ireturn, 1) := by decide +kernel
theorem dX9_law_14 : decode cX9_law 14 = .ok (.aload_n 0, 1) := by decide +kernel
theorem dX9_law_15 : decode cX9_law 15 = .ok (.getfield 12, 3) := by decide +kernel
theorem dX9_law_18 : decode cX9_law 18 = .ok (.iload_n 1, 1) := by decide +kernel
theorem dX9_law_19 : decode cX9_law 19 = .ok (.iload_n 2, 1) := by decide +kernel
theorem dX9_law_20 : decode cX9_law 20 = .ok (.iload_n 3, 1) := by decide +kernel
theorem dX9_law_21 : decode cX9_law 21 = .ok (.iload 4, 2) := by decide +kernel
theorem dX9_law_23 : decode cX9_law 23 = .ok (.invokevirtual 209, 3) := by decide +kernel
theorem dX9_law_26 : decode cX9_law 26 = .ok (.ireturn, 1) := by decide +kernel
theorem dX9_years_0 : decode cX9_years 0 = .ok (.iload_n 1, 1) := by decide +kernel
theorem dX9_years_1 : decode cX9_years 1 = .ok (.iconst 1, 1) := by decide +kernel
theorem dX9_years_2 : decode cX9_years 2 = .ok (.if_icmp .lt 9, 3) := by decide +kernel
theorem dX9_years_5 : decode cX9_years 5 = .ok (.iload_n 1, 1) := by decide +kernel
theorem dX9_years_6 : decode cX9_years 6 = .ok (.bipush 60, 2) := by decide +kernel
theorem dX9_years_8 : decode cX9_years 8 = .ok (.if_icmp .le 10, 3) := by decide +kernel
theorem dX9_years_11 : decode cX9_years 11 = .ok (.aload_n 0, 1) := by decide +kernel
theorem dX9_years_12 : decode cX9_years 12 = .ok (.ldc 87, 2) := by decide +kernel
theorem dX9_years_14 : decode cX9_years 14 = .ok (.invokevirtual 88, 3) := by decide +kernel
theorem dX9_years_17 : decode cX9_years 17 = .ok (.ireturn, 1) := by decide +kernel
theorem dX9_years_18 : decode cX9_years 18 = .ok (.aload_n 0, 1) := by decide +kernel
theorem dX9_years_19 : decode cX9_years 19 = .ok (.getfield 12, 3) := by decide +kernel
theorem dX9_years_22 : decode cX9_years 22 = .ok (.getfield 92, 3) := by decide +kernel
theorem dX9_years_25 : decode cX9_years 25 = .ok (.getfield 213, 3) := by decide +kernel
theorem dX9_years_28 : decode cX9_years 28 = .ok (.iload_n 1, 1) := by decide +kernel
theorem dX9_years_29 : decode cX9_years 29 = .ok (.iadd, 1) := by decide +kernel
theorem dX9_years_30 : decode cX9_years 30 = .ok (.sipush 9999, 3) := by decide +kernel
theorem dX9_years_33 : decode cX9_years 33 = .ok (.if_icmp .le 10, 3) := by decide +kernel
theorem dX9_years_36 : decode cX9_years 36 = .ok (.aload_n 0, 1) := by decide +kernel
theorem dX9_years_37 : decode cX9_years 37 = .ok (.ldc 216, 2) := by decide +kernel
theorem dX9_years_39 : decode cX9_years 39 = .ok (.invokevirtual 88, 3) := by decide +kernel
theorem dX9_years_42 : decode cX9_years 42 = .ok (.ireturn, 1) := by decide +kernel
theorem dX9_years_43 : decode cX9_years 43 = .ok (.aload_n 0, 1) := by decide +kernel
theorem dX9_years_44 : decode cX9_years 44 = .ok (.getfield 12, 3) := by decide +kernel
theorem dX9_years_47 : decode cX9_years 47 = .ok (.getfield 92, 3) := by decide +kernel
theorem dX9_years_50 : decode cX9_years 50 = .ok (.iload_n 1, 1) := by decide +kernel
theorem dX9_years_51 : decode cX9_years 51 = .ok (.invokevirtual 217, 3) := by decide +kernel
theorem dX9_years_54 : decode cX9_years 54 = .ok (.aload_n 0, 1) := by decide +kernel
theorem dX9_years_55 : decode cX9_years 55 = .ok (.getfield 12, 3) := by decide +kernel
theorem dX9_years_58 : decode cX9_years 58 = .ok (.getfield 92, 3) := by decide +kernel
theorem dX9_years_61 : decode cX9_years 61 = .ok (.invokevirtual 220, 3) := by decide +kernel
theorem dX9_years_64 : decode cX9_years 64 = .ok (.ireturn, 1) := by decide +kernel
theorem dX9_loose_0 : decode cX9_loose 0 = .ok (.iload_n 1, 1) := by decide +kernel
theorem dX9_loose_1 : decode cX9_loose 1 = .ok (.iconst 1, 1) := by decide +kernel
theorem dX9_loose_2 : decode cX9_loose 2 = .ok (.if_icmp .lt 9, 3) := by decide +kernel
theorem dX9_loose_5 : decode cX9_loose 5 = .ok (.iload_n 1, 1) := by decide +kernel
theorem dX9_loose_6 : decode cX9_loose 6 = .ok (.bipush 20, 2) := by decide +kernel
theorem dX9_loose_8 : decode cX9_loose 8 = .ok (.if_icmp .le 10, 3) := by decide +kernel
theorem dX9_loose_11 : decode cX9_loose 11 = .ok (.aload_n 0, 1) := by decide +kernel
theorem dX9_loose_12 : decode cX9_loose 12 = .ok (.ldc 87, 2) := by decide +kernel
theorem dX9_loose_14 : decode cX9_loose 14 = .ok (.invokevirtual 88, 3) := by decide +kernel
theorem dX9_loose_17 : decode cX9_loose 17 = .ok (.ireturn, 1) := by decide +kernel
theorem dX9_loose_18 : decode cX9_loose 18 = .ok (.aload_n 0, 1) := by decide +kernel
theorem dX9_loose_19 : decode cX9_loose 19 = .ok (.getfield 12, 3) := by decide +kernel
theorem dX9_loose_22 : decode cX9_loose 22 = .ok (.getfield 92, 3) := by decide +kernel
theorem dX9_loose_25 : decode cX9_loose 25 = .ok (.getfield 213, 3) := by decide +kernel
theorem dX9_loose_28 : decode cX9_loose 28 = .ok (.iload_n 1, 1) := by decide +kernel
theorem dX9_loose_29 : decode cX9_loose 29 = .ok (.iadd, 1) := by decide +kernel
theorem dX9_loose_30 : decode cX9_loose 30 = .ok (.sipush 9999, 3) := by decide +kernel
theorem dX9_loose_33 : decode cX9_loose 33 = .ok (.if_icmp .le 10, 3) := by decide +kernel
theorem dX9_loose_36 : decode cX9_loose 36 = .ok (.aload_n 0, 1) := by decide +kernel
theorem dX9_loose_37 : decode cX9_loose 37 = .ok (.ldc 216, 2) := by decide +kernel
theorem dX9_loose_39 : decode cX9_loose 39 = .ok (.invokevirtual 88, 3) := by decide +kernel
theorem dX9_loose_42 : decode cX9_loose 42 = .ok (.ireturn, 1) := by decide +kernel
theorem dX9_loose_43 : decode cX9_loose 43 = .ok (.iconst 0, 1) := by decide +kernel
theorem dX9_loose_44 : decode cX9_loose 44 = .ok (.istore_n 2, 1) := by decide +kernel
theorem dX9_loose_45 : decode cX9_loose 45 = .ok (.iload_n 2, 1) := by decide +kernel
theorem dX9_loose_46 : decode cX9_loose 46 = .ok (.iload_n 1, 1) := by decide +kernel
theorem dX9_loose_47 : decode cX9_loose 47 = .ok (.if_icmp .ge 19, 3) := by decide +kernel
theorem dX9_loose_50 : decode cX9_loose 50 = .ok (.aload_n 0, 1) := by decide +kernel
theorem dX9_loose_51 : decode cX9_loose 51 = .ok (.getfield 12, 3) := by decide +kernel
theorem dX9_loose_54 : decode cX9_loose 54 = .ok (.getfield 92, 3) := by decide +kernel
theorem dX9_loose_57 : decode cX9_loose 57 = .ok (.invokevirtual 223, 3) := by decide +kernel
theorem dX9_loose_60 : decode cX9_loose 60 = .ok (.iinc 2 1, 3) := by decide +kernel
theorem dX9_loose_63 : decode cX9_loose 63 = .ok (.goto (-18), 3) := by decide +kernel
theorem dX9_loose_66 : decode cX9_loose 66 = .ok (.aload_n 0, 1) := by decide +kernel
theorem dX9_loose_67 : decode cX9_loose 67 = .ok (.getfield 12, 3) := by decide +kernel
theorem dX9_loose_70 : decode cX9_loose 70 = .ok (.getfield 92, 3) := by decide +kernel
theorem dX9_loose_73 : decode cX9_loose 73 = .ok (.invokevirtual 220, 3) := by decide +kernel
theorem dX9_loose_76 : decode cX9_loose 76 = .ok (.ireturn, 1) := by decide +kernel
theorem dX9_seed_0 : decode cX9_seed 0 = .ok (.aload_n 0, 1) := by decide +kernel
theorem dX9_seed_1 : decode cX9_seed 1 = .ok (.getfield 12, 3) := by decide +kernel
theorem dX9_seed_4 : decode cX9_seed 4 = .ok (.getfield 92, 3) := by decide +kernel
theorem dX9_seed_7 : decode cX9_seed 7 = .ok (.getfield 226, 3) := by decide +kernel
theorem dX9_seed_10 : decode cX9_seed 10 = .ok (.istore_n 2, 1) := by decide +kernel
theorem dX9_seed_11 : decode cX9_seed 11 = .ok (.aload_n 0, 1) := by decide +kernel
theorem dX9_seed_12 : decode cX9_seed 12 = .ok (.getfield 12, 3) := by decide +kernel
theorem dX9_seed_15 : decode cX9_seed 15 = .ok (.getfield 92, 3) := by decide +kernel
theorem dX9_seed_18 : decode cX9_seed 18 = .ok (.iload_n 1, 1) := by decide +kernel
theorem dX9_seed_19 : decode cX9_seed 19 = .ok (.putfield 226, 3) := by decide +kernel
theorem dX9_seed_22 : decode cX9_seed 22 = .ok (.iload_n 2, 1) := by decide +kernel
theorem dX9_seed_23 : decode cX9_seed 23 = .ok (.ireturn, 1) := by decide +kernel
theorem dX9_talk_0 : decode cX9_talk 0 = .ok (.iload_n 1, 1) := by decide +kernel
theorem dX9_talk_1 : decode cX9_talk 1 = .ok (.tableswitch 60 0 2 #[27, 38, 49], 27) := by decide +kernel
theorem dX9_talk_28 : decode cX9_talk 28 = .ok (.aload_n 0, 1) := by decide +kernel
theorem dX9_talk_29 : decode cX9_talk 29 = .ok (.getfield 12, 3) := by decide +kernel
theorem dX9_talk_32 : decode cX9_talk 32 = .ok (.getfield 92, 3) := by decide +kernel
theorem dX9_talk_35 : decode cX9_talk 35 = .ok (.invokevirtual 229, 3) := by decide +kernel
theorem dX9_talk_38 : decode cX9_talk 38 = .ok (.ireturn, 1) := by decide +kernel
theorem dX9_talk_39 : decode cX9_talk 39 = .ok (.aload_n 0, 1) := by decide +kernel
theorem dX9_talk_40 : decode cX9_talk 40 = .ok (.getfield 12, 3) := by decide +kernel
theorem dX9_talk_43 : decode cX9_talk 43 = .ok (.getfield 92, 3) := by decide +kernel
theorem dX9_talk_46 : decode cX9_talk 46 = .ok (.invokevirtual 232, 3) := by decide +kernel
theorem dX9_talk_49 : decode cX9_talk 49 = .ok (.ireturn, 1) := by decide +kernel
theorem dX9_talk_50 : decode cX9_talk 50 = .ok (.aload_n 0, 1) := by decide +kernel
theorem dX9_talk_51 : decode cX9_talk 51 = .ok (.getfield 12, 3) := by decide +kernel
theorem dX9_talk_54 : decode cX9_talk 54 = .ok (.getfield 92, 3) := by decide +kernel
theorem dX9_talk_57 : decode cX9_talk 57 = .ok (.invokevirtual 220, 3) := by decide +kernel
theorem dX9_talk_60 : decode cX9_talk 60 = .ok (.ireturn, 1) := by decide +kernel
theorem dX9_talk_61 : decode cX9_talk 61 = .ok (.aload_n 0, 1) := by decide +kernel
theorem dX9_talk_62 : decode cX9_talk 62 = .ok (.ldc 87, 2) := by decide +kernel
theorem dX9_talk_64 : decode cX9_talk 64 = .ok (.invokevirtual 88, 3) := by decide +kernel
theorem dX9_talk_67 : decode cX9_talk 67 = .ok (.ireturn, 1) := by decide +kernel
theorem dX9_meaning_0 : decode cX9_meaning 0 = .ok (.iload_n 1, 1) := by decide +kernel
theorem dX9_meaning_1 : decode cX9_meaning 1 = .ok (.iconst (-1), 1) := by decide +kernel
theorem dX9_meaning_2 : decode cX9_meaning 2 = .ok (.if_icmp .eq 17, 3) := by decide +kernel
theorem dX9_meaning_5 : decode cX9_meaning 5 = .ok (.iload_n 1, 1) := by decide +kernel
theorem dX9_meaning_6 : decode cX9_meaning 6 = .ok (.invokestatic 84, 3) := by decide +kernel
theorem dX9_meaning_9 : decode cX9_meaning 9 = .ok (.ifCond .ne 10, 3) := by decide +kernel
theorem dX9_meaning_12 : decode cX9_meaning 12 = .ok (.aload_n 0, 1) := by decide +kernel
theorem dX9_meaning_13 : decode cX9_meaning 13 = .ok (.ldc 87, 2) := by decide +kernel
theorem dX9_meaning_15 : decode cX9_meaning 15 = .ok (.invokevirtual 88, 3) := by decide +kernel
theorem dX9_meaning_18 : decode cX9_meaning 18 = .ok (.ireturn, 1) := by decide +kernel
theorem dX9_meaning_19 : decode cX9_meaning 19 = .ok (.iconst 0, 1) := by decide +kernel
theorem dX9_meaning_20 : decode cX9_meaning 20 = .ok (.istore_n 2, 1) := by decide +kernel
theorem dX9_meaning_21 : decode cX9_meaning 21 = .ok (.iconst 0, 1) := by decide +kernel
theorem dX9_meaning_22 : decode cX9_meaning 22 = .ok (.istore_n 3, 1) := by decide +kernel
theorem dX9_meaning_23 : decode cX9_meaning 23 = .ok (.iload_n 3, 1) := by decide +kernel
theorem dX9_meaning_24 : decode cX9_meaning 24 = .ok (.aload_n 0, 1) := by decide +kernel
theorem dX9_meaning_25 : decode cX9_meaning 25 = .ok (.getfield 12, 3) := by decide +kernel
theorem dX9_meaning_28 : decode cX9_meaning 28 = .ok (.getfield 92, 3) := by decide +kernel
theorem dX9_meaning_31 : decode cX9_meaning 31 = .ok (.getfield 95, 3) := by decide +kernel
theorem dX9_meaning_34 : decode cX9_meaning 34 = .ok (.if_icmp .ge 63, 3) := by decide +kernel
theorem dX9_meaning_37 : decode cX9_meaning 37 = .ok (.aload_n 0, 1) := by decide +kernel
theorem dX9_meaning_38 : decode cX9_meaning 38 = .ok (.getfield 12, 3) := by decide +kernel
theorem dX9_meaning_41 : decode cX9_meaning 41 = .ok (.getfield 92, 3) := by decide +kernel
theorem dX9_meaning_44 : decode cX9_meaning 44 = .ok (.getfield 107, 3) := by decide +kernel
theorem dX9_meaning_47 : decode cX9_meaning 47 = .ok (.iload_n 3, 1) := by decide +kernel
theorem dX9_meaning_48 : decode cX9_meaning 48 = .ok (.aaload, 1) := by decide +kernel
theorem dX9_meaning_49 : decode cX9_meaning 49 = .ok (.astore 4, 2) := by decide +kernel
theorem dX9_meaning_51 : decode cX9_meaning 51 = .ok (.iload_n 1, 1) := by decide +kernel
theorem dX9_meaning_52 : decode cX9_meaning 52 = .ok (.iconst (-1), 1) := by decide +kernel
theorem dX9_meaning_53 : decode cX9_meaning 53 = .ok (.if_icmp .eq 12, 3) := by decide +kernel
theorem dX9_meaning_56 : decode cX9_meaning 56 = .ok (.aload 4, 2) := by decide +kernel
theorem dX9_meaning_58 : decode cX9_meaning 58 = .ok (.getfield 123, 3) := by decide +kernel
theorem dX9_meaning_61 : decode cX9_meaning 61 = .ok (.iload_n 1, 1) := by decide +kernel
theorem dX9_meaning_62 : decode cX9_meaning 62 = .ok (.if_icmp .ne 29, 3) := by decide +kernel
theorem dX9_meaning_65 : decode cX9_meaning 65 = .ok (.aload_n 0, 1) := by decide +kernel
theorem dX9_meaning_66 : decode cX9_meaning 66 = .ok (.getfield 12, 3) := by decide +kernel
theorem dX9_meaning_69 : decode cX9_meaning 69 = .ok (.getfield 92, 3) := by decide +kernel
theorem dX9_meaning_72 : decode cX9_meaning 72 = .ok (.iload_n 3, 1) := by decide +kernel
theorem dX9_meaning_73 : decode cX9_meaning 73 = .ok (.invokevirtual 235, 3) := by decide +kernel
theorem dX9_meaning_76 : decode cX9_meaning 76 = .ok (.ifCond .eq 15, 3) := by decide +kernel
theorem dX9_meaning_79 : decode cX9_meaning 79 = .ok (.iload_n 2, 1) := by decide +kernel
theorem dX9_meaning_80 : decode cX9_meaning 80 = .ok (.aload_n 0, 1) := by decide +kernel
theorem dX9_meaning_81 : decode cX9_meaning 81 = .ok (.getfield 12, 3) := by decide +kernel
theorem dX9_meaning_84 : decode cX9_meaning 84 = .ok (.aload 4, 2) := by decide +kernel
theorem dX9_meaning_86 : decode cX9_meaning 86 = .ok (.invokevirtual 141, 3) := by decide +kernel
theorem dX9_meaning_89 : decode cX9_meaning 89 = .ok (.iadd, 1) := by decide +kernel
theorem dX9_meaning_90 : decode cX9_meaning 90 = .ok (.istore_n 2, 1) := by decide +kernel
theorem dX9_meaning_91 : decode cX9_meaning 91 = .ok (.iinc 3 1, 3) := by decide +kernel
theorem dX9_meaning_94 : decode cX9_meaning 94 = .ok (.goto (-71), 3) := by decide +kernel
theorem dX9_meaning_97 : decode cX9_meaning 97 = .ok (.iload_n 2, 1) := by decide +kernel
theorem dX9_meaning_98 : decode cX9_meaning 98 = .ok (.ireturn, 1) := by decide +kernel
theorem dX9_then_0 : decode cX9_then 0 = .ok (.iload_n 1, 1) := by decide +kernel
theorem dX9_then_1 : decode cX9_then 1 = .ok (.ifCond .lt 18, 3) := by decide +kernel
theorem dX9_then_4 : decode cX9_then 4 = .ok (.iload_n 1, 1) := by decide +kernel
theorem dX9_then_5 : decode cX9_then 5 = .ok (.bipush 60, 2) := by decide +kernel
theorem dX9_then_7 : decode cX9_then 7 = .ok (.if_icmp .gt 12, 3) := by decide +kernel
theorem dX9_then_10 : decode cX9_then 10 = .ok (.iload_n 2, 1) := by decide +kernel
theorem dX9_then_11 : decode cX9_then 11 = .ok (.ifCond .lt 8, 3) := by decide +kernel
theorem dX9_then_14 : decode cX9_then 14 = .ok (.iload_n 2, 1) := by decide +kernel
theorem dX9_then_15 : decode cX9_then 15 = .ok (.iconst 1, 1) := by decide +kernel
theorem dX9_then_16 : decode cX9_then 16 = .ok (.if_icmp .le 10, 3) := by decide +kernel
theorem dX9_then_19 : decode cX9_then 19 = .ok (.aload_n 0, 1) := by decide +kernel
theorem dX9_then_20 : decode cX9_then 20 = .ok (.ldc 87, 2) := by decide +kernel
theorem dX9_then_22 : decode cX9_then 22 = .ok (.invokevirtual 88, 3) := by decide +kernel
theorem dX9_then_25 : decode cX9_then 25 = .ok (.ireturn, 1) := by decide +kernel
theorem dX9_then_26 : decode cX9_then 26 = .ok (.aload_n 0, 1) := by decide +kernel
theorem dX9_then_27 : decode cX9_then 27 = .ok (.getfield 22, 3) := by decide +kernel
theorem dX9_then_30 : decode cX9_then 30 = .ok (.aload_n 0, 1) := by decide +kernel
theorem dX9_then_31 : decode cX9_then 31 = .ok (.getfield 12, 3) := by decide +kernel
theorem dX9_then_34 : decode cX9_then 34 = .ok (.getfield 92, 3) := by decide +kernel
theorem dX9_then_37 : decode cX9_then 37 = .ok (.invokevirtual 238, 3) := by decide +kernel
theorem dX9_then_40 : decode cX9_then 40 = .ok (.aload_n 0, 1) := by decide +kernel
theorem dX9_then_41 : decode cX9_then 41 = .ok (.getfield 22, 3) := by decide +kernel
theorem dX9_then_44 : decode cX9_then 44 = .ok (.iload_n 1, 1) := by decide +kernel
theorem dX9_then_45 : decode cX9_then 45 = .ok (.invokevirtual 217, 3) := by decide +kernel
theorem dX9_then_48 : decode cX9_then 48 = .ok (.iload_n 2, 1) := by decide +kernel
theorem dX9_then_49 : decode cX9_then 49 = .ok (.ifCond .ne 13, 3) := by decide +kernel
theorem dX9_then_52 : decode cX9_then 52 = .ok (.aload_n 0, 1) := by decide +kernel
theorem dX9_then_53 : decode cX9_then 53 = .ok (.getfield 22, 3) := by decide +kernel
theorem dX9_then_56 : decode cX9_then 56 = .ok (.invokevirtual 220, 3) := by decide +kernel
theorem dX9_then_59 : decode cX9_then 59 = .ok (.goto 10, 3) := by decide +kernel
theorem dX9_then_62 : decode cX9_then 62 = .ok (.aload_n 0, 1) := by decide +kernel
theorem dX9_then_63 : decode cX9_then 63 = .ok (.getfield 22, 3) := by decide +kernel
theorem dX9_then_66 : decode cX9_then 66 = .ok (.invokevirtual 241, 3) := by decide +kernel
theorem dX9_then_69 : decode cX9_then 69 = .ok (.ireturn, 1) := by decide +kernel
theorem dX9_fewest_0 : decode cX9_fewest 0 = .ok (.iload_n 1, 1) := by decide +kernel
theorem dX9_fewest_1 : decode cX9_fewest 1 = .ok (.ifCond .lt 8, 3) := by decide +kernel
theorem dX9_fewest_4 : decode cX9_fewest 4 = .ok (.iload_n 1, 1) := by decide +kernel
theorem dX9_fewest_5 : decode cX9_fewest 5 = .ok (.iconst 1, 1) := by decide +kernel
theorem dX9_fewest_6 : decode cX9_fewest 6 = .ok (.if_icmp .le 10, 3) := by decide +kernel
theorem dX9_fewest_9 : decode cX9_fewest 9 = .ok (.aload_n 0, 1) := by decide +kernel
theorem dX9_fewest_10 : decode cX9_fewest 10 = .ok (.ldc 87, 2) := by decide +kernel
theorem dX9_fewest_12 : decode cX9_fewest 12 = .ok (.invokevirtual 88, 3) := by decide +kernel
theorem dX9_fewest_15 : decode cX9_fewest 15 = .ok (.ireturn, 1) := by decide +kernel
theorem dX9_fewest_16 : decode cX9_fewest 16 = .ok (.aload_n 0, 1) := by decide +kernel
theorem dX9_fewest_17 : decode cX9_fewest 17 = .ok (.getfield 12, 3) := by decide +kernel
theorem dX9_fewest_20 : decode cX9_fewest 20 = .ok (.getfield 92, 3) := by decide +kernel
theorem dX9_fewest_23 : decode cX9_fewest 23 = .ok (.invokevirtual 241, 3) := by decide +kernel
theorem dX9_fewest_26 : decode cX9_fewest 26 = .ok (.aload_n 0, 1) := by decide +kernel
theorem dX9_fewest_27 : decode cX9_fewest 27 = .ok (.getfield 36, 3) := by decide +kernel
theorem dX9_fewest_30 : decode cX9_fewest 30 = .ok (.aload_n 0, 1) := by decide +kernel
theorem dX9_fewest_31 : decode cX9_fewest 31 = .ok (.getfield 12, 3) := by decide +kernel
theorem dX9_fewest_34 : decode cX9_fewest 34 = .ok (.getfield 92, 3) := by decide +kernel
theorem dX9_fewest_37 : decode cX9_fewest 37 = .ok (.invokevirtual 244, 3) := by decide +kernel
theorem dX9_fewest_40 : decode cX9_fewest 40 = .ok (.iconst (-1), 1) := by decide +kernel
theorem dX9_fewest_41 : decode cX9_fewest 41 = .ok (.ixor, 1) := by decide +kernel
theorem dX9_fewest_42 : decode cX9_fewest 42 = .ok (.iand, 1) := by decide +kernel
theorem dX9_fewest_43 : decode cX9_fewest 43 = .ok (.istore_n 2, 1) := by decide +kernel
theorem dX9_fewest_44 : decode cX9_fewest 44 = .ok (.iload_n 1, 1) := by decide +kernel
theorem dX9_fewest_45 : decode cX9_fewest 45 = .ok (.ifCond .ne 10, 3) := by decide +kernel
theorem dX9_fewest_48 : decode cX9_fewest 48 = .ok (.iload_n 2, 1) := by decide +kernel
theorem dX9_fewest_49 : decode cX9_fewest 49 = .ok (.invokestatic 248, 3) := by decide +kernel
theorem dX9_fewest_52 : decode cX9_fewest 52 = .ok (.goto 4, 3) := by decide +kernel
theorem dX9_fewest_55 : decode cX9_fewest 55 = .ok (.iload_n 2, 1) := by decide +kernel
theorem dX9_fewest_56 : decode cX9_fewest 56 = .ok (.ireturn, 1) := by decide +kernel
theorem dX9_reply_0 : decode cX9_reply 0 = .ok (.iload_n 1, 1) := by decide +kernel
theorem dX9_reply_1 : decode cX9_reply 1 = .ok (.invokestatic 81, 3) := by decide +kernel
theorem dX9_reply_4 : decode cX9_reply 4 = .ok (.ifCond .eq 12, 3) := by decide +kernel
theorem dX9_reply_7 : decode cX9_reply 7 = .ok (.iload_n 2, 1) := by decide +kernel
theorem dX9_reply_8 : decode cX9_reply 8 = .ok (.ifCond .lt 8, 3) := by decide +kernel
theorem dX9_reply_11 : decode cX9_reply 11 = .ok (.iload_n 2, 1) := by decide +kernel
theorem dX9_reply_12 : decode cX9_reply 12 = .ok (.iconst 1, 1) := by decide +kernel
theorem dX9_reply_13 : decode cX9_reply 13 = .ok (.if_icmp .le 10, 3) := by decide +kernel
theorem dX9_reply_16 : decode cX9_reply 16 = .ok (.aload_n 0, 1) := by decide +kernel
theorem dX9_reply_17 : decode cX9_reply 17 = .ok (.ldc 87, 2) := by decide +kernel
theorem dX9_reply_19 : decode cX9_reply 19 = .ok (.invokevirtual 88, 3) := by decide +kernel
theorem dX9_reply_22 : decode cX9_reply 22 = .ok (.ireturn, 1) := by decide +kernel
theorem dX9_reply_23 : decode cX9_reply 23 = .ok (.aload_n 0, 1) := by decide +kernel
theorem dX9_reply_24 : decode cX9_reply 24 = .ok (.getfield 12, 3) := by decide +kernel
theorem dX9_reply_27 : decode cX9_reply 27 = .ok (.getfield 92, 3) := by decide +kernel
theorem dX9_reply_30 : decode cX9_reply 30 = .ok (.aload_n 0, 1) := by decide +kernel
theorem dX9_reply_31 : decode cX9_reply 31 = .ok (.getfield 12, 3) := by decide +kernel
theorem dX9_reply_34 : decode cX9_reply 34 = .ok (.getfield 92, 3) := by decide +kernel
theorem dX9_reply_37 : decode cX9_reply 37 = .ok (.getfield 95, 3) := by decide +kernel
theorem dX9_reply_40 : decode cX9_reply 40 = .ok (.invokevirtual 253, 3) := by decide +kernel
theorem dX9_reply_43 : decode cX9_reply 43 = .ok (.istore_n 3, 1) := by decide +kernel
theorem dX9_reply_44 : decode cX9_reply 44 = .ok (.iload_n 3, 1) := by decide +kernel
theorem dX9_reply_45 : decode cX9_reply 45 = .ok (.ifCond .ge 10, 3) := by decide +kernel
theorem dX9_reply_48 : decode cX9_reply 48 = .ok (.aload_n 0, 1) := by decide +kernel
theorem dX9_reply_49 : decode cX9_reply 49 = .ok (.ldc 216, 2) := by decide +kernel
theorem dX9_reply_51 : decode cX9_reply 51 = .ok (.invokevirtual 88, 3) := by decide +kernel
theorem dX9_reply_54 : decode cX9_reply 54 = .ok (.ireturn, 1) := by decide +kernel
theorem dX9_reply_55 : decode cX9_reply 55 = .ok (.iconst 1, 1) := by decide +kernel
theorem dX9_reply_56 : decode cX9_reply 56 = .ok (.istore 4, 2) := by decide +kernel
theorem dX9_reply_58 : decode cX9_reply 58 = .ok (.iload 4, 2) := by decide +kernel
theorem dX9_reply_60 : decode cX9_reply 60 = .ok (.bipush 12, 2) := by decide +kernel
theorem dX9_reply_62 : decode cX9_reply 62 = .ok (.if_icmp .ge 40, 3) := by decide +kernel
theorem dX9_reply_65 : decode cX9_reply 65 = .ok (.aload_n 0, 1) := by decide +kernel
theorem dX9_reply_66 : decode cX9_reply 66 = .ok (.getfield 45, 3) := by decide +kernel
theorem dX9_reply_69 : decode cX9_reply 69 = .ok (.getfield 256, 3) := by decide +kernel
theorem dX9_reply_72 : decode cX9_reply 72 = .ok (.iload 4, 2) := by decide +kernel
theorem dX9_reply_74 : decode cX9_reply 74 = .ok (.aload_n 0, 1) := by decide +kernel
theorem dX9_reply_75 : decode cX9_reply 75 = .ok (.getfield 12, 3) := by decide +kernel
theorem dX9_reply_78 : decode cX9_reply 78 = .ok (.iconst 0, 1) := by decide +kernel
theorem dX9_reply_79 : decode cX9_reply 79 = .ok (.iload 4, 2) := by decide +kernel
theorem dX9_reply_81 : decode cX9_reply 81 = .ok (.iconst 0, 1) := by decide +kernel
theorem dX9_reply_82 : decode cX9_reply 82 = .ok (.aload_n 0, 1) := by decide +kernel
theorem dX9_reply_83 : decode cX9_reply 83 = .ok (.getfield 12, 3) := by decide +kernel
theorem dX9_reply_86 : decode cX9_reply 86 = .ok (.getfield 92, 3) := by decide +kernel
theorem dX9_reply_89 : decode cX9_reply 89 = .ok (.getfield 168, 3) := by decide +kernel
theorem dX9_reply_92 : decode cX9_reply 92 = .ok (.invokevirtual 209, 3) := by decide +kernel
theorem dX9_reply_95 : decode cX9_reply 95 = .ok (.iastore, 1) := by decide +kernel
theorem dX9_reply_96 : decode cX9_reply 96 = .ok (.iinc 4 1, 3) := by decide +kernel
theorem dX9_reply_99 : decode cX9_reply 99 = .ok (.goto (-41), 3) := by decide +kernel
theorem dX9_reply_102 : decode cX9_reply 102 = .ok (.iconst 1, 1) := by decide +kernel
theorem dX9_reply_103 : decode cX9_reply 103 = .ok (.istore 4, 2) := by decide +kernel
theorem dX9_reply_105 : decode cX9_reply 105 = .ok (.iload 4, 2) := by decide +kernel
theorem dX9_reply_107 : decode cX9_reply 107 = .ok (.bipush 6, 2) := by decide +kernel
theorem dX9_reply_109 : decode cX9_reply 109 = .ok (.if_icmp .ge 40, 3) := by decide +kernel
theorem dX9_reply_112 : decode cX9_reply 112 = .ok (.aload_n 0, 1) := by decide +kernel
theorem dX9_reply_113 : decode cX9_reply 113 = .ok (.getfield 49, 3) := by decide +kernel
theorem dX9_reply_116 : decode cX9_reply 116 = .ok (.getfield 256, 3) := by decide +kernel
theorem dX9_reply_119 : decode cX9_reply 119 = .ok (.iload 4, 2) := by decide +kernel
theorem dX9_reply_121 : decode cX9_reply 121 = .ok (.aload_n 0, 1) := by decide +kernel
theorem dX9_reply_122 : decode cX9_reply 122 = .ok (.getfield 12, 3) := by decide +kernel
theorem dX9_reply_125 : decode cX9_reply 125 = .ok (.iconst 0, 1) := by decide +kernel
theorem dX9_reply_126 : decode cX9_reply 126 = .ok (.iconst 0, 1) := by decide +kernel
theorem dX9_reply_127 : decode cX9_reply 127 = .ok (.iload 4, 2) := by decide +kernel
theorem dX9_reply_129 : decode cX9_reply 129 = .ok (.aload_n 0, 1) := by decide +kernel
theorem dX9_reply_130 : decode cX9_reply 130 = .ok (.getfield 12, 3) := by decide +kernel
theorem dX9_reply_133 : decode cX9_reply 133 = .ok (.getfield 92, 3) := by decide +kernel
theorem dX9_reply_136 : decode cX9_reply 136 = .ok (.getfield 168, 3) := by decide +kernel
theorem dX9_reply_139 : decode cX9_reply 139 = .ok (.invokevirtual 209, 3) := by decide +kernel
theorem dX9_reply_142 : decode cX9_reply 142 = .ok (.iastore, 1) := by decide +kernel
theorem dX9_reply_143 : decode cX9_reply 143 = .ok (.iinc 4 1, 3) := by decide +kernel
theorem dX9_reply_146 : decode cX9_reply 146 = .ok (.goto (-41), 3) := by decide +kernel
theorem dX9_reply_149 : decode cX9_reply 149 = .ok (.aload_n 0, 1) := by decide +kernel
theorem dX9_reply_150 : decode cX9_reply 150 = .ok (.getfield 45, 3) := by decide +kernel
theorem dX9_reply_153 : decode cX9_reply 153 = .ok (.iload_n 1, 1) := by decide +kernel
theorem dX9_reply_154 : decode cX9_reply 154 = .ok (.bipush 10, 2) := by decide +kernel
theorem dX9_reply_156 : decode cX9_reply 156 = .ok (.idiv, 1) := by decide +kernel
theorem dX9_reply_157 : decode cX9_reply 157 = .ok (.iconst 1, 1) := by decide +kernel
theorem dX9_reply_158 : decode cX9_reply 158 = .ok (.isub, 1) := by decide +kernel
theorem dX9_reply_159 : decode cX9_reply 159 = .ok (.invokevirtual 259, 3) := by decide +kernel
theorem dX9_reply_162 : decode cX9_reply 162 = .ok (.aload_n 0, 1) := by decide +kernel
theorem dX9_reply_163 : decode cX9_reply 163 = .ok (.getfield 49, 3) := by decide +kernel
theorem dX9_reply_166 : decode cX9_reply 166 = .ok (.iload_n 1, 1) := by decide +kernel
theorem dX9_reply_167 : decode cX9_reply 167 = .ok (.bipush 10, 2) := by decide +kernel
theorem dX9_reply_169 : decode cX9_reply 169 = .ok (.irem, 1) := by decide +kernel
theorem dX9_reply_170 : decode cX9_reply 170 = .ok (.invokevirtual 259, 3) := by decide +kernel
theorem dX9_reply_173 : decode cX9_reply 173 = .ok (.aload_n 0, 1) := by decide +kernel
theorem dX9_reply_174 : decode cX9_reply 174 = .ok (.getfield 12, 3) := by decide +kernel
theorem dX9_reply_177 : decode cX9_reply 177 = .ok (.getfield 92, 3) := by decide +kernel
theorem dX9_reply_180 : decode cX9_reply 180 = .ok (.getfield 107, 3) := by decide +kernel
theorem dX9_reply_183 : decode cX9_reply 183 = .ok (.iload_n 3, 1) := by decide +kernel
theorem dX9_reply_184 : decode cX9_reply 184 = .ok (.aaload, 1) := by decide +kernel
theorem dX9_reply_185 : decode cX9_reply 185 = .ok (.astore 4, 2) := by decide +kernel
theorem dX9_reply_187 : decode cX9_reply 187 = .ok (.iload_n 2, 1) := by decide +kernel
theorem dX9_reply_188 : decode cX9_reply 188 = .ok (.ifCond .ne 33, 3) := by decide +kernel
theorem dX9_reply_191 : decode cX9_reply 191 = .ok (.aload_n 0, 1) := by decide +kernel
theorem dX9_reply_192 : decode cX9_reply 192 = .ok (.getfield 45, 3) := by decide +kernel
theorem dX9_reply_195 : decode cX9_reply 195 = .ok (.getfield 262, 3) := by decide +kernel
theorem dX9_reply_198 : decode cX9_reply 198 = .ok (.aload 4, 2) := by decide +kernel
theorem dX9_reply_200 : decode cX9_reply 200 = .ok (.getfield 117, 3) := by decide +kernel
theorem dX9_reply_203 : decode cX9_reply 203 = .ok (.iconst 1, 1) := by decide +kernel
theorem dX9_reply_204 : decode cX9_reply 204 = .ok (.isub, 1) := by decide +kernel
theorem dX9_reply_205 : decode cX9_reply 205 = .ok (.iaload, 1) := by decide +kernel
theorem dX9_reply_206 : decode cX9_reply 206 = .ok (.aload_n 0, 1) := by decide +kernel
theorem dX9_reply_207 : decode cX9_reply 207 = .ok (.getfield 49, 3) := by decide +kernel
theorem dX9_reply_210 : decode cX9_reply 210 = .ok (.getfield 262, 3) := by decide +kernel
theorem dX9_reply_213 : decode cX9_reply 213 = .ok (.aload 4, 2) := by decide +kernel
theorem dX9_reply_215 : decode cX9_reply 215 = .ok (.getfield 120, 3) := by decide +kernel
theorem dX9_reply_218 : decode cX9_reply 218 = .ok (.iaload, 1) := by decide +kernel
theorem dX9_reply_219 : decode cX9_reply 219 = .ok (.iadd, 1) := by decide +kernel
theorem dX9_reply_220 : decode cX9_reply 220 = .ok (.ireturn, 1) := by decide +kernel
theorem dX9_reply_221 : decode cX9_reply 221 = .ok (.aload_n 0, 1) := by decide +kernel
theorem dX9_reply_222 : decode cX9_reply 222 = .ok (.aload 4, 2) := by decide +kernel
theorem dX9_reply_224 : decode cX9_reply 224 = .ok (.invokevirtual 265, 3) := by decide +kernel
theorem dX9_reply_227 : decode cX9_reply 227 = .ok (.ireturn, 1) := by decide +kernel
theorem dX9_odds_0 : decode cX9_odds 0 = .ok (.iload_n 1, 1) := by decide +kernel
theorem dX9_odds_1 : decode cX9_odds 1 = .ok (.invokestatic 77, 3) := by decide +kernel
theorem dX9_odds_4 : decode cX9_odds 4 = .ok (.ifCond .eq 19, 3) := by decide +kernel
theorem dX9_odds_7 : decode cX9_odds 7 = .ok (.iload_n 2, 1) := by decide +kernel
theorem dX9_odds_8 : decode cX9_odds 8 = .ok (.invokestatic 84, 3) := by decide +kernel
theorem dX9_odds_11 : decode cX9_odds 11 = .ok (.ifCond .eq 12, 3) := by decide +kernel
theorem dX9_odds_14 : decode cX9_odds 14 = .ok (.iload_n 3, 1) := by decide +kernel
theorem dX9_odds_15 : decode cX9_odds 15 = .ok (.ifCond .lt 8, 3) := by decide +kernel
theorem dX9_odds_18 : decode cX9_odds 18 = .ok (.iload_n 3, 1) := by decide +kernel
theorem dX9_odds_19 : decode cX9_odds 19 = .ok (.iconst 1, 1) := by decide +kernel
theorem dX9_odds_20 : decode cX9_odds 20 = .ok (.if_icmp .le 10, 3) := by decide +kernel
theorem dX9_odds_23 : decode cX9_odds 23 = .ok (.aload_n 0, 1) := by decide +kernel
theorem dX9_odds_24 : decode cX9_odds 24 = .ok (.ldc 87, 2) := by decide +kernel
theorem dX9_odds_26 : decode cX9_odds 26 = .ok (.invokevirtual 88, 3) := by decide +kernel
theorem dX9_odds_29 : decode cX9_odds 29 = .ok (.ireturn, 1) := by decide +kernel
theorem dX9_odds_30 : decode cX9_odds 30 = .ok (.aload_n 0, 1) := by decide +kernel
theorem dX9_odds_31 : decode cX9_odds 31 = .ok (.getfield 12, 3) := by decide +kernel
theorem dX9_odds_34 : decode cX9_odds 34 = .ok (.getfield 92, 3) := by decide +kernel
theorem dX9_odds_37 : decode cX9_odds 37 = .ok (.aload_n 0, 1) := by decide +kernel
theorem dX9_odds_38 : decode cX9_odds 38 = .ok (.getfield 12, 3) := by decide +kernel
theorem dX9_odds_41 : decode cX9_odds 41 = .ok (.getfield 92, 3) := by decide +kernel
theorem dX9_odds_44 : decode cX9_odds 44 = .ok (.getfield 95, 3) := by decide +kernel
theorem dX9_odds_47 : decode cX9_odds 47 = .ok (.invokevirtual 253, 3) := by decide +kernel
theorem dX9_odds_50 : decode cX9_odds 50 = .ok (.istore 4, 2) := by decide +kernel
theorem dX9_odds_52 : decode cX9_odds 52 = .ok (.iload 4, 2) := by decide +kernel
theorem dX9_odds_54 : decode cX9_odds 54 = .ok (.ifCond .lt 18, 3) := by decide +kernel
theorem dX9_odds_57 : decode cX9_odds 57 = .ok (.aload_n 0, 1) := by decide +kernel
theorem dX9_odds_58 : decode cX9_odds 58 = .ok (.getfield 12, 3) := by decide +kernel
theorem dX9_odds_61 : decode cX9_odds 61 = .ok (.getfield 92, 3) := by decide +kernel
theorem dX9_odds_64 : decode cX9_odds 64 = .ok (.getfield 95, 3) := by decide +kernel
theorem dX9_odds_67 : decode cX9_odds 67 = .ok (.bipush 12, 2) := by decide +kernel
theorem dX9_odds_69 : decode cX9_odds 69 = .ok (.if_icmp .lt 10, 3) := by decide +kernel
theorem dX9_odds_72 : decode cX9_odds 72 = .ok (.aload_n 0, 1) := by decide +kernel
theorem dX9_odds_73 : decode cX9_odds 73 = .ok (.ldc 216, 2) := by decide +kernel
theorem dX9_odds_75 : decode cX9_odds 75 = .ok (.invokevirtual 88, 3) := by decide +kernel
theorem dX9_odds_78 : decode cX9_odds 78 = .ok (.ireturn, 1) := by decide +kernel
theorem dX9_odds_79 : decode cX9_odds 79 = .ok (.aload_n 0, 1) := by decide +kernel
theorem dX9_odds_80 : decode cX9_odds 80 = .ok (.getfield 29, 3) := by decide +kernel
theorem dX9_odds_83 : decode cX9_odds 83 = .ok (.iload_n 1, 1) := by decide +kernel
theorem dX9_odds_84 : decode cX9_odds 84 = .ok (.invokevirtual 148, 3) := by decide +kernel
theorem dX9_odds_87 : decode cX9_odds 87 = .ok (.aload_n 0, 1) := by decide +kernel
theorem dX9_odds_88 : decode cX9_odds 88 = .ok (.getfield 29, 3) := by decide +kernel
theorem dX9_odds_91 : decode cX9_odds 91 = .ok (.iload_n 2, 1) := by decide +kernel
theorem dX9_odds_92 : decode cX9_odds 92 = .ok (.putfield 123, 3) := by decide +kernel
theorem dX9_odds_95 : decode cX9_odds 95 = .ok (.aload_n 0, 1) := by decide +kernel
theorem dX9_odds_96 : decode cX9_odds 96 = .ok (.aload_n 0, 1) := by decide +kernel
theorem dX9_odds_97 : decode cX9_odds 97 = .ok (.getfield 12, 3) := by decide +kernel
theorem dX9_odds_100 : decode cX9_odds 100 = .ok (.getfield 92, 3) := by decide +kernel
theorem dX9_odds_103 : decode cX9_odds 103 = .ok (.getfield 107, 3) := by decide +kernel
theorem dX9_odds_106 : decode cX9_odds 106 = .ok (.iload 4, 2) := by decide +kernel
theorem dX9_odds_108 : decode cX9_odds 108 = .ok (.aaload, 1) := by decide +kernel
theorem dX9_odds_109 : decode cX9_odds 109 = .ok (.invokevirtual 268, 3) := by decide +kernel
theorem dX9_odds_112 : decode cX9_odds 112 = .ok (.istore 5, 2) := by decide +kernel
theorem dX9_odds_114 : decode cX9_odds 114 = .ok (.iload 5, 2) := by decide +kernel
theorem dX9_odds_116 : decode cX9_odds 116 = .ok (.invokestatic 271, 3) := by decide +kernel
theorem dX9_odds_119 : decode cX9_odds 119 = .ok (.istore 6, 2) := by decide +kernel
theorem dX9_odds_121 : decode cX9_odds 121 = .ok (.iload_n 3, 1) := by decide +kernel
theorem dX9_odds_122 : decode cX9_odds 122 = .ok (.ifCond .ne 11, 3) := by decide +kernel
theorem dX9_odds_125 : decode cX9_odds 125 = .ok (.iload 5, 2) := by decide +kernel
theorem dX9_odds_127 : decode cX9_odds 127 = .ok (.iload 6, 2) := by decide +kernel
theorem dX9_odds_129 : decode cX9_odds 129 = .ok (.idiv, 1) := by decide +kernel
theorem dX9_odds_130 : decode cX9_odds 130 = .ok (.goto 8, 3) := by decide +kernel
theorem dX9_odds_133 : decode cX9_odds 133 = .ok (.bipush 72, 2) := by decide +kernel
theorem dX9_odds_135 : decode cX9_odds 135 = .ok (.iload 6, 2) := by decide +kernel
theorem dX9_odds_137 : decode cX9_odds 137 = .ok (.idiv, 1) := by decide +kernel
theorem dX9_odds_138 : decode cX9_odds 138 = .ok (.ireturn, 1) := by decide +kernel
theorem dX9_fits_0 : decode cX9_fits 0 = .ok (.iload_n 1, 1) := by decide +kernel
theorem dX9_fits_1 : decode cX9_fits 1 = .ok (.invokestatic 274, 3) := by decide +kernel
theorem dX9_fits_4 : decode cX9_fits 4 = .ok (.ifCond .ne 10, 3) := by decide +kernel
theorem dX9_fits_7 : decode cX9_fits 7 = .ok (.aload_n 0, 1) := by decide +kernel
theorem dX9_fits_8 : decode cX9_fits 8 = .ok (.ldc 87, 2) := by decide +kernel
theorem dX9_fits_10 : decode cX9_fits 10 = .ok (.invokevirtual 88, 3) := by decide +kernel
theorem dX9_fits_13 : decode cX9_fits 13 = .ok (.ireturn, 1) := by decide +kernel
theorem dX9_fits_14 : decode cX9_fits 14 = .ok (.aload_n 0, 1) := by decide +kernel
theorem dX9_fits_15 : decode cX9_fits 15 = .ok (.getfield 68, 3) := by decide +kernel
theorem dX9_fits_18 : decode cX9_fits 18 = .ok (.iload_n 1, 1) := by decide +kernel
theorem dX9_fits_19 : decode cX9_fits 19 = .ok (.aaload, 1) := by decide +kernel
theorem dX9_fits_20 : decode cX9_fits 20 = .ok (.astore_n 2, 1) := by decide +kernel
theorem dX9_fits_21 : decode cX9_fits 21 = .ok (.aload_n 2, 1) := by decide +kernel
theorem dX9_fits_22 : decode cX9_fits 22 = .ok (.invokevirtual 277, 3) := by decide +kernel
theorem dX9_fits_25 : decode cX9_fits 25 = .ok (.ifCond .eq 11, 3) := by decide +kernel
theorem dX9_fits_28 : decode cX9_fits 28 = .ok (.aload_n 0, 1) := by decide +kernel
theorem dX9_fits_29 : decode cX9_fits 29 = .ok (.ldc_w 280, 3) := by decide +kernel
theorem dX9_fits_32 : decode cX9_fits 32 = .ok (.invokevirtual 88, 3) := by decide +kernel
theorem dX9_fits_35 : decode cX9_fits 35 = .ok (.ireturn, 1) := by decide +kernel
theorem dX9_fits_36 : decode cX9_fits 36 = .ok (.aload_n 0, 1) := by decide +kernel
theorem dX9_fits_37 : decode cX9_fits 37 = .ok (.getfield 22, 3) := by decide +kernel
theorem dX9_fits_40 : decode cX9_fits 40 = .ok (.aload_n 0, 1) := by decide +kernel
theorem dX9_fits_41 : decode cX9_fits 41 = .ok (.getfield 12, 3) := by decide +kernel
theorem dX9_fits_44 : decode cX9_fits 44 = .ok (.getfield 92, 3) := by decide +kernel
theorem dX9_fits_47 : decode cX9_fits 47 = .ok (.invokevirtual 238, 3) := by decide +kernel
theorem dX9_fits_50 : decode cX9_fits 50 = .ok (.iconst 0, 1) := by decide +kernel
theorem dX9_fits_51 : decode cX9_fits 51 = .ok (.istore_n 3, 1) := by decide +kernel
theorem dX9_fits_52 : decode cX9_fits 52 = .ok (.iload_n 3, 1) := by decide +kernel
theorem dX9_fits_53 : decode cX9_fits 53 = .ok (.bipush 60, 2) := by decide +kernel
theorem dX9_fits_55 : decode cX9_fits 55 = .ok (.if_icmp .gt 29, 3) := by decide +kernel
theorem dX9_fits_58 : decode cX9_fits 58 = .ok (.aload_n 2, 1) := by decide +kernel
theorem dX9_fits_59 : decode cX9_fits 59 = .ok (.aload_n 0, 1) := by decide +kernel
theorem dX9_fits_60 : decode cX9_fits 60 = .ok (.getfield 22, 3) := by decide +kernel
theorem dX9_fits_63 : decode cX9_fits 63 = .ok (.invokestatic 281, 3) := by decide +kernel
theorem dX9_fits_66 : decode cX9_fits 66 = .ok (.ifCond .eq 5, 3) := by decide +kernel
theorem dX9_fits_69 : decode cX9_fits 69 = .ok (.iload_n 3, 1) := by decide +kernel
theorem dX9_fits_70 : decode cX9_fits 70 = .ok (.ireturn, 1) := by decide +kernel
theorem dX9_fits_71 : decode cX9_fits 71 = .ok (.aload_n 0, 1) := by decide +kernel
theorem dX9_fits_72 : decode cX9_fits 72 = .ok (.getfield 22, 3) := by decide +kernel
theorem dX9_fits_75 : decode cX9_fits 75 = .ok (.invokevirtual 285, 3) := by decide +kernel
theorem dX9_fits_78 : decode cX9_fits 78 = .ok (.iinc 3 1, 3) := by decide +kernel
theorem dX9_fits_81 : decode cX9_fits 81 = .ok (.goto (-29), 3) := by decide +kernel
theorem dX9_fits_84 : decode cX9_fits 84 = .ok (.aload_n 0, 1) := by decide +kernel
theorem dX9_fits_85 : decode cX9_fits 85 = .ok (.ldc_w 280, 3) := by decide +kernel
theorem dX9_fits_88 : decode cX9_fits 88 = .ok (.invokevirtual 88, 3) := by decide +kernel
theorem dX9_fits_91 : decode cX9_fits 91 = .ok (.ireturn, 1) := by decide +kernel
theorem dX9_voice_0 : decode cX9_voice 0 = .ok (.aload_n 0, 1) := by decide +kernel
theorem dX9_voice_1 : decode cX9_voice 1 = .ok (.iload_n 1, 1) := by decide +kernel
theorem dX9_voice_2 : decode cX9_voice 2 = .ok (.invokevirtual 104, 3) := by decide +kernel
theorem dX9_voice_5 : decode cX9_voice 5 = .ok (.ifCond .eq 12, 3) := by decide +kernel
theorem dX9_voice_8 : decode cX9_voice 8 = .ok (.iload_n 2, 1) := by decide +kernel
theorem dX9_voice_9 : decode cX9_voice 9 = .ok (.ifCond .lt 8, 3) := by decide +kernel
theorem dX9_voice_12 : decode cX9_voice 12 = .ok (.iload_n 2, 1) := by decide +kernel
theorem dX9_voice_13 : decode cX9_voice 13 = .ok (.iconst 4, 1) := by decide +kernel
theorem dX9_voice_14 : decode cX9_voice 14 = .ok (.if_icmp .lt 10, 3) := by decide +kernel
theorem dX9_voice_17 : decode cX9_voice 17 = .ok (.aload_n 0, 1) := by decide +kernel
theorem dX9_voice_18 : decode cX9_voice 18 = .ok (.ldc 87, 2) := by decide +kernel
theorem dX9_voice_20 : decode cX9_voice 20 = .ok (.invokevirtual 88, 3) := by decide +kernel
theorem dX9_voice_23 : decode cX9_voice 23 = .ok (.ireturn, 1) := by decide +kernel
theorem dX9_voice_24 : decode cX9_voice 24 = .ok (.aload_n 0, 1) := by decide +kernel
theorem dX9_voice_25 : decode cX9_voice 25 = .ok (.getfield 62, 3) := by decide +kernel
theorem dX9_voice_28 : decode cX9_voice 28 = .ok (.aload_n 0, 1) := by decide +kernel
theorem dX9_voice_29 : decode cX9_voice 29 = .ok (.getfield 12, 3) := by decide +kernel
theorem dX9_voice_32 : decode cX9_voice 32 = .ok (.getfield 92, 3) := by decide +kernel
theorem dX9_voice_35 : decode cX9_voice 35 = .ok (.getfield 107, 3) := by decide +kernel
theorem dX9_voice_38 : decode cX9_voice 38 = .ok (.iload_n 1, 1) := by decide +kernel
theorem dX9_voice_39 : decode cX9_voice 39 = .ok (.aaload, 1) := by decide +kernel
theorem dX9_voice_40 : decode cX9_voice 40 = .ok (.iload_n 1, 1) := by decide +kernel
theorem dX9_voice_41 : decode cX9_voice 41 = .ok (.iload_n 2, 1) := by decide +kernel
theorem dX9_voice_42 : decode cX9_voice 42 = .ok (.iload_n 3, 1) := by decide +kernel
theorem dX9_voice_43 : decode cX9_voice 43 = .ok (.invokevirtual 288, 3) := by decide +kernel
theorem dX9_voice_46 : decode cX9_voice 46 = .ok (.istore 4, 2) := by decide +kernel
theorem dX9_voice_48 : decode cX9_voice 48 = .ok (.aload_n 0, 1) := by decide +kernel
theorem dX9_voice_49 : decode cX9_voice 49 = .ok (.getfield 62, 3) := by decide +kernel
theorem dX9_voice_52 : decode cX9_voice 52 = .ok (.getfield 292, 3) := by decide +kernel
theorem dX9_voice_55 : decode cX9_voice 55 = .ok (.ifCond .eq 13, 3) := by decide +kernel
theorem dX9_voice_58 : decode cX9_voice 58 = .ok (.aload_n 0, 1) := by decide +kernel
theorem dX9_voice_59 : decode cX9_voice 59 = .ok (.ldc_w 295, 3) := by decide +kernel
theorem dX9_voice_62 : decode cX9_voice 62 = .ok (.invokevirtual 88, 3) := by decide +kernel
theorem dX9_voice_65 : decode cX9_voice 65 = .ok (.goto 5, 3) := by decide +kernel
theorem dX9_voice_68 : decode cX9_voice 68 = .ok (.iload 4, 2) := by decide +kernel
theorem dX9_voice_70 : decode cX9_voice 70 = .ok (.ireturn, 1) := by decide +kernel
theorem dX9_body_0 : decode cX9_body 0 = .ok (.iload_n 1, 1) := by decide +kernel
theorem dX9_body_1 : decode cX9_body 1 = .ok (.ifCond .lt 26, 3) := by decide +kernel
theorem dX9_body_4 : decode cX9_body 4 = .ok (.iload_n 1, 1) := by decide +kernel
theorem dX9_body_5 : decode cX9_body 5 = .ok (.aload_n 0, 1) := by decide +kernel
theorem dX9_body_6 : decode cX9_body 6 = .ok (.getfield 62, 3) := by decide +kernel
theorem dX9_body_9 : decode cX9_body 9 = .ok (.getfield 296, 3) := by decide +kernel
theorem dX9_body_12 : decode cX9_body 12 = .ok (.if_icmp .ge 15, 3) := by decide +kernel
theorem dX9_body_15 : decode cX9_body 15 = .ok (.aload_n 0, 1) := by decide +kernel
theorem dX9_body_16 : decode cX9_body 16 = .ok (.getfield 62, 3) := by decide +kernel
theorem dX9_body_19 : decode cX9_body 19 = .ok (.getfield 299, 3) := by decide +kernel
theorem dX9_body_22 : decode cX9_body 22 = .ok (.iload_n 1, 1) := by decide +kernel
theorem dX9_body_23 : decode cX9_body 23 = .ok (.iaload, 1) := by decide +kernel
theorem dX9_body_24 : decode cX9_body 24 = .ok (.goto 10, 3) := by decide +kernel
theorem dX9_body_27 : decode cX9_body 27 = .ok (.aload_n 0, 1) := by decide +kernel
theorem dX9_body_28 : decode cX9_body 28 = .ok (.ldc_w 280, 3) := by decide +kernel
theorem dX9_body_31 : decode cX9_body 31 = .ok (.invokevirtual 88, 3) := by decide +kernel
theorem dX9_body_34 : decode cX9_body 34 = .ok (.ireturn, 1) := by decide +kernel
theorem dX9_sheet_0 : decode cX9_sheet 0 = .ok (.iload_n 1, 1) := by decide +kernel
theorem dX9_sheet_1 : decode cX9_sheet 1 = .ok (.invokestatic 274, 3) := by decide +kernel
theorem dX9_sheet_4 : decode cX9_sheet 4 = .ok (.ifCond .eq 25, 3) := by decide +kernel
theorem dX9_sheet_7 : decode cX9_sheet 7 = .ok (.iload_n 2, 1) := by decide +kernel
theorem dX9_sheet_8 : decode cX9_sheet 8 = .ok (.ifCond .eq 28, 3) := by decide +kernel
theorem dX9_sheet_11 : decode cX9_sheet 11 = .ok (.iload_n 2, 1) := by decide +kernel
theorem dX9_sheet_12 : decode cX9_sheet 12 = .ok (.bipush 8, 2) := by decide +kernel
theorem dX9_sheet_14 : decode cX9_sheet 14 = .ok (.if_icmp .eq 22, 3) := by decide +kernel
theorem dX9_sheet_17 : decode cX9_sheet 17 = .ok (.iload_n 2, 1) := by decide +kernel
theorem dX9_sheet_18 : decode cX9_sheet 18 = .ok (.bipush 16, 2) := by decide +kernel
theorem dX9_sheet_20 : decode cX9_sheet 20 = .ok (.if_icmp .eq 16, 3) := by decide +kernel
theorem dX9_sheet_23 : decode cX9_sheet 23 = .ok (.iload_n 2, 1) := by decide +kernel
theorem dX9_sheet_24 : decode cX9_sheet 24 = .ok (.bipush 32, 2) := by decide +kernel
theorem dX9_sheet_26 : decode cX9_sheet 26 = .ok (.if_icmp .eq 10, 3) := by decide +kernel
theorem dX9_sheet_29 : decode cX9_sheet 29 = .ok (.aload_n 0, 1) := by decide +kernel
theorem dX9_sheet_30 : decode cX9_sheet 30 = .ok (.ldc 87, 2) := by decide +kernel
theorem dX9_sheet_32 : decode cX9_sheet 32 = .ok (.invokevirtual 88, 3) := by decide +kernel
theorem dX9_sheet_35 : decode cX9_sheet 35 = .ok (.ireturn, 1) := by decide +kernel
theorem dX9_sheet_36 : decode cX9_sheet 36 = .ok (.iload_n 2, 1) := by decide +kernel
theorem dX9_sheet_37 : decode cX9_sheet 37 = .ok (.ifCond .ne 16, 3) := by decide +kernel
theorem dX9_sheet_40 : decode cX9_sheet 40 = .ok (.aload_n 0, 1) := by decide +kernel
theorem dX9_sheet_41 : decode cX9_sheet 41 = .ok (.getfield 68, 3) := by decide +kernel
theorem dX9_sheet_44 : decode cX9_sheet 44 = .ok (.iload_n 1, 1) := by decide +kernel
theorem dX9_sheet_45 : decode cX9_sheet 45 = .ok (.aaload, 1) := by decide +kernel
theorem dX9_sheet_46 : decode cX9_sheet 46 = .ok (.iconst 0, 1) := by decide +kernel
theorem dX9_sheet_47 : decode cX9_sheet 47 = .ok (.iconst 0, 1) := by decide +kernel
theorem dX9_sheet_48 : decode cX9_sheet 48 = .ok (.invokevirtual 302, 3) := by decide +kernel
theorem dX9_sheet_51 : decode cX9_sheet 51 = .ok (.iconst 1, 1) := by decide +kernel
theorem dX9_sheet_52 : decode cX9_sheet 52 = .ok (.ireturn, 1) := by decide +kernel
theorem dX9_sheet_53 : decode cX9_sheet 53 = .ok (.iload_n 3, 1) := by decide +kernel
theorem dX9_sheet_54 : decode cX9_sheet 54 = .ok (.ifCond .ge 10, 3) := by decide +kernel
theorem dX9_sheet_57 : decode cX9_sheet 57 = .ok (.aload_n 0, 1) := by decide +kernel
theorem dX9_sheet_58 : decode cX9_sheet 58 = .ok (.ldc 216, 2) := by decide +kernel
theorem dX9_sheet_60 : decode cX9_sheet 60 = .ok (.invokevirtual 88, 3) := by decide +kernel
theorem dX9_sheet_63 : decode cX9_sheet 63 = .ok (.ireturn, 1) := by decide +kernel
theorem dX9_sheet_64 : decode cX9_sheet 64 = .ok (.iload_n 3, 1) := by decide +kernel
theorem dX9_sheet_65 : decode cX9_sheet 65 = .ok (.bipush 24, 2) := by decide +kernel
theorem dX9_sheet_67 : decode cX9_sheet 67 = .ok (.if_icmp .le 10, 3) := by decide +kernel
theorem dX9_sheet_70 : decode cX9_sheet 70 = .ok (.aload_n 0, 1) := by decide +kernel
theorem dX9_sheet_71 : decode cX9_sheet 71 = .ok (.ldc 87, 2) := by decide +kernel
theorem dX9_sheet_73 : decode cX9_sheet 73 = .ok (.invokevirtual 88, 3) := by decide +kernel
theorem dX9_sheet_76 : decode cX9_sheet 76 = .ok (.ireturn, 1) := by decide +kernel
theorem dX9_sheet_77 : decode cX9_sheet 77 = .ok (.aload_n 0, 1) := by decide +kernel
theorem dX9_sheet_78 : decode cX9_sheet 78 = .ok (.getfield 68, 3) := by decide +kernel
theorem dX9_sheet_81 : decode cX9_sheet 81 = .ok (.iload_n 1, 1) := by decide +kernel
theorem dX9_sheet_82 : decode cX9_sheet 82 = .ok (.aaload, 1) := by decide +kernel
theorem dX9_sheet_83 : decode cX9_sheet 83 = .ok (.iload_n 2, 1) := by decide +kernel
theorem dX9_sheet_84 : decode cX9_sheet 84 = .ok (.iload_n 3, 1) := by decide +kernel
theorem dX9_sheet_85 : decode cX9_sheet 85 = .ok (.invokevirtual 302, 3) := by decide +kernel
theorem dX9_sheet_88 : decode cX9_sheet 88 = .ok (.iconst 1, 1) := by decide +kernel
theorem dX9_sheet_89 : decode cX9_sheet 89 = .ok (.ireturn, 1) := by decide +kernel
theorem dX9_put_0 : decode cX9_put 0 = .ok (.iload_n 1, 1) := by decide +kernel
theorem dX9_put_1 : decode cX9_put 1 = .ok (.invokestatic 274, 3) := by decide +kernel
theorem dX9_put_4 : decode cX9_put 4 = .ok (.ifCond .ne 10, 3) := by decide +kernel
theorem dX9_put_7 : decode cX9_put 7 = .ok (.aload_n 0, 1) := by decide +kernel
theorem dX9_put_8 : decode cX9_put 8 = .ok (.ldc 87, 2) := by decide +kernel
theorem dX9_put_10 : decode cX9_put 10 = .ok (.invokevirtual 88, 3) := by decide +kernel
theorem dX9_put_13 : decode cX9_put 13 = .ok (.ireturn, 1) := by decide +kernel
theorem dX9_put_14 : decode cX9_put 14 = .ok (.aload_n 0, 1) := by decide +kernel
theorem dX9_put_15 : decode cX9_put 15 = .ok (.getfield 68, 3) := by decide +kernel
theorem dX9_put_18 : decode cX9_put 18 = .ok (.iload_n 1, 1) := by decide +kernel
theorem dX9_put_19 : decode cX9_put 19 = .ok (.aaload, 1) := by decide +kernel
theorem dX9_put_20 : decode cX9_put 20 = .ok (.astore 4, 2) := by decide +kernel
theorem dX9_put_22 : decode cX9_put 22 = .ok (.aload 4, 2) := by decide +kernel
theorem dX9_put_24 : decode cX9_put 24 = .ok (.invokevirtual 277, 3) := by decide +kernel
theorem dX9_put_27 : decode cX9_put 27 = .ok (.ifCond .eq 11, 3) := by decide +kernel
theorem dX9_put_30 : decode cX9_put 30 = .ok (.aload_n 0, 1) := by decide +kernel
theorem dX9_put_31 : decode cX9_put 31 = .ok (.ldc_w 280, 3) := by decide +kernel
theorem dX9_put_34 : decode cX9_put 34 = .ok (.invokevirtual 88, 3) := by decide +kernel
theorem dX9_put_37 : decode cX9_put 37 = .ok (.ireturn, 1) := by decide +kernel
theorem dX9_put_38 : decode cX9_put 38 = .ok (.iload_n 2, 1) := by decide +kernel
theorem dX9_put_39 : decode cX9_put 39 = .ok (.ifCond .lt 12, 3) := by decide +kernel
theorem dX9_put_42 : decode cX9_put 42 = .ok (.iload_n 2, 1) := by decide +kernel
theorem dX9_put_43 : decode cX9_put 43 = .ok (.aload 4, 2) := by decide +kernel
theorem dX9_put_45 : decode cX9_put 45 = .ok (.getfield 306, 3) := by decide +kernel
theorem dX9_put_48 : decode cX9_put 48 = .ok (.if_icmp .lt 10, 3) := by decide +kernel
theorem dX9_put_51 : decode cX9_put 51 = .ok (.aload_n 0, 1) := by decide +kernel
theorem dX9_put_52 : decode cX9_put 52 = .ok (.ldc 87, 2) := by decide +kernel
theorem dX9_put_54 : decode cX9_put 54 = .ok (.invokevirtual 88, 3) := by decide +kernel
theorem dX9_put_57 : decode cX9_put 57 = .ok (.ireturn, 1) := by decide +kernel
theorem dX9_put_58 : decode cX9_put 58 = .ok (.aload 4, 2) := by decide +kernel
theorem dX9_put_60 : decode cX9_put 60 = .ok (.iload_n 2, 1) := by decide +kernel
theorem dX9_put_61 : decode cX9_put 61 = .ok (.iload_n 3, 1) := by decide +kernel
theorem dX9_put_62 : decode cX9_put 62 = .ok (.invokevirtual 307, 3) := by decide +kernel
theorem dX9_put_65 : decode cX9_put 65 = .ok (.iconst 1, 1) := by decide +kernel
theorem dX9_put_66 : decode cX9_put 66 = .ok (.ireturn, 1) := by decide +kernel
theorem dX9_move_0 : decode cX9_move 0 = .ok (.iload_n 1, 1) := by decide +kernel
theorem dX9_move_1 : decode cX9_move 1 = .ok (.invokestatic 274, 3) := by decide +kernel
theorem dX9_move_4 : decode cX9_move 4 = .ok (.ifCond .eq 10, 3) := by decide +kernel
theorem dX9_move_7 : decode cX9_move 7 = .ok (.iload_n 3, 1) := by decide +kernel
theorem dX9_move_8 : decode cX9_move 8 = .ok (.invokestatic 274, 3) := by decide +kernel
theorem dX9_move_11 : decode cX9_move 11 = .ok (.ifCond .ne 10, 3) := by decide +kernel
theorem dX9_move_14 : decode cX9_move 14 = .ok (.aload_n 0, 1) := by decide +kernel
theorem dX9_move_15 : decode cX9_move 15 = .ok (.ldc 87, 2) := by decide +kernel
theorem dX9_move_17 : decode cX9_move 17 = .ok (.invokevirtual 88, 3) := by decide +kernel
theorem dX9_move_20 : decode cX9_move 20 = .ok (.ireturn, 1) := by decide +kernel
theorem dX9_move_21 : decode cX9_move 21 = .ok (.aload_n 0, 1) := by decide +kernel
theorem dX9_move_22 : decode cX9_move 22 = .ok (.getfield 68, 3) := by decide +kernel
theorem dX9_move_25 : decode cX9_move 25 = .ok (.iload_n 1, 1) := by decide +kernel
theorem dX9_move_26 : decode cX9_move 26 = .ok (.aaload, 1) := by decide +kernel
theorem dX9_move_27 : decode cX9_move 27 = .ok (.astore 6, 2) := by decide +kernel
theorem dX9_move_29 : decode cX9_move 29 = .ok (.aload_n 0, 1) := by decide +kernel
theorem dX9_move_30 : decode cX9_move 30 = .ok (.getfield 68, 3) := by decide +kernel
theorem dX9_move_33 : decode cX9_move 33 = .ok (.iload_n 3, 1) := by decide +kernel
theorem dX9_move_34 : decode cX9_move 34 = .ok (.aaload, 1) := by decide +kernel
theorem dX9_move_35 : decode cX9_move 35 = .ok (.astore 7, 2) := by decide +kernel
theorem dX9_move_37 : decode cX9_move 37 = .ok (.aload 6, 2) := by decide +kernel
theorem dX9_move_39 : decode cX9_move 39 = .ok (.invokevirtual 277, 3) := by decide +kernel
theorem dX9_move_42 : decode cX9_move 42 = .ok (.ifCond .ne 11, 3) := by decide +kernel
theorem dX9_move_45 : decode cX9_move 45 = .ok (.aload 7, 2) := by decide +kernel
theorem dX9_move_47 : decode cX9_move 47 = .ok (.invokevirtual 277, 3) := by decide +kernel
theorem dX9_move_50 : decode cX9_move 50 = .ok (.ifCond .eq 11, 3) := by decide +kernel
theorem dX9_move_53 : decode cX9_move 53 = .ok (.aload_n 0, 1) := by decide +kernel
theorem dX9_move_54 : decode cX9_move 54 = .ok (.ldc_w 280, 3) := by decide +kernel
theorem dX9_move_57 : decode cX9_move 57 = .ok (.invokevirtual 88, 3) := by decide +kernel
theorem dX9_move_60 : decode cX9_move 60 = .ok (.ireturn, 1) := by decide +kernel
theorem dX9_move_61 : decode cX9_move 61 = .ok (.aload 6, 2) := by decide +kernel
theorem dX9_move_63 : decode cX9_move 63 = .ok (.getfield 310, 3) := by decide +kernel
theorem dX9_move_66 : decode cX9_move 66 = .ok (.aload 7, 2) := by decide +kernel
theorem dX9_move_68 : decode cX9_move 68 = .ok (.getfield 310, 3) := by decide +kernel
theorem dX9_move_71 : decode cX9_move 71 = .ok (.if_icmp .eq 10, 3) := by decide +kernel
theorem dX9_move_74 : decode cX9_move 74 = .ok (.aload_n 0, 1) := by decide +kernel
theorem dX9_move_75 : decode cX9_move 75 = .ok (.ldc 157, 2) := by decide +kernel
theorem dX9_move_77 : decode cX9_move 77 = .ok (.invokevirtual 88, 3) := by decide +kernel
theorem dX9_move_80 : decode cX9_move 80 = .ok (.ireturn, 1) := by decide +kernel
theorem dX9_move_81 : decode cX9_move 81 = .ok (.aload 6, 2) := by decide +kernel
theorem dX9_move_83 : decode cX9_move 83 = .ok (.iload_n 2, 1) := by decide +kernel
theorem dX9_move_84 : decode cX9_move 84 = .ok (.iload 5, 2) := by decide +kernel
theorem dX9_move_86 : decode cX9_move 86 = .ok (.invokevirtual 313, 3) := by decide +kernel
theorem dX9_move_89 : decode cX9_move 89 = .ok (.ifCond .eq 15, 3) := by decide +kernel
theorem dX9_move_92 : decode cX9_move 92 = .ok (.aload 7, 2) := by decide +kernel
theorem dX9_move_94 : decode cX9_move 94 = .ok (.iload 4, 2) := by decide +kernel
theorem dX9_move_96 : decode cX9_move 96 = .ok (.iload 5, 2) := by decide +kernel
theorem dX9_move_98 : decode cX9_move 98 = .ok (.invokevirtual 313, 3) := by decide +kernel
theorem dX9_move_101 : decode cX9_move 101 = .ok (.ifCond .ne 10, 3) := by decide +kernel
theorem dX9_move_104 : decode cX9_move 104 = .ok (.aload_n 0, 1) := by decide +kernel
theorem dX9_move_105 : decode cX9_move 105 = .ok (.ldc 87, 2) := by decide +kernel
theorem dX9_move_107 : decode cX9_move 107 = .ok (.invokevirtual 88, 3) := by decide +kernel
theorem dX9_move_110 : decode cX9_move 110 = .ok (.ireturn, 1) := by decide +kernel
theorem dX9_move_111 : decode cX9_move 111 = .ok (.aload 6, 2) := by decide +kernel
theorem dX9_move_113 : decode cX9_move 113 = .ok (.getfield 316, 3) := by decide +kernel
theorem dX9_move_116 : decode cX9_move 116 = .ok (.iload_n 2, 1) := by decide +kernel
theorem dX9_move_117 : decode cX9_move 117 = .ok (.aload 7, 2) := by decide +kernel
theorem dX9_move_119 : decode cX9_move 119 = .ok (.getfield 316, 3) := by decide +kernel
theorem dX9_move_122 : decode cX9_move 122 = .ok (.iload 4, 2) := by decide +kernel
theorem dX9_move_124 : decode cX9_move 124 = .ok (.iload 5, 2) := by decide +kernel
theorem dX9_move_126 : decode cX9_move 126 = .ok (.invokestatic 319, 3) := by decide +kernel
theorem dX9_move_129 : decode cX9_move 129 = .ok (.iload 5, 2) := by decide +kernel
theorem dX9_move_131 : decode cX9_move 131 = .ok (.ireturn, 1) := by decide +kernel
theorem dX9_lines_0 : decode cX9_lines 0 = .ok (.iload_n 1, 1) := by decide +kernel
theorem dX9_lines_1 : decode cX9_lines 1 = .ok (.invokestatic 274, 3) := by decide +kernel
theorem dX9_lines_4 : decode cX9_lines 4 = .ok (.ifCond .ne 10, 3) := by decide +kernel
theorem dX9_lines_7 : decode cX9_lines 7 = .ok (.aload_n 0, 1) := by decide +kernel
theorem dX9_lines_8 : decode cX9_lines 8 = .ok (.ldc 87, 2) := by decide +kernel
theorem dX9_lines_10 : decode cX9_lines 10 = .ok (.invokevirtual 88, 3) := by decide +kernel
theorem dX9_lines_13 : decode cX9_lines 13 = .ok (.ireturn, 1) := by decide +kernel
theorem dX9_lines_14 : decode cX9_lines 14 = .ok (.aload_n 0, 1) := by decide +kernel
theorem dX9_lines_15 : decode cX9_lines 15 = .ok (.getfield 68, 3) := by decide +kernel
theorem dX9_lines_18 : decode cX9_lines 18 = .ok (.iload_n 1, 1) := by decide +kernel
theorem dX9_lines_19 : decode cX9_lines 19 = .ok (.aaload, 1) := by decide +kernel
theorem dX9_lines_20 : decode cX9_lines 20 = .ok (.astore_n 2, 1) := by decide +kernel
theorem dX9_lines_21 : decode cX9_lines 21 = .ok (.aload_n 2, 1) := by decide +kernel
theorem dX9_lines_22 : decode cX9_lines 22 = .ok (.invokevirtual 277, 3) := by decide +kernel
theorem dX9_lines_25 : decode cX9_lines 25 = .ok (.ifCond .eq 11, 3) := by decide +kernel
theorem dX9_lines_28 : decode cX9_lines 28 = .ok (.aload_n 0, 1) := by decide +kernel
theorem dX9_lines_29 : decode cX9_lines 29 = .ok (.ldc_w 280, 3) := by decide +kernel
theorem dX9_lines_32 : decode cX9_lines 32 = .ok (.invokevirtual 88, 3) := by decide +kernel
theorem dX9_lines_35 : decode cX9_lines 35 = .ok (.ireturn, 1) := by decide +kernel
theorem dX9_lines_36 : decode cX9_lines 36 = .ok (.aload_n 2, 1) := by decide +kernel
theorem dX9_lines_37 : decode cX9_lines 37 = .ok (.getfield 306, 3) := by decide +kernel
theorem dX9_lines_40 : decode cX9_lines 40 = .ok (.aload_n 0, 1) := by decide +kernel
theorem dX9_lines_41 : decode cX9_lines 41 = .ok (.getfield 12, 3) := by decide +kernel
theorem dX9_lines_44 : decode cX9_lines 44 = .ok (.getfield 92, 3) := by decide +kernel
theorem dX9_lines_47 : decode cX9_lines 47 = .ok (.getfield 95, 3) := by decide +kernel
theorem dX9_lines_50 : decode cX9_lines 50 = .ok (.invokestatic 325, 3) := by decide +kernel
theorem dX9_lines_53 : decode cX9_lines 53 = .ok (.istore_n 3, 1) := by decide +kernel
theorem dX9_lines_54 : decode cX9_lines 54 = .ok (.iconst 0, 1) := by decide +kernel
theorem dX9_lines_55 : decode cX9_lines 55 = .ok (.istore 4, 2) := by decide +kernel
theorem dX9_lines_57 : decode cX9_lines 57 = .ok (.iload 4, 2) := by decide +kernel
theorem dX9_lines_59 : decode cX9_lines 59 = .ok (.iload_n 3, 1) := by decide +kernel
theorem dX9_lines_60 : decode cX9_lines 60 = .ok (.if_icmp .ge 45, 3) := by decide +kernel
theorem dX9_lines_63 : decode cX9_lines 63 = .ok (.aload_n 2, 1) := by decide +kernel
theorem dX9_lines_64 : decode cX9_lines 64 = .ok (.getfield 316, 3) := by decide +kernel
theorem dX9_lines_67 : decode cX9_lines 67 = .ok (.iload 4, 2) := by decide +kernel
theorem dX9_lines_69 : decode cX9_lines 69 = .ok (.iaload, 1) := by decide +kernel
theorem dX9_lines_70 : decode cX9_lines 70 = .ok (.invokestatic 81, 3) := by decide +kernel
theorem dX9_lines_73 : decode cX9_lines 73 = .ok (.ifCond .eq 32, 3) := by decide +kernel
theorem dX9_lines_76 : decode cX9_lines 76 = .ok (.aload_n 0, 1) := by decide +kernel
theorem dX9_lines_77 : decode cX9_lines 77 = .ok (.getfield 12, 3) := by decide +kernel
theorem dX9_lines_80 : decode cX9_lines 80 = .ok (.getfield 92, 3) := by decide +kernel
theorem dX9_lines_83 : decode cX9_lines 83 = .ok (.getfield 107, 3) := by decide +kernel
theorem dX9_lines_86 : decode cX9_lines 86 = .ok (.iload 4, 2) := by decide +kernel
theorem dX9_lines_88 : decode cX9_lines 88 = .ok (.aaload, 1) := by decide +kernel
theorem dX9_lines_89 : decode cX9_lines 89 = .ok (.aload_n 2, 1) := by decide +kernel
theorem dX9_lines_90 : decode cX9_lines 90 = .ok (.getfield 316, 3) := by decide +kernel
theorem dX9_lines_93 : decode cX9_lines 93 = .ok (.iload 4, 2) := by decide +kernel
theorem dX9_lines_95 : decode cX9_lines 95 = .ok (.iaload, 1) := by decide +kernel
theorem dX9_lines_96 : decode cX9_lines 96 = .ok (.invokevirtual 165, 3) := by decide +kernel
theorem dX9_lines_99 : decode cX9_lines 99 = .ok (.iinc 4 1, 3) := by decide +kernel
theorem dX9_lines_102 : decode cX9_lines 102 = .ok (.goto (-45), 3) := by decide +kernel
theorem dX9_lines_105 : decode cX9_lines 105 = .ok (.iload 4, 2) := by decide +kernel
theorem dX9_lines_107 : decode cX9_lines 107 = .ok (.ireturn, 1) := by decide +kernel
theorem dX9_judge_0 : decode cX9_judge 0 = .ok (.iload_n 1, 1) := by decide +kernel
theorem dX9_judge_1 : decode cX9_judge 1 = .ok (.invokestatic 274, 3) := by decide +kernel
theorem dX9_judge_4 : decode cX9_judge 4 = .ok (.ifCond .ne 10, 3) := by decide +kernel
theorem dX9_judge_7 : decode cX9_judge 7 = .ok (.aload_n 0, 1) := by decide +kernel
theorem dX9_judge_8 : decode cX9_judge 8 = .ok (.ldc 87, 2) := by decide +kernel
theorem dX9_judge_10 : decode cX9_judge 10 = .ok (.invokevirtual 88, 3) := by decide +kernel
theorem dX9_judge_13 : decode cX9_judge 13 = .ok (.ireturn, 1) := by decide +kernel
theorem dX9_judge_14 : decode cX9_judge 14 = .ok (.aload_n 0, 1) := by decide +kernel
theorem dX9_judge_15 : decode cX9_judge 15 = .ok (.getfield 68, 3) := by decide +kernel
theorem dX9_judge_18 : decode cX9_judge 18 = .ok (.iload_n 1, 1) := by decide +kernel
theorem dX9_judge_19 : decode cX9_judge 19 = .ok (.aaload, 1) := by decide +kernel
theorem dX9_judge_20 : decode cX9_judge 20 = .ok (.astore_n 2, 1) := by decide +kernel
theorem dX9_judge_21 : decode cX9_judge 21 = .ok (.aload_n 2, 1) := by decide +kernel
theorem dX9_judge_22 : decode cX9_judge 22 = .ok (.invokevirtual 277, 3) := by decide +kernel
theorem dX9_judge_25 : decode cX9_judge 25 = .ok (.ifCond .eq 11, 3) := by decide +kernel
theorem dX9_judge_28 : decode cX9_judge 28 = .ok (.aload_n 0, 1) := by decide +kernel
theorem dX9_judge_29 : decode cX9_judge 29 = .ok (.ldc_w 280, 3) := by decide +kernel
theorem dX9_judge_32 : decode cX9_judge 32 = .ok (.invokevirtual 88, 3) := by decide +kernel
theorem dX9_judge_35 : decode cX9_judge 35 = .ok (.ireturn, 1) := by decide +kernel
theorem dX9_judge_36 : decode cX9_judge 36 = .ok (.aload_n 2, 1) := by decide +kernel
theorem dX9_judge_37 : decode cX9_judge 37 = .ok (.getfield 306, 3) := by decide +kernel
theorem dX9_judge_40 : decode cX9_judge 40 = .ok (.aload_n 0, 1) := by decide +kernel
theorem dX9_judge_41 : decode cX9_judge 41 = .ok (.getfield 12, 3) := by decide +kernel
theorem dX9_judge_44 : decode cX9_judge 44 = .ok (.getfield 92, 3) := by decide +kernel
theorem dX9_judge_47 : decode cX9_judge 47 = .ok (.getfield 95, 3) := by decide +kernel
theorem dX9_judge_50 : decode cX9_judge 50 = .ok (.invokestatic 325, 3) := by decide +kernel
theorem dX9_judge_53 : decode cX9_judge 53 = .ok (.istore_n 3, 1) := by decide +kernel
theorem dX9_judge_54 : decode cX9_judge 54 = .ok (.iconst 0, 1) := by decide +kernel
theorem dX9_judge_55 : decode cX9_judge 55 = .ok (.istore 4, 2) := by decide +kernel
theorem dX9_judge_57 : decode cX9_judge 57 = .ok (.iload 4, 2) := by decide +kernel
theorem dX9_judge_59 : decode cX9_judge 59 = .ok (.iload_n 3, 1) := by decide +kernel
theorem dX9_judge_60 : decode cX9_judge 60 = .ok (.if_icmp .ge 39, 3) := by decide +kernel
theorem dX9_judge_63 : decode cX9_judge 63 = .ok (.aload_n 2, 1) := by decide +kernel
theorem dX9_judge_64 : decode cX9_judge 64 = .ok (.getfield 316, 3) := by decide +kernel
theorem dX9_judge_67 : decode cX9_judge 67 = .ok (.iload 4, 2) := by decide +kernel
theorem dX9_judge_69 : decode cX9_judge 69 = .ok (.iaload, 1) := by decide +kernel
theorem dX9_judge_70 : decode cX9_judge 70 = .ok (.aload_n 0, 1) := by decide +kernel
theorem dX9_judge_71 : decode cX9_judge 71 = .ok (.getfield 12, 3) := by decide +kernel
theorem dX9_judge_74 : decode cX9_judge 74 = .ok (.aload_n 0, 1) := by decide +kernel
theorem dX9_judge_75 : decode cX9_judge 75 = .ok (.getfield 12, 3) := by decide +kernel
theorem dX9_judge_78 : decode cX9_judge 78 = .ok (.getfield 92, 3) := by decide +kernel
theorem dX9_judge_81 : decode cX9_judge 81 = .ok (.getfield 107, 3) := by decide +kernel
theorem dX9_judge_84 : decode cX9_judge 84 = .ok (.iload 4, 2) := by decide +kernel
theorem dX9_judge_86 : decode cX9_judge 86 = .ok (.aaload, 1) := by decide +kernel
theorem dX9_judge_87 : decode cX9_judge 87 = .ok (.invokevirtual 141, 3) := by decide +kernel
theorem dX9_judge_90 : decode cX9_judge 90 = .ok (.if_icmp .ne 9, 3) := by decide +kernel
theorem dX9_judge_93 : decode cX9_judge 93 = .ok (.iinc 4 1, 3) := by decide +kernel
theorem dX9_judge_96 : decode cX9_judge 96 = .ok (.goto (-39), 3) := by decide +kernel
theorem dX9_judge_99 : decode cX9_judge 99 = .ok (.iload 4, 2) := by decide +kernel
theorem dX9_judge_101 : decode cX9_judge 101 = .ok (.ireturn, 1) := by decide +kernel
theorem dX9_image_0 : decode cX9_image 0 = .ok (.aload_n 0, 1) := by decide +kernel
theorem dX9_image_1 : decode cX9_image 1 = .ok (.getfield 16, 3) := by decide +kernel
theorem dX9_image_4 : decode cX9_image 4 = .ok (.aload_n 0, 1) := by decide +kernel
theorem dX9_image_5 : decode cX9_image 5 = .ok (.getfield 12, 3) := by decide +kernel
theorem dX9_image_8 : decode cX9_image 8 = .ok (.invokevirtual 331, 3) := by decide +kernel
theorem dX9_image_11 : decode cX9_image 11 = .ok (.aload_n 0, 1) := by decide +kernel
theorem dX9_image_12 : decode cX9_image 12 = .ok (.dup, 1) := by decide +kernel
theorem dX9_image_13 : decode cX9_image 13 = .ok (.getfield 334, 3) := by decide +kernel
theorem dX9_image_16 : decode cX9_image 16 = .ok (.iconst 1, 1) := by decide +kernel
theorem dX9_image_17 : decode cX9_image 17 = .ok (.iadd, 1) := by decide +kernel
theorem dX9_image_18 : decode cX9_image 18 = .ok (.putfield 334, 3) := by decide +kernel
theorem dX9_image_21 : decode cX9_image 21 = .ok (.aload_n 0, 1) := by decide +kernel
theorem dX9_image_22 : decode cX9_image 22 = .ok (.getfield 334, 3) := by decide +kernel
theorem dX9_image_25 : decode cX9_image 25 = .ok (.ireturn, 1) := by decide +kernel
theorem dX9_restore_0 : decode cX9_restore 0 = .ok (.aload_n 0, 1) := by decide +kernel
theorem dX9_restore_1 : decode cX9_restore 1 = .ok (.getfield 334, 3) := by decide +kernel
theorem dX9_restore_4 : decode cX9_restore 4 = .ok (.ifCond .ne 11, 3) := by decide +kernel
theorem dX9_restore_7 : decode cX9_restore 7 = .ok (.aload_n 0, 1) := by decide +kernel
theorem dX9_restore_8 : decode cX9_restore 8 = .ok (.ldc_w 280, 3) := by decide +kernel
theorem dX9_restore_11 : decode cX9_restore 11 = .ok (.invokevirtual 88, 3) := by decide +kernel
theorem dX9_restore_14 : decode cX9_restore 14 = .ok (.ireturn, 1) := by decide +kernel
theorem dX9_restore_15 : decode cX9_restore 15 = .ok (.aload_n 0, 1) := by decide +kernel
theorem dX9_restore_16 : decode cX9_restore 16 = .ok (.getfield 12, 3) := by decide +kernel
theorem dX9_restore_19 : decode cX9_restore 19 = .ok (.aload_n 0, 1) := by decide +kernel
theorem dX9_restore_20 : decode cX9_restore 20 = .ok (.getfield 16, 3) := by decide +kernel
theorem dX9_restore_23 : decode cX9_restore 23 = .ok (.invokevirtual 331, 3) := by decide +kernel
theorem dX9_restore_26 : decode cX9_restore 26 = .ok (.aload_n 0, 1) := by decide +kernel
theorem dX9_restore_27 : decode cX9_restore 27 = .ok (.getfield 12, 3) := by decide +kernel
theorem dX9_restore_30 : decode cX9_restore 30 = .ok (.getfield 92, 3) := by decide +kernel
theorem dX9_restore_33 : decode cX9_restore 33 = .ok (.getfield 213, 3) := by decide +kernel
theorem dX9_restore_36 : decode cX9_restore 36 = .ok (.ireturn, 1) := by decide +kernel
theorem dX9_tell_0 : decode cX9_tell 0 = .ok (.aload_n 0, 1) := by decide +kernel
theorem dX9_tell_1 : decode cX9_tell 1 = .ok (.getfield 12, 3) := by decide +kernel
theorem dX9_tell_4 : decode cX9_tell 4 = .ok (.getfield 337, 3) := by decide +kernel
theorem dX9_tell_7 : decode cX9_tell 7 = .ok (.bipush 24, 2) := by decide +kernel
theorem dX9_tell_9 : decode cX9_tell 9 = .ok (.if_icmp .lt 10, 3) := by decide +kernel
theorem dX9_tell_12 : decode cX9_tell 12 = .ok (.aload_n 0, 1) := by decide +kernel
theorem dX9_tell_13 : decode cX9_tell 13 = .ok (.ldc 99, 2) := by decide +kernel
theorem dX9_tell_15 : decode cX9_tell 15 = .ok (.invokevirtual 88, 3) := by decide +kernel
theorem dX9_tell_18 : decode cX9_tell 18 = .ok (.ireturn, 1) := by decide +kernel
theorem dX9_tell_19 : decode cX9_tell 19 = .ok (.aload_n 0, 1) := by decide +kernel
theorem dX9_tell_20 : decode cX9_tell 20 = .ok (.getfield 12, 3) := by decide +kernel
theorem dX9_tell_23 : decode cX9_tell 23 = .ok (.getfield 340, 3) := by decide +kernel
theorem dX9_tell_26 : decode cX9_tell 26 = .ok (.aload_n 0, 1) := by decide +kernel
theorem dX9_tell_27 : decode cX9_tell 27 = .ok (.getfield 12, 3) := by decide +kernel
theorem dX9_tell_30 : decode cX9_tell 30 = .ok (.getfield 337, 3) := by decide +kernel
theorem dX9_tell_33 : decode cX9_tell 33 = .ok (.iload_n 1, 1) := by decide +kernel
theorem dX9_tell_34 : decode cX9_tell 34 = .ok (.iastore, 1) := by decide +kernel
theorem dX9_tell_35 : decode cX9_tell 35 = .ok (.aload_n 0, 1) := by decide +kernel
theorem dX9_tell_36 : decode cX9_tell 36 = .ok (.getfield 12, 3) := by decide +kernel
theorem dX9_tell_39 : decode cX9_tell 39 = .ok (.dup, 1) := by decide +kernel
theorem dX9_tell_40 : decode cX9_tell 40 = .ok (.getfield 337, 3) := by decide +kernel
theorem dX9_tell_43 : decode cX9_tell 43 = .ok (.iconst 1, 1) := by decide +kernel
theorem dX9_tell_44 : decode cX9_tell 44 = .ok (.iadd, 1) := by decide +kernel
theorem dX9_tell_45 : decode cX9_tell 45 = .ok (.putfield 337, 3) := by decide +kernel
theorem dX9_tell_48 : decode cX9_tell 48 = .ok (.aload_n 0, 1) := by decide +kernel
theorem dX9_tell_49 : decode cX9_tell 49 = .ok (.getfield 12, 3) := by decide +kernel
theorem dX9_tell_52 : decode cX9_tell 52 = .ok (.getfield 337, 3) := by decide +kernel
theorem dX9_tell_55 : decode cX9_tell 55 = .ok (.ireturn, 1) := by decide +kernel
theorem dX9_check_0 : decode cX9_check 0 = .ok (.aload_n 0, 1) := by decide +kernel
theorem dX9_check_1 : decode cX9_check 1 = .ok (.getfield 12, 3) := by decide +kernel
theorem dX9_check_4 : decode cX9_check 4 = .ok (.getfield 337, 3) := by decide +kernel
theorem dX9_check_7 : decode cX9_check 7 = .ok (.istore_n 1, 1) := by decide +kernel
theorem dX9_check_8 : decode cX9_check 8 = .ok (.aload_n 0, 1) := by decide +kernel
theorem dX9_check_9 : decode cX9_check 9 = .ok (.getfield 12, 3) := by decide +kernel
theorem dX9_check_12 : decode cX9_check 12 = .ok (.iconst 0, 1) := by decide +kernel
theorem dX9_check_13 : decode cX9_check 13 = .ok (.putfield 337, 3) := by decide +kernel
theorem dX9_check_16 : decode cX9_check 16 = .ok (.iconst 0, 1) := by decide +kernel
theorem dX9_check_17 : decode cX9_check 17 = .ok (.istore_n 2, 1) := by decide +kernel
theorem dX9_check_18 : decode cX9_check 18 = .ok (.iload_n 2, 1) := by decide +kernel
theorem dX9_check_19 : decode cX9_check 19 = .ok (.iload_n 1, 1) := by decide +kernel
theorem dX9_check_20 : decode cX9_check 20 = .ok (.if_icmp .ge 54, 3) := by decide +kernel
theorem dX9_check_23 : decode cX9_check 23 = .ok (.iload_n 2, 1) := by decide +kernel
theorem dX9_check_24 : decode cX9_check 24 = .ok (.aload_n 0, 1) := by decide +kernel
theorem dX9_check_25 : decode cX9_check 25 = .ok (.getfield 12, 3) := by decide +kernel
theorem dX9_check_28 : decode cX9_check 28 = .ok (.getfield 92, 3) := by decide +kernel
theorem dX9_check_31 : decode cX9_check 31 = .ok (.getfield 95, 3) := by decide +kernel
theorem dX9_check_34 : decode cX9_check 34 = .ok (.if_icmp .ge 30, 3) := by decide +kernel
theorem dX9_check_37 : decode cX9_check 37 = .ok (.aload_n 0, 1) := by decide +kernel
theorem dX9_check_38 : decode cX9_check 38 = .ok (.getfield 12, 3) := by decide +kernel
theorem dX9_check_41 : decode cX9_check 41 = .ok (.getfield 340, 3) := by decide +kernel
theorem dX9_check_44 : decode cX9_check 44 = .ok (.iload_n 2, 1) := by decide +kernel
theorem dX9_check_45 : decode cX9_check 45 = .ok (.iaload, 1) := by decide +kernel
theorem dX9_check_46 : decode cX9_check 46 = .ok (.aload_n 0, 1) := by decide +kernel
theorem dX9_check_47 : decode cX9_check 47 = .ok (.getfield 12, 3) := by decide +kernel
theorem dX9_check_50 : decode cX9_check 50 = .ok (.getfield 92, 3) := by decide +kernel
theorem dX9_check_53 : decode cX9_check 53 = .ok (.getfield 107, 3) := by decide +kernel
theorem dX9_check_56 : decode cX9_check 56 = .ok (.iload_n 2, 1) := by decide +kernel
theorem dX9_check_57 : decode cX9_check 57 = .ok (.aaload, 1) := by decide +kernel
theorem dX9_check_58 : decode cX9_check 58 = .ok (.getfield 126, 3) := by decide +kernel
theorem dX9_check_61 : decode cX9_check 61 = .ok (.if_icmp .eq 7, 3) := by decide +kernel
theorem dX9_check_64 : decode cX9_check 64 = .ok (.iconst 1, 1) := by decide +kernel
theorem dX9_check_65 : decode cX9_check 65 = .ok (.iload_n 2, 1) := by decide +kernel
theorem dX9_check_66 : decode cX9_check 66 = .ok (.iadd, 1) := by decide +kernel
theorem dX9_check_67 : decode cX9_check 67 = .ok (.ireturn, 1) := by decide +kernel
theorem dX9_check_68 : decode cX9_check 68 = .ok (.iinc 2 1, 3) := by decide +kernel
theorem dX9_check_71 : decode cX9_check 71 = .ok (.goto (-53), 3) := by decide +kernel
theorem dX9_check_74 : decode cX9_check 74 = .ok (.iconst 0, 1) := by decide +kernel
theorem dX9_check_75 : decode cX9_check 75 = .ok (.ireturn, 1) := by decide +kernel
theorem dX9_count_0 : decode cX9_count 0 = .ok (.iload_n 1, 1) := by decide +kernel
theorem dX9_count_1 : decode cX9_count 1 = .ok (.tableswitch 126 0 7 #[47, 58, 69, 80, 91, 99, 107, 115], 47) := by decide +kernel
theorem dX9_count_48 : decode cX9_count 48 = .ok (.aload_n 0, 1) := by decide +kernel
theorem dX9_count_49 : decode cX9_count 49 = .ok (.getfield 12, 3) := by decide +kernel
theorem dX9_count_52 : decode cX9_count 52 = .ok (.getfield 92, 3) := by decide +kernel
theorem dX9_count_55 : decode cX9_count 55 = .ok (.getfield 95, 3) := by decide +kernel
theorem dX9_count_58 : decode cX9_count 58 = .ok (.ireturn, 1) := by decide +kernel
theorem dX9_count_59 : decode cX9_count 59 = .ok (.aload_n 0, 1) := by decide +kernel
theorem dX9_count_60 : decode cX9_count 60 = .ok (.getfield 12, 3) := by decide +kernel
theorem dX9_count_63 : decode cX9_count 63 = .ok (.getfield 92, 3) := by decide +kernel
theorem dX9_count_66 : decode cX9_count 66 = .ok (.invokevirtual 220, 3) := by decide +kernel
theorem dX9_count_69 : decode cX9_count 69 = .ok (.ireturn, 1) := by decide +kernel
theorem dX9_count_70 : decode cX9_count 70 = .ok (.aload_n 0, 1) := by decide +kernel
theorem dX9_count_71 : decode cX9_count 71 = .ok (.getfield 12, 3) := by decide +kernel
theorem dX9_count_74 : decode cX9_count 74 = .ok (.getfield 92, 3) := by decide +kernel
theorem dX9_count_77 : decode cX9_count 77 = .ok (.getfield 213, 3) := by decide +kernel
theorem dX9_count_80 : decode cX9_count 80 = .ok (.ireturn, 1) := by decide +kernel
theorem dX9_count_81 : decode cX9_count 81 = .ok (.aload_n 0, 1) := by decide +kernel
theorem dX9_count_82 : decode cX9_count 82 = .ok (.getfield 12, 3) := by decide +kernel
theorem dX9_count_85 : decode cX9_count 85 = .ok (.getfield 92, 3) := by decide +kernel
theorem dX9_count_88 : decode cX9_count 88 = .ok (.getfield 168, 3) := by decide +kernel
theorem dX9_count_91 : decode cX9_count 91 = .ok (.ireturn, 1) := by decide +kernel
theorem dX9_count_92 : decode cX9_count 92 = .ok (.aload_n 0, 1) := by decide +kernel
theorem dX9_count_93 : decode cX9_count 93 = .ok (.getfield 12, 3) := by decide +kernel
theorem dX9_count_96 : decode cX9_count 96 = .ok (.getfield 171, 3) := by decide +kernel
theorem dX9_count_99 : decode cX9_count 99 = .ok (.ireturn, 1) := by decide +kernel
theorem dX9_count_100 : decode cX9_count 100 = .ok (.aload_n 0, 1) := by decide +kernel
theorem dX9_count_101 : decode cX9_count 101 = .ok (.getfield 12, 3) := by decide +kernel
theorem dX9_count_104 : decode cX9_count 104 = .ok (.getfield 337, 3) := by decide +kernel
theorem dX9_count_107 : decode cX9_count 107 = .ok (.ireturn, 1) := by decide +kernel
theorem dX9_count_108 : decode cX9_count 108 = .ok (.aload_n 0, 1) := by decide +kernel
theorem dX9_count_109 : decode cX9_count 109 = .ok (.getfield 62, 3) := by decide +kernel
theorem dX9_count_112 : decode cX9_count 112 = .ok (.getfield 296, 3) := by decide +kernel
theorem dX9_count_115 : decode cX9_count 115 = .ok (.ireturn, 1) := by decide +kernel
theorem dX9_count_116 : decode cX9_count 116 = .ok (.aload_n 0, 1) := by decide +kernel
theorem dX9_count_117 : decode cX9_count 117 = .ok (.getfield 12, 3) := by decide +kernel
theorem dX9_count_120 : decode cX9_count 120 = .ok (.getfield 92, 3) := by decide +kernel
theorem dX9_count_123 : decode cX9_count 123 = .ok (.getfield 226, 3) := by decide +kernel
theorem dX9_count_126 : decode cX9_count 126 = .ok (.ireturn, 1) := by decide +kernel
theorem dX9_count_127 : decode cX9_count 127 = .ok (.aload_n 0, 1) := by decide +kernel
theorem dX9_count_128 : decode cX9_count 128 = .ok (.ldc 87, 2) := by decide +kernel
theorem dX9_count_130 : decode cX9_count 130 = .ok (.invokevirtual 88, 3) := by decide +kernel
theorem dX9_count_133 : decode cX9_count 133 = .ok (.ireturn, 1) := by decide +kernel
theorem dX9_told_0 : decode cX9_told 0 = .ok (.iload_n 1, 1) := by decide +kernel
theorem dX9_told_1 : decode cX9_told 1 = .ok (.iconst 1, 1) := by decide +kernel
theorem dX9_told_2 : decode cX9_told 2 = .ok (.if_icmp .lt 9, 3) := by decide +kernel
theorem dX9_told_5 : decode cX9_told 5 = .ok (.iload_n 1, 1) := by decide +kernel
theorem dX9_told_6 : decode cX9_told 6 = .ok (.bipush 6, 2) := by decide +kernel
theorem dX9_told_8 : decode cX9_told 8 = .ok (.if_icmp .le 10, 3) := by decide +kernel
theorem dX9_told_11 : decode cX9_told 11 = .ok (.aload_n 0, 1) := by decide +kernel
theorem dX9_told_12 : decode cX9_told 12 = .ok (.ldc 87, 2) := by decide +kernel
theorem dX9_told_14 : decode cX9_told 14 = .ok (.invokevirtual 88, 3) := by decide +kernel
theorem dX9_told_17 : decode cX9_told 17 = .ok (.ireturn, 1) := by decide +kernel
theorem dX9_told_18 : decode cX9_told 18 = .ok (.aload_n 0, 1) := by decide +kernel
theorem dX9_told_19 : decode cX9_told 19 = .ok (.getfield 72, 3) := by decide +kernel
theorem dX9_told_22 : decode cX9_told 22 = .ok (.iload_n 1, 1) := by decide +kernel
theorem dX9_told_23 : decode cX9_told 23 = .ok (.iaload, 1) := by decide +kernel
theorem dX9_told_24 : decode cX9_told 24 = .ok (.ireturn, 1) := by decide +kernel
theorem dX9_refuse_0 : decode cX9_refuse 0 = .ok (.ldc_w 343, 3) := by decide +kernel
theorem dX9_refuse_3 : decode cX9_refuse 3 = .ok (.iload_n 1, 1) := by decide +kernel
theorem dX9_refuse_4 : decode cX9_refuse 4 = .ok (.isub, 1) := by decide +kernel
theorem dX9_refuse_5 : decode cX9_refuse 5 = .ok (.istore_n 2, 1) := by decide +kernel
theorem dX9_refuse_6 : decode cX9_refuse 6 = .ok (.iload_n 2, 1) := by decide +kernel
theorem dX9_refuse_7 : decode cX9_refuse 7 = .ok (.iconst 1, 1) := by decide +kernel
theorem dX9_refuse_8 : decode cX9_refuse 8 = .ok (.if_icmp .lt 19, 3) := by decide +kernel
theorem dX9_refuse_11 : decode cX9_refuse 11 = .ok (.iload_n 2, 1) := by decide +kernel
theorem dX9_refuse_12 : decode cX9_refuse 12 = .ok (.bipush 6, 2) := by decide +kernel
theorem dX9_refuse_14 : decode cX9_refuse 14 = .ok (.if_icmp .gt 13, 3) := by decide +kernel
theorem dX9_refuse_17 : decode cX9_refuse 17 = .ok (.aload_n 0, 1) := by decide +kernel
theorem dX9_refuse_18 : decode cX9_refuse 18 = .ok (.getfield 72, 3) := by decide +kernel
theorem dX9_refuse_21 : decode cX9_refuse 21 = .ok (.iload_n 2, 1) := by decide +kernel
theorem dX9_refuse_22 : decode cX9_refuse 22 = .ok (.dup2, 1) := by decide +kernel
theorem dX9_refuse_23 : decode cX9_refuse 23 = .ok (.iaload, 1) := by decide +kernel
theorem dX9_refuse_24 : decode cX9_refuse 24 = .ok (.iconst 1, 1) := by decide +kernel
theorem dX9_refuse_25 : decode cX9_refuse 25 = .ok (.iadd, 1) := by decide +kernel
theorem dX9_refuse_26 : decode cX9_refuse 26 = .ok (.iastore, 1) := by decide +kernel
theorem dX9_refuse_27 : decode cX9_refuse 27 = .ok (.iload_n 1, 1) := by decide +kernel
theorem dX9_refuse_28 : decode cX9_refuse 28 = .ok (.ireturn, 1) := by decide +kernel
theorem dX9_isFurrow_0 : decode cX9_isFurrow 0 = .ok (.iload_n 1, 1) := by decide +kernel
theorem dX9_isFurrow_1 : decode cX9_isFurrow 1 = .ok (.ifCond .lt 21, 3) := by decide +kernel
theorem dX9_isFurrow_4 : decode cX9_isFurrow 4 = .ok (.iload_n 1, 1) := by decide +kernel
theorem dX9_isFurrow_5 : decode cX9_isFurrow 5 = .ok (.aload_n 0, 1) := by decide +kernel
theorem dX9_isFurrow_6 : decode cX9_isFurrow 6 = .ok (.getfield 12, 3) := by decide +kernel
theorem dX9_isFurrow_9 : decode cX9_isFurrow 9 = .ok (.getfield 92, 3) := by decide +kernel
theorem dX9_isFurrow_12 : decode cX9_isFurrow 12 = .ok (.getfield 95, 3) := by decide +kernel
theorem dX9_isFurrow_15 : decode cX9_isFurrow 15 = .ok (.if_icmp .ge 7, 3) := by decide +kernel
theorem dX9_isFurrow_18 : decode cX9_isFurrow 18 = .ok (.iconst 1, 1) := by decide +kernel
theorem dX9_isFurrow_19 : decode cX9_isFurrow 19 = .ok (.goto 4, 3) := by decide +kernel
theorem dX9_isFurrow_22 : decode cX9_isFurrow 22 = .ok (.iconst 0, 1) := by decide +kernel
theorem dX9_isFurrow_23 : decode cX9_isFurrow 23 = .ok (.ireturn, 1) := by decide +kernel
theorem dX9_firstReplyLine_0 : decode cX9_firstReplyLine 0 = .ok (.aload_n 0, 1) := by decide +kernel
theorem dX9_firstReplyLine_1 : decode cX9_firstReplyLine 1 = .ok (.getfield 45, 3) := by decide +kernel
theorem dX9_firstReplyLine_4 : decode cX9_firstReplyLine 4 = .ok (.aload_n 1, 1) := by decide +kernel
theorem dX9_firstReplyLine_5 : decode cX9_firstReplyLine 5 = .ok (.getfield 117, 3) := by decide +kernel
theorem dX9_firstReplyLine_8 : decode cX9_firstReplyLine 8 = .ok (.iconst 1, 1) := by decide +kernel
theorem dX9_firstReplyLine_9 : decode cX9_firstReplyLine 9 = .ok (.isub, 1) := by decide +kernel
theorem dX9_firstReplyLine_10 : decode cX9_firstReplyLine 10 = .ok (.invokevirtual 344, 3) := by decide +kernel
theorem dX9_firstReplyLine_13 : decode cX9_firstReplyLine 13 = .ok (.istore_n 2, 1) := by decide +kernel
theorem dX9_firstReplyLine_14 : decode cX9_firstReplyLine 14 = .ok (.aload_n 0, 1) := by decide +kernel
theorem dX9_firstReplyLine_15 : decode cX9_firstReplyLine 15 = .ok (.getfield 49, 3) := by decide +kernel
theorem dX9_firstReplyLine_18 : decode cX9_firstReplyLine 18 = .ok (.aload_n 1, 1) := by decide +kernel
theorem dX9_firstReplyLine_19 : decode cX9_firstReplyLine 19 = .ok (.getfield 120, 3) := by decide +kernel
theorem dX9_firstReplyLine_22 : decode cX9_firstReplyLine 22 = .ok (.invokevirtual 344, 3) := by decide +kernel
theorem dX9_firstReplyLine_25 : decode cX9_firstReplyLine 25 = .ok (.istore_n 3, 1) := by decide +kernel
theorem dX9_firstReplyLine_26 : decode cX9_firstReplyLine 26 = .ok (.bipush 10, 2) := by decide +kernel
theorem dX9_firstReplyLine_28 : decode cX9_firstReplyLine 28 = .ok (.iload_n 2, 1) := by decide +kernel
theorem dX9_firstReplyLine_29 : decode cX9_firstReplyLine 29 = .ok (.iconst 1, 1) := by decide +kernel
theorem dX9_firstReplyLine_30 : decode cX9_firstReplyLine 30 = .ok (.iadd, 1) := by decide +kernel
theorem dX9_firstReplyLine_31 : decode cX9_firstReplyLine 31 = .ok (.imul, 1) := by decide +kernel
theorem dX9_firstReplyLine_32 : decode cX9_firstReplyLine 32 = .ok (.aload_n 1, 1) := by decide +kernel
theorem dX9_firstReplyLine_33 : decode cX9_firstReplyLine 33 = .ok (.getfield 120, 3) := by decide +kernel
theorem dX9_firstReplyLine_36 : decode cX9_firstReplyLine 36 = .ok (.iadd, 1) := by decide +kernel
theorem dX9_firstReplyLine_37 : decode cX9_firstReplyLine 37 = .ok (.istore 4, 2) := by decide +kernel
theorem dX9_firstReplyLine_39 : decode cX9_firstReplyLine 39 = .ok (.bipush 10, 2) := by decide +kernel
theorem dX9_firstReplyLine_41 : decode cX9_firstReplyLine 41 = .ok (.aload_n 1, 1) := by decide +kernel
theorem dX9_firstReplyLine_42 : decode cX9_firstReplyLine 42 = .ok (.getfield 117, 3) := by decide +kernel
theorem dX9_firstReplyLine_45 : decode cX9_firstReplyLine 45 = .ok (.imul, 1) := by decide +kernel
theorem dX9_firstReplyLine_46 : decode cX9_firstReplyLine 46 = .ok (.iload_n 3, 1) := by decide +kernel
theorem dX9_firstReplyLine_47 : decode cX9_firstReplyLine 47 = .ok (.iadd, 1) := by decide +kernel
theorem dX9_firstReplyLine_48 : decode cX9_firstReplyLine 48 = .ok (.istore 5, 2) := by decide +kernel
theorem dX9_firstReplyLine_50 : decode cX9_firstReplyLine 50 = .ok (.iload_n 2, 1) := by decide +kernel
theorem dX9_firstReplyLine_51 : decode cX9_firstReplyLine 51 = .ok (.ifCond .ge 14, 3) := by decide +kernel
theorem dX9_firstReplyLine_54 : decode cX9_firstReplyLine 54 = .ok (.iload_n 3, 1) := by decide +kernel
theorem dX9_firstReplyLine_55 : decode cX9_firstReplyLine 55 = .ok (.ifCond .ge 7, 3) := by decide +kernel
theorem dX9_firstReplyLine_58 : decode cX9_firstReplyLine 58 = .ok (.iconst (-1), 1) := by decide +kernel
theorem dX9_firstReplyLine_59 : decode cX9_firstReplyLine 59 = .ok (.goto 5, 3) := by decide +kernel
theorem dX9_firstReplyLine_62 : decode cX9_firstReplyLine 62 = .ok (.iload 5, 2) := by decide +kernel
theorem dX9_firstReplyLine_64 : decode cX9_firstReplyLine 64 = .ok (.ireturn, 1) := by decide +kernel
theorem dX9_firstReplyLine_65 : decode cX9_firstReplyLine 65 = .ok (.iload_n 3, 1) := by decide +kernel
theorem dX9_firstReplyLine_66 : decode cX9_firstReplyLine 66 = .ok (.ifCond .ge 8, 3) := by decide +kernel
theorem dX9_firstReplyLine_69 : decode cX9_firstReplyLine 69 = .ok (.iload 4, 2) := by decide +kernel
theorem dX9_firstReplyLine_71 : decode cX9_firstReplyLine 71 = .ok (.goto 10, 3) := by decide +kernel
theorem dX9_firstReplyLine_74 : decode cX9_firstReplyLine 74 = .ok (.iload 4, 2) := by decide +kernel
theorem dX9_firstReplyLine_76 : decode cX9_firstReplyLine 76 = .ok (.iload 5, 2) := by decide +kernel
theorem dX9_firstReplyLine_78 : decode cX9_firstReplyLine 78 = .ok (.invokestatic 325, 3) := by decide +kernel
theorem dX9_firstReplyLine_81 : decode cX9_firstReplyLine 81 = .ok (.ireturn, 1) := by decide +kernel
theorem dX9_linesThatEcho_0 : decode cX9_linesThatEcho 0 = .ok (.iconst 0, 1) := by decide +kernel
theorem dX9_linesThatEcho_1 : decode cX9_linesThatEcho 1 = .ok (.istore_n 2, 1) := by decide +kernel
theorem dX9_linesThatEcho_2 : decode cX9_linesThatEcho 2 = .ok (.iconst 0, 1) := by decide +kernel
theorem dX9_linesThatEcho_3 : decode cX9_linesThatEcho 3 = .ok (.istore_n 3, 1) := by decide +kernel
theorem dX9_linesThatEcho_4 : decode cX9_linesThatEcho 4 = .ok (.iload_n 3, 1) := by decide +kernel
theorem dX9_linesThatEcho_5 : decode cX9_linesThatEcho 5 = .ok (.bipush 72, 2) := by decide +kernel
theorem dX9_linesThatEcho_7 : decode cX9_linesThatEcho 7 = .ok (.if_icmp .ge 34, 3) := by decide +kernel
theorem dX9_linesThatEcho_10 : decode cX9_linesThatEcho 10 = .ok (.aload_n 0, 1) := by decide +kernel
theorem dX9_linesThatEcho_11 : decode cX9_linesThatEcho 11 = .ok (.getfield 29, 3) := by decide +kernel
theorem dX9_linesThatEcho_14 : decode cX9_linesThatEcho 14 = .ok (.iload_n 3, 1) := by decide +kernel
theorem dX9_linesThatEcho_15 : decode cX9_linesThatEcho 15 = .ok (.invokestatic 347, 3) := by decide +kernel
theorem dX9_linesThatEcho_18 : decode cX9_linesThatEcho 18 = .ok (.invokevirtual 165, 3) := by decide +kernel
theorem dX9_linesThatEcho_21 : decode cX9_linesThatEcho 21 = .ok (.aload_n 0, 1) := by decide +kernel
theorem dX9_linesThatEcho_22 : decode cX9_linesThatEcho 22 = .ok (.getfield 29, 3) := by decide +kernel
theorem dX9_linesThatEcho_25 : decode cX9_linesThatEcho 25 = .ok (.aload_n 1, 1) := by decide +kernel
theorem dX9_linesThatEcho_26 : decode cX9_linesThatEcho 26 = .ok (.invokevirtual 350, 3) := by decide +kernel
theorem dX9_linesThatEcho_29 : decode cX9_linesThatEcho 29 = .ok (.ifCond .eq 6, 3) := by decide +kernel
theorem dX9_linesThatEcho_32 : decode cX9_linesThatEcho 32 = .ok (.iinc 2 1, 3) := by decide +kernel
theorem dX9_linesThatEcho_35 : decode cX9_linesThatEcho 35 = .ok (.iinc 3 1, 3) := by decide +kernel
theorem dX9_linesThatEcho_38 : decode cX9_linesThatEcho 38 = .ok (.goto (-34), 3) := by decide +kernel
theorem dX9_linesThatEcho_41 : decode cX9_linesThatEcho 41 = .ok (.iload_n 2, 1) := by decide +kernel
theorem dX9_linesThatEcho_42 : decode cX9_linesThatEcho 42 = .ok (.ireturn, 1) := by decide +kernel
theorem dX9_commonDivisor_0 : decode cX9_commonDivisor 0 = .ok (.bipush 72, 2) := by decide +kernel
theorem dX9_commonDivisor_2 : decode cX9_commonDivisor 2 = .ok (.istore_n 1, 1) := by decide +kernel
theorem dX9_commonDivisor_3 : decode cX9_commonDivisor 3 = .ok (.iload_n 1, 1) := by decide +kernel
theorem dX9_commonDivisor_4 : decode cX9_commonDivisor 4 = .ok (.iconst 1, 1) := by decide +kernel
theorem dX9_commonDivisor_5 : decode cX9_commonDivisor 5 = .ok (.if_icmp .le 22, 3) := by decide +kernel
theorem dX9_commonDivisor_8 : decode cX9_commonDivisor 8 = .ok (.iload_n 0, 1) := by decide +kernel
theorem dX9_commonDivisor_9 : decode cX9_commonDivisor 9 = .ok (.iload_n 1, 1) := by decide +kernel
theorem dX9_commonDivisor_10 : decode cX9_commonDivisor 10 = .ok (.irem, 1) := by decide +kernel
theorem dX9_commonDivisor_11 : decode cX9_commonDivisor 11 = .ok (.ifCond .ne 10, 3) := by decide +kernel
theorem dX9_commonDivisor_14 : decode cX9_commonDivisor 14 = .ok (.bipush 72, 2) := by decide +kernel
theorem dX9_commonDivisor_16 : decode cX9_commonDivisor 16 = .ok (.iload_n 1, 1) := by decide +kernel
theorem dX9_commonDivisor_17 : decode cX9_commonDivisor 17 = .ok (.irem, 1) := by decide +kernel
theorem dX9_commonDivisor_18 : decode cX9_commonDivisor 18 = .ok (.ifCond .eq 9, 3) := by decide +kernel
theorem dX9_commonDivisor_21 : decode cX9_commonDivisor 21 = .ok (.iinc 1 (-1), 3) := by decide +kernel
theorem dX9_commonDivisor_24 : decode cX9_commonDivisor 24 = .ok (.goto (-21), 3) := by decide +kernel
theorem dX9_commonDivisor_27 : decode cX9_commonDivisor 27 = .ok (.iload_n 1, 1) := by decide +kernel
theorem dX9_commonDivisor_28 : decode cX9_commonDivisor 28 = .ok (.ireturn, 1) := by decide +kernel
theorem dX9_tellsLengths_0 : decode cX9_tellsLengths 0 = .ok (.iconst 0, 1) := by decide +kernel
theorem dX9_tellsLengths_1 : decode cX9_tellsLengths 1 = .ok (.istore_n 2, 1) := by decide +kernel
theorem dX9_tellsLengths_2 : decode cX9_tellsLengths 2 = .ok (.iconst 0, 1) := by decide +kernel
theorem dX9_tellsLengths_3 : decode cX9_tellsLengths 3 = .ok (.istore_n 3, 1) := by decide +kernel
theorem dX9_tellsLengths_4 : decode cX9_tellsLengths 4 = .ok (.iload_n 3, 1) := by decide +kernel
theorem dX9_tellsLengths_5 : decode cX9_tellsLengths 5 = .ok (.aload_n 1, 1) := by decide +kernel
theorem dX9_tellsLengths_6 : decode cX9_tellsLengths 6 = .ok (.getfield 95, 3) := by decide +kernel
theorem dX9_tellsLengths_9 : decode cX9_tellsLengths 9 = .ok (.if_icmp .ge 52, 3) := by decide +kernel
theorem dX9_tellsLengths_12 : decode cX9_tellsLengths 12 = .ok (.aload_n 1, 1) := by decide +kernel
theorem dX9_tellsLengths_13 : decode cX9_tellsLengths 13 = .ok (.getfield 107, 3) := by decide +kernel
theorem dX9_tellsLengths_16 : decode cX9_tellsLengths 16 = .ok (.iload_n 3, 1) := by decide +kernel
theorem dX9_tellsLengths_17 : decode cX9_tellsLengths 17 = .ok (.aaload, 1) := by decide +kernel
theorem dX9_tellsLengths_18 : decode cX9_tellsLengths 18 = .ok (.astore 4, 2) := by decide +kernel
theorem dX9_tellsLengths_20 : decode cX9_tellsLengths 20 = .ok (.aload 4, 2) := by decide +kernel
theorem dX9_tellsLengths_22 : decode cX9_tellsLengths 22 = .ok (.getfield 129, 3) := by decide +kernel
theorem dX9_tellsLengths_25 : decode cX9_tellsLengths 25 = .ok (.ifCond .ne 30, 3) := by decide +kernel
theorem dX9_tellsLengths_28 : decode cX9_tellsLengths 28 = .ok (.iload_n 2, 1) := by decide +kernel
theorem dX9_tellsLengths_29 : decode cX9_tellsLengths 29 = .ok (.aload_n 0, 1) := by decide +kernel
theorem dX9_tellsLengths_30 : decode cX9_tellsLengths 30 = .ok (.getfield 306, 3) := by decide +kernel
theorem dX9_tellsLengths_33 : decode cX9_tellsLengths 33 = .ok (.if_icmp .ge 17, 3) := by decide +kernel
theorem dX9_tellsLengths_36 : decode cX9_tellsLengths 36 = .ok (.aload_n 0, 1) := by decide +kernel
theorem dX9_tellsLengths_37 : decode cX9_tellsLengths 37 = .ok (.getfield 316, 3) := by decide +kernel
theorem dX9_tellsLengths_40 : decode cX9_tellsLengths 40 = .ok (.iload_n 2, 1) := by decide +kernel
theorem dX9_tellsLengths_41 : decode cX9_tellsLengths 41 = .ok (.iaload, 1) := by decide +kernel
theorem dX9_tellsLengths_42 : decode cX9_tellsLengths 42 = .ok (.aload 4, 2) := by decide +kernel
theorem dX9_tellsLengths_44 : decode cX9_tellsLengths 44 = .ok (.getfield 117, 3) := by decide +kernel
theorem dX9_tellsLengths_47 : decode cX9_tellsLengths 47 = .ok (.if_icmp .eq 5, 3) := by decide +kernel
theorem dX9_tellsLengths_50 : decode cX9_tellsLengths 50 = .ok (.iconst 0, 1) := by decide +kernel
theorem dX9_tellsLengths_51 : decode cX9_tellsLengths 51 = .ok (.ireturn, 1) := by decide +kernel
theorem dX9_tellsLengths_52 : decode cX9_tellsLengths 52 = .ok (.iinc 2 1, 3) := by decide +kernel
theorem dX9_tellsLengths_55 : decode cX9_tellsLengths 55 = .ok (.iinc 3 1, 3) := by decide +kernel
theorem dX9_tellsLengths_58 : decode cX9_tellsLengths 58 = .ok (.goto (-54), 3) := by decide +kernel
theorem dX9_tellsLengths_61 : decode cX9_tellsLengths 61 = .ok (.iload_n 2, 1) := by decide +kernel
theorem dX9_tellsLengths_62 : decode cX9_tellsLengths 62 = .ok (.aload_n 0, 1) := by decide +kernel
theorem dX9_tellsLengths_63 : decode cX9_tellsLengths 63 = .ok (.getfield 306, 3) := by decide +kernel
theorem dX9_tellsLengths_66 : decode cX9_tellsLengths 66 = .ok (.if_icmp .ne 7, 3) := by decide +kernel
theorem dX9_tellsLengths_69 : decode cX9_tellsLengths 69 = .ok (.iconst 1, 1) := by decide +kernel
theorem dX9_tellsLengths_70 : decode cX9_tellsLengths 70 = .ok (.goto 4, 3) := by decide +kernel
theorem dX9_tellsLengths_73 : decode cX9_tellsLengths 73 = .ok (.iconst 0, 1) := by decide +kernel
theorem dX9_tellsLengths_74 : decode cX9_tellsLengths 74 = .ok (.ireturn, 1) := by decide +kernel
theorem dX9_isKind_0 : decode cX9_isKind 0 = .ok (.iload_n 0, 1) := by decide +kernel
theorem dX9_isKind_1 : decode cX9_isKind 1 = .ok (.ifCond .lt 13, 3) := by decide +kernel
theorem dX9_isKind_4 : decode cX9_isKind 4 = .ok (.iload_n 0, 1) := by decide +kernel
theorem dX9_isKind_5 : decode cX9_isKind 5 = .ok (.bipush 7, 2) := by decide +kernel
theorem dX9_isKind_7 : decode cX9_isKind 7 = .ok (.if_icmp .ge 7, 3) := by decide +kernel
theorem dX9_isKind_10 : decode cX9_isKind 10 = .ok (.iconst 1, 1) := by decide +kernel
theorem dX9_isKind_11 : decode cX9_isKind 11 = .ok (.goto 4, 3) := by decide +kernel
theorem dX9_isKind_14 : decode cX9_isKind 14 = .ok (.iconst 0, 1) := by decide +kernel
theorem dX9_isKind_15 : decode cX9_isKind 15 = .ok (.ireturn, 1) := by decide +kernel
theorem dX9_isKindWithNumber_0 : decode cX9_isKindWithNumber 0 = .ok (.iload_n 0, 1) := by decide +kernel
theorem dX9_isKindWithNumber_1 : decode cX9_isKindWithNumber 1 = .ok (.ifCond .lt 13, 3) := by decide +kernel
theorem dX9_isKindWithNumber_4 : decode cX9_isKindWithNumber 4 = .ok (.iload_n 0, 1) := by decide +kernel
theorem dX9_isKindWithNumber_5 : decode cX9_isKindWithNumber 5 = .ok (.bipush 70, 2) := by decide +kernel
theorem dX9_isKindWithNumber_7 : decode cX9_isKindWithNumber 7 = .ok (.if_icmp .ge 7, 3) := by decide +kernel
theorem dX9_isKindWithNumber_10 : decode cX9_isKindWithNumber 10 = .ok (.iconst 1, 1) := by decide +kernel
theorem dX9_isKindWithNumber_11 : decode cX9_isKindWithNumber 11 = .ok (.goto 4, 3) := by decide +kernel
theorem dX9_isKindWithNumber_14 : decode cX9_isKindWithNumber 14 = .ok (.iconst 0, 1) := by decide +kernel
theorem dX9_isKindWithNumber_15 : decode cX9_isKindWithNumber 15 = .ok (.ireturn, 1) := by decide +kernel
theorem dX9_isLine_0 : decode cX9_isLine 0 = .ok (.iload_n 0, 1) := by decide +kernel
theorem dX9_isLine_1 : decode cX9_isLine 1 = .ok (.bipush 10, 2) := by decide +kernel
theorem dX9_isLine_3 : decode cX9_isLine 3 = .ok (.if_icmp .lt 25, 3) := by decide +kernel
theorem dX9_isLine_6 : decode cX9_isLine 6 = .ok (.iload_n 0, 1) := by decide +kernel
theorem dX9_isLine_7 : decode cX9_isLine 7 = .ok (.bipush 10, 2) := by decide +kernel
theorem dX9_isLine_9 : decode cX9_isLine 9 = .ok (.idiv, 1) := by decide +kernel
theorem dX9_isLine_10 : decode cX9_isLine 10 = .ok (.bipush 12, 2) := by decide +kernel
theorem dX9_isLine_12 : decode cX9_isLine 12 = .ok (.if_icmp .gt 16, 3) := by decide +kernel
theorem dX9_isLine_15 : decode cX9_isLine 15 = .ok (.iload_n 0, 1) := by decide +kernel
theorem dX9_isLine_16 : decode cX9_isLine 16 = .ok (.bipush 10, 2) := by decide +kernel
theorem dX9_isLine_18 : decode cX9_isLine 18 = .ok (.irem, 1) := by decide +kernel
theorem dX9_isLine_19 : decode cX9_isLine 19 = .ok (.bipush 6, 2) := by decide +kernel
theorem dX9_isLine_21 : decode cX9_isLine 21 = .ok (.if_icmp .ge 7, 3) := by decide +kernel
theorem dX9_isLine_24 : decode cX9_isLine 24 = .ok (.iconst 1, 1) := by decide +kernel
theorem dX9_isLine_25 : decode cX9_isLine 25 = .ok (.goto 4, 3) := by decide +kernel
theorem dX9_isLine_28 : decode cX9_isLine 28 = .ok (.iconst 0, 1) := by decide +kernel
theorem dX9_isLine_29 : decode cX9_isLine 29 = .ok (.ireturn, 1) := by decide +kernel
theorem dX9_lineAt_0 : decode cX9_lineAt 0 = .ok (.bipush 10, 2) := by decide +kernel
theorem dX9_lineAt_2 : decode cX9_lineAt 2 = .ok (.iconst 1, 1) := by decide +kernel
theorem dX9_lineAt_3 : decode cX9_lineAt 3 = .ok (.iload_n 0, 1) := by decide +kernel
theorem dX9_lineAt_4 : decode cX9_lineAt 4 = .ok (.bipush 6, 2) := by decide +kernel
theorem dX9_lineAt_6 : decode cX9_lineAt 6 = .ok (.idiv, 1) := by decide +kernel
theorem dX9_lineAt_7 : decode cX9_lineAt 7 = .ok (.iadd, 1) := by decide +kernel
theorem dX9_lineAt_8 : decode cX9_lineAt 8 = .ok (.imul, 1) := by decide +kernel
theorem dX9_lineAt_9 : decode cX9_lineAt 9 = .ok (.iload_n 0, 1) := by decide +kernel
theorem dX9_lineAt_10 : decode cX9_lineAt 10 = .ok (.bipush 6, 2) := by decide +kernel
theorem dX9_lineAt_12 : decode cX9_lineAt 12 = .ok (.irem, 1) := by decide +kernel
theorem dX9_lineAt_13 : decode cX9_lineAt 13 = .ok (.iadd, 1) := by decide +kernel
theorem dX9_lineAt_14 : decode cX9_lineAt 14 = .ok (.ireturn, 1) := by decide +kernel
theorem dX9_isHand_0 : decode cX9_isHand 0 = .ok (.iload_n 0, 1) := by decide +kernel
theorem dX9_isHand_1 : decode cX9_isHand 1 = .ok (.ifCond .lt 13, 3) := by decide +kernel
theorem dX9_isHand_4 : decode cX9_isHand 4 = .ok (.iload_n 0, 1) := by decide +kernel
theorem dX9_isHand_5 : decode cX9_isHand 5 = .ok (.bipush 6, 2) := by decide +kernel
theorem dX9_isHand_7 : decode cX9_isHand 7 = .ok (.if_icmp .ge 7, 3) := by decide +kernel
theorem dX9_isHand_10 : decode cX9_isHand 10 = .ok (.iconst 1, 1) := by decide +kernel
theorem dX9_isHand_11 : decode cX9_isHand 11 = .ok (.goto 4, 3) := by decide +kernel
theorem dX9_isHand_14 : decode cX9_isHand 14 = .ok (.iconst 0, 1) := by decide +kernel
theorem dX9_isHand_15 : decode cX9_isHand 15 = .ok (.ireturn, 1) := by decide +kernel
theorem dX9_isUse_0 : decode cX9_isUse 0 = .ok (.iload_n 0, 1) := by decide +kernel
theorem dX9_isUse_1 : decode cX9_isUse 1 = .ok (.ifCond .lt 12, 3) := by decide +kernel
theorem dX9_isUse_4 : decode cX9_isUse 4 = .ok (.iload_n 0, 1) := by decide +kernel
theorem dX9_isUse_5 : decode cX9_isUse 5 = .ok (.iconst 2, 1) := by decide +kernel
theorem dX9_isUse_6 : decode cX9_isUse 6 = .ok (.if_icmp .ge 7, 3) := by decide +kernel
theorem dX9_isUse_9 : decode cX9_isUse 9 = .ok (.iconst 1, 1) := by decide +kernel
theorem dX9_isUse_10 : decode cX9_isUse 10 = .ok (.goto 4, 3) := by decide +kernel
theorem dX9_isUse_13 : decode cX9_isUse 13 = .ok (.iconst 0, 1) := by decide +kernel
theorem dX9_isUse_14 : decode cX9_isUse 14 = .ok (.ireturn, 1) := by decide +kernel
theorem dX9_isSheet_0 : decode cX9_isSheet 0 = .ok (.iload_n 0, 1) := by decide +kernel
theorem dX9_isSheet_1 : decode cX9_isSheet 1 = .ok (.ifCond .lt 12, 3) := by decide +kernel
theorem dX9_isSheet_4 : decode cX9_isSheet 4 = .ok (.iload_n 0, 1) := by decide +kernel
theorem dX9_isSheet_5 : decode cX9_isSheet 5 = .ok (.iconst 4, 1) := by decide +kernel
theorem dX9_isSheet_6 : decode cX9_isSheet 6 = .ok (.if_icmp .ge 7, 3) := by decide +kernel
theorem dX9_isSheet_9 : decode cX9_isSheet 9 = .ok (.iconst 1, 1) := by decide +kernel
theorem dX9_isSheet_10 : decode cX9_isSheet 10 = .ok (.goto 4, 3) := by decide +kernel
theorem dX9_isSheet_13 : decode cX9_isSheet 13 = .ok (.iconst 0, 1) := by decide +kernel
theorem dX9_isSheet_14 : decode cX9_isSheet 14 = .ok (.ireturn, 1) := by decide +kernel
theorem dX9_asNumber_0 : decode cX9_asNumber 0 = .ok (.iload_n 0, 1) := by decide +kernel
theorem dX9_asNumber_1 : decode cX9_asNumber 1 = .ok (.ifCond .eq 7, 3) := by decide +kernel
theorem dX9_asNumber_4 : decode cX9_asNumber 4 = .ok (.iconst 1, 1) := by decide +kernel
theorem dX9_asNumber_5 : decode cX9_asNumber 5 = .ok (.goto 4, 3) := by decide +kernel
theorem dX9_asNumber_8 : decode cX9_asNumber 8 = .ok (.iconst 0, 1) := by decide +kernel
theorem dX9_asNumber_9 : decode cX9_asNumber 9 = .ok (.ireturn, 1) := by decide +kernel
theorem dX9_hold_0 : decode cX9_hold 0 = .ok (.iload_n 1, 1) := by decide +kernel
theorem dX9_hold_1 : decode cX9_hold 1 = .ok (.iload_n 2, 1) := by decide +kernel
theorem dX9_hold_2 : decode cX9_hold 2 = .ok (.iload_n 0, 1) := by decide +kernel
theorem dX9_hold_3 : decode cX9_hold 3 = .ok (.invokestatic 325, 3) := by decide +kernel
theorem dX9_hold_6 : decode cX9_hold 6 = .ok (.invokestatic 353, 3) := by decide +kernel
theorem dX9_hold_9 : decode cX9_hold 9 = .ok (.ireturn, 1) := by decide +kernel
theorem dJ6_bitCount_0f7a4_0 : decode cJ6_bitCount_0f7a4 0 = .ok (.iload_n 0, 1) := by decide +kernel
theorem dJ6_bitCount_0f7a4_1 : decode cJ6_bitCount_0f7a4 1 = .ok (.iload_n 0, 1) := by decide +kernel
theorem dJ6_bitCount_0f7a4_2 : decode cJ6_bitCount_0f7a4 2 = .ok (.iconst 1, 1) := by decide +kernel
theorem dJ6_bitCount_0f7a4_3 : decode cJ6_bitCount_0f7a4 3 = .ok (.iushr, 1) := by decide +kernel
theorem dJ6_bitCount_0f7a4_4 : decode cJ6_bitCount_0f7a4 4 = .ok (.ldc_w 265, 3) := by decide +kernel
theorem dJ6_bitCount_0f7a4_7 : decode cJ6_bitCount_0f7a4 7 = .ok (.iand, 1) := by decide +kernel
theorem dJ6_bitCount_0f7a4_8 : decode cJ6_bitCount_0f7a4 8 = .ok (.isub, 1) := by decide +kernel
theorem dJ6_bitCount_0f7a4_9 : decode cJ6_bitCount_0f7a4 9 = .ok (.istore_n 0, 1) := by decide +kernel
theorem dJ6_bitCount_0f7a4_10 : decode cJ6_bitCount_0f7a4 10 = .ok (.iload_n 0, 1) := by decide +kernel
theorem dJ6_bitCount_0f7a4_11 : decode cJ6_bitCount_0f7a4 11 = .ok (.ldc_w 266, 3) := by decide +kernel
theorem dJ6_bitCount_0f7a4_14 : decode cJ6_bitCount_0f7a4 14 = .ok (.iand, 1) := by decide +kernel
theorem dJ6_bitCount_0f7a4_15 : decode cJ6_bitCount_0f7a4 15 = .ok (.iload_n 0, 1) := by decide +kernel
theorem dJ6_bitCount_0f7a4_16 : decode cJ6_bitCount_0f7a4 16 = .ok (.iconst 2, 1) := by decide +kernel
theorem dJ6_bitCount_0f7a4_17 : decode cJ6_bitCount_0f7a4 17 = .ok (.iushr, 1) := by decide +kernel
theorem dJ6_bitCount_0f7a4_18 : decode cJ6_bitCount_0f7a4 18 = .ok (.ldc_w 266, 3) := by decide +kernel
theorem dJ6_bitCount_0f7a4_21 : decode cJ6_bitCount_0f7a4 21 = .ok (.iand, 1) := by decide +kernel
theorem dJ6_bitCount_0f7a4_22 : decode cJ6_bitCount_0f7a4 22 = .ok (.iadd, 1) := by decide +kernel
theorem dJ6_bitCount_0f7a4_23 : decode cJ6_bitCount_0f7a4 23 = .ok (.istore_n 0, 1) := by decide +kernel
theorem dJ6_bitCount_0f7a4_24 : decode cJ6_bitCount_0f7a4 24 = .ok (.iload_n 0, 1) := by decide +kernel
theorem dJ6_bitCount_0f7a4_25 : decode cJ6_bitCount_0f7a4 25 = .ok (.iload_n 0, 1) := by decide +kernel
theorem dJ6_bitCount_0f7a4_26 : decode cJ6_bitCount_0f7a4 26 = .ok (.iconst 4, 1) := by decide +kernel
theorem dJ6_bitCount_0f7a4_27 : decode cJ6_bitCount_0f7a4 27 = .ok (.iushr, 1) := by decide +kernel
theorem dJ6_bitCount_0f7a4_28 : decode cJ6_bitCount_0f7a4 28 = .ok (.iadd, 1) := by decide +kernel
theorem dJ6_bitCount_0f7a4_29 : decode cJ6_bitCount_0f7a4 29 = .ok (.ldc_w 267, 3) := by decide +kernel
theorem dJ6_bitCount_0f7a4_32 : decode cJ6_bitCount_0f7a4 32 = .ok (.iand, 1) := by decide +kernel
theorem dJ6_bitCount_0f7a4_33 : decode cJ6_bitCount_0f7a4 33 = .ok (.istore_n 0, 1) := by decide +kernel
theorem dJ6_bitCount_0f7a4_34 : decode cJ6_bitCount_0f7a4 34 = .ok (.iload_n 0, 1) := by decide +kernel
theorem dJ6_bitCount_0f7a4_35 : decode cJ6_bitCount_0f7a4 35 = .ok (.iload_n 0, 1) := by decide +kernel
theorem dJ6_bitCount_0f7a4_36 : decode cJ6_bitCount_0f7a4 36 = .ok (.bipush 8, 2) := by decide +kernel
theorem dJ6_bitCount_0f7a4_38 : decode cJ6_bitCount_0f7a4 38 = .ok (.iushr, 1) := by decide +kernel
theorem dJ6_bitCount_0f7a4_39 : decode cJ6_bitCount_0f7a4 39 = .ok (.iadd, 1) := by decide +kernel
theorem dJ6_bitCount_0f7a4_40 : decode cJ6_bitCount_0f7a4 40 = .ok (.istore_n 0, 1) := by decide +kernel
theorem dJ6_bitCount_0f7a4_41 : decode cJ6_bitCount_0f7a4 41 = .ok (.iload_n 0, 1) := by decide +kernel
theorem dJ6_bitCount_0f7a4_42 : decode cJ6_bitCount_0f7a4 42 = .ok (.iload_n 0, 1) := by decide +kernel
theorem dJ6_bitCount_0f7a4_43 : decode cJ6_bitCount_0f7a4 43 = .ok (.bipush 16, 2) := by decide +kernel
theorem dJ6_bitCount_0f7a4_45 : decode cJ6_bitCount_0f7a4 45 = .ok (.iushr, 1) := by decide +kernel
theorem dJ6_bitCount_0f7a4_46 : decode cJ6_bitCount_0f7a4 46 = .ok (.iadd, 1) := by decide +kernel
theorem dJ6_bitCount_0f7a4_47 : decode cJ6_bitCount_0f7a4 47 = .ok (.istore_n 0, 1) := by decide +kernel
theorem dJ6_bitCount_0f7a4_48 : decode cJ6_bitCount_0f7a4 48 = .ok (.iload_n 0, 1) := by decide +kernel
theorem dJ6_bitCount_0f7a4_49 : decode cJ6_bitCount_0f7a4 49 = .ok (.bipush 63, 2) := by decide +kernel
theorem dJ6_bitCount_0f7a4_51 : decode cJ6_bitCount_0f7a4 51 = .ok (.iand, 1) := by decide +kernel
theorem dJ6_bitCount_0f7a4_52 : decode cJ6_bitCount_0f7a4 52 = .ok (.ireturn, 1) := by decide +kernel

-- decode rows: out of the printed text of this claim (NAMES), by wip/whole/mk02.py
theorem dX10_init_0 : decode cX10_init 0 = .ok (.aload_n 0, 1) := by decide +kernel
theorem dX10_init_1 : decode cX10_init 1 = .ok (.invokespecial 3, 3) := by decide +kernel
theorem dX10_init_4 : decode cX10_init 4 = .ok (.aload_n 0, 1) := by decide +kernel
theorem dX10_init_5 : decode cX10_init 5 = .ok (.sipush 416, 3) := by decide +kernel
theorem dX10_init_8 : decode cX10_init 8 = .ok (.newarray .int, 2) := by decide +kernel
theorem dX10_init_10 : decode cX10_init 10 = .ok (.putfield 9, 3) := by decide +kernel
theorem dX10_init_13 : decode cX10_init 13 = .ok (.aload_n 0, 1) := by decide +kernel
theorem dX10_init_14 : decode cX10_init 14 = .ok (.sipush 416, 3) := by decide +kernel
theorem dX10_init_17 : decode cX10_init 17 = .ok (.newarray .int, 2) := by decide +kernel
theorem dX10_init_19 : decode cX10_init 19 = .ok (.putfield 13, 3) := by decide +kernel
theorem dX10_init_22 : decode cX10_init 22 = .ok (.aload_n 0, 1) := by decide +kernel
theorem dX10_init_23 : decode cX10_init 23 = .ok (.sipush 416, 3) := by decide +kernel
theorem dX10_init_26 : decode cX10_init 26 = .ok (.newarray .int, 2) := by decide +kernel
theorem dX10_init_28 : decode cX10_init 28 = .ok (.putfield 16, 3) := by decide +kernel
theorem dX10_init_31 : decode cX10_init 31 = .ok (.aload_n 0, 1) := by decide +kernel
theorem dX10_init_32 : decode cX10_init 32 = .ok (.bipush 7, 2) := by decide +kernel
theorem dX10_init_34 : decode cX10_init 34 = .ok (.newarray .int, 2) := by decide +kernel
theorem dX10_init_36 : decode cX10_init 36 = .ok (.putfield 19, 3) := by decide +kernel
theorem dX10_init_39 : decode cX10_init 39 = .ok (.aload_n 0, 1) := by decide +kernel
theorem dX10_init_40 : decode cX10_init 40 = .ok (.iconst 4, 1) := by decide +kernel
theorem dX10_init_41 : decode cX10_init 41 = .ok (.newarray .int, 2) := by decide +kernel
theorem dX10_init_43 : decode cX10_init 43 = .ok (.putfield 22, 3) := by decide +kernel
theorem dX10_init_46 : decode cX10_init 46 = .ok (.aload_n 0, 1) := by decide +kernel
theorem dX10_init_47 : decode cX10_init 47 = .ok (.iconst 4, 1) := by decide +kernel
theorem dX10_init_48 : decode cX10_init 48 = .ok (.newarray .int, 2) := by decide +kernel
theorem dX10_init_50 : decode cX10_init 50 = .ok (.putfield 25, 3) := by decide +kernel
theorem dX10_init_53 : decode cX10_init 53 = .ok (.aload_n 0, 1) := by decide +kernel
theorem dX10_init_54 : decode cX10_init 54 = .ok (.bipush 96, 2) := by decide +kernel
theorem dX10_init_56 : decode cX10_init 56 = .ok (.newarray .int, 2) := by decide +kernel
theorem dX10_init_58 : decode cX10_init 58 = .ok (.putfield 28, 3) := by decide +kernel
theorem dX10_init_61 : decode cX10_init 61 = .ok (.aload_n 0, 1) := by decide +kernel
theorem dX10_init_62 : decode cX10_init 62 = .ok (.bipush 60, 2) := by decide +kernel
theorem dX10_init_64 : decode cX10_init 64 = .ok (.newarray .int, 2) := by decide +kernel
theorem dX10_init_66 : decode cX10_init 66 = .ok (.putfield 31, 3) := by decide +kernel
theorem dX10_init_69 : decode cX10_init 69 = .ok (.aload_n 0, 1) := by decide +kernel
theorem dX10_init_70 : decode cX10_init 70 = .ok (.bipush 60, 2) := by decide +kernel
theorem dX10_init_72 : decode cX10_init 72 = .ok (.newarray .int, 2) := by decide +kernel
theorem dX10_init_74 : decode cX10_init 74 = .ok (.putfield 34, 3) := by decide +kernel
theorem dX10_init_77 : decode cX10_init 77 = .ok (.aload_n 0, 1) := by decide +kernel
theorem dX10_init_78 : decode cX10_init 78 = .ok (.iconst 3, 1) := by decide +kernel
theorem dX10_init_79 : decode cX10_init 79 = .ok (.newarray .int, 2) := by decide +kernel
theorem dX10_init_81 : decode cX10_init 81 = .ok (.putfield 37, 3) := by decide +kernel
theorem dX10_init_84 : decode cX10_init 84 = .ok (.aload_n 0, 1) := by decide +kernel
theorem dX10_init_85 : decode cX10_init 85 = .ok (.bipush 60, 2) := by decide +kernel
theorem dX10_init_87 : decode cX10_init 87 = .ok (.newarray .int, 2) := by decide +kernel
theorem dX10_init_89 : decode cX10_init 89 = .ok (.putfield 40, 3) := by decide +kernel
theorem dX10_init_92 : decode cX10_init 92 = .ok (.aload_n 0, 1) := by decide +kernel
theorem dX10_init_93 : decode cX10_init 93 = .ok (.bipush 72, 2) := by decide +kernel
theorem dX10_init_95 : decode cX10_init 95 = .ok (.newarray .int, 2) := by decide +kernel
theorem dX10_init_97 : decode cX10_init 97 = .ok (.putfield 43, 3) := by decide +kernel
theorem dX10_init_100 : decode cX10_init 100 = .ok (.aload_n 0, 1) := by decide +kernel
theorem dX10_init_101 : decode cX10_init 101 = .ok (.bipush 30, 2) := by decide +kernel
theorem dX10_init_103 : decode cX10_init 103 = .ok (.newarray .int, 2) := by decide +kernel
theorem dX10_init_105 : decode cX10_init 105 = .ok (.putfield 46, 3) := by decide +kernel
theorem dX10_init_108 : decode cX10_init 108 = .ok (.aload_n 0, 1) := by decide +kernel
theorem dX10_init_109 : decode cX10_init 109 = .ok (.getfield 9, 3) := by decide +kernel
theorem dX10_init_112 : decode cX10_init 112 = .ok (.iconst 1, 1) := by decide +kernel
theorem dX10_init_113 : decode cX10_init 113 = .ok (.iconst 1, 1) := by decide +kernel
theorem dX10_init_114 : decode cX10_init 114 = .ok (.iastore, 1) := by decide +kernel
theorem dX10_init_115 : decode cX10_init 115 = .ok (.aload_n 0, 1) := by decide +kernel
theorem dX10_init_116 : decode cX10_init 116 = .ok (.getfield 9, 3) := by decide +kernel
theorem dX10_init_119 : decode cX10_init 119 = .ok (.iconst 3, 1) := by decide +kernel
theorem dX10_init_120 : decode cX10_init 120 = .ok (.iconst 5, 1) := by decide +kernel
theorem dX10_init_121 : decode cX10_init 121 = .ok (.iastore, 1) := by decide +kernel
theorem dX10_init_122 : decode cX10_init 122 = .ok (.return_, 1) := by decide +kernel
theorem dX10_error_0 : decode cX10_error 0 = .ok (.aload_n 0, 1) := by decide +kernel
theorem dX10_error_1 : decode cX10_error 1 = .ok (.getfield 19, 3) := by decide +kernel
theorem dX10_error_4 : decode cX10_error 4 = .ok (.ldc 49, 2) := by decide +kernel
theorem dX10_error_6 : decode cX10_error 6 = .ok (.iload_n 1, 1) := by decide +kernel
theorem dX10_error_7 : decode cX10_error 7 = .ok (.isub, 1) := by decide +kernel
theorem dX10_error_8 : decode cX10_error 8 = .ok (.dup2, 1) := by decide +kernel
theorem dX10_error_9 : decode cX10_error 9 = .ok (.iaload, 1) := by decide +kernel
theorem dX10_error_10 : decode cX10_error 10 = .ok (.iconst 1, 1) := by decide +kernel
theorem dX10_error_11 : decode cX10_error 11 = .ok (.iadd, 1) := by decide +kernel
theorem dX10_error_12 : decode cX10_error 12 = .ok (.iastore, 1) := by decide +kernel
theorem dX10_error_13 : decode cX10_error 13 = .ok (.iload_n 1, 1) := by decide +kernel
theorem dX10_error_14 : decode cX10_error 14 = .ok (.ireturn, 1) := by decide +kernel
theorem dX10_in_0 : decode cX10_in 0 = .ok (.iload_n 0, 1) := by decide +kernel
theorem dX10_in_1 : decode cX10_in 1 = .ok (.iload_n 1, 1) := by decide +kernel
theorem dX10_in_2 : decode cX10_in 2 = .ok (.if_icmp .lt 12, 3) := by decide +kernel
theorem dX10_in_5 : decode cX10_in 5 = .ok (.iload_n 0, 1) := by decide +kernel
theorem dX10_in_6 : decode cX10_in 6 = .ok (.iload_n 2, 1) := by decide +kernel
theorem dX10_in_7 : decode cX10_in 7 = .ok (.if_icmp .gt 7, 3) := by decide +kernel
theorem dX10_in_10 : decode cX10_in 10 = .ok (.iconst 1, 1) := by decide +kernel
theorem dX10_in_11 : decode cX10_in 11 = .ok (.goto 4, 3) := by decide +kernel
theorem dX10_in_14 : decode cX10_in 14 = .ok (.iconst 0, 1) := by decide +kernel
theorem dX10_in_15 : decode cX10_in 15 = .ok (.ireturn, 1) := by decide +kernel
theorem dX10_held_0 : decode cX10_held 0 = .ok (.iload_n 0, 1) := by decide +kernel
theorem dX10_held_1 : decode cX10_held 1 = .ok (.iload_n 1, 1) := by decide +kernel
theorem dX10_held_2 : decode cX10_held 2 = .ok (.if_icmp .ge 7, 3) := by decide +kernel
theorem dX10_held_5 : decode cX10_held 5 = .ok (.iload_n 1, 1) := by decide +kernel
theorem dX10_held_6 : decode cX10_held 6 = .ok (.goto 13, 3) := by decide +kernel
theorem dX10_held_9 : decode cX10_held 9 = .ok (.iload_n 0, 1) := by decide +kernel
theorem dX10_held_10 : decode cX10_held 10 = .ok (.iload_n 2, 1) := by decide +kernel
theorem dX10_held_11 : decode cX10_held 11 = .ok (.if_icmp .le 7, 3) := by decide +kernel
theorem dX10_held_14 : decode cX10_held 14 = .ok (.iload_n 2, 1) := by decide +kernel
theorem dX10_held_15 : decode cX10_held 15 = .ok (.goto 4, 3) := by decide +kernel
theorem dX10_held_18 : decode cX10_held 18 = .ok (.iload_n 0, 1) := by decide +kernel
theorem dX10_held_19 : decode cX10_held 19 = .ok (.ireturn, 1) := by decide +kernel
theorem dX10_copyAll_0 : decode cX10_copyAll 0 = .ok (.iconst 0, 1) := by decide +kernel
theorem dX10_copyAll_1 : decode cX10_copyAll 1 = .ok (.istore_n 2, 1) := by decide +kernel
theorem dX10_copyAll_2 : decode cX10_copyAll 2 = .ok (.iload_n 2, 1) := by decide +kernel
theorem dX10_copyAll_3 : decode cX10_copyAll 3 = .ok (.sipush 416, 3) := by decide +kernel
theorem dX10_copyAll_6 : decode cX10_copyAll 6 = .ok (.if_icmp .ge 15, 3) := by decide +kernel
theorem dX10_copyAll_9 : decode cX10_copyAll 9 = .ok (.aload_n 1, 1) := by decide +kernel
theorem dX10_copyAll_10 : decode cX10_copyAll 10 = .ok (.iload_n 2, 1) := by decide +kernel
theorem dX10_copyAll_11 : decode cX10_copyAll 11 = .ok (.aload_n 0, 1) := by decide +kernel
theorem dX10_copyAll_12 : decode cX10_copyAll 12 = .ok (.iload_n 2, 1) := by decide +kernel
theorem dX10_copyAll_13 : decode cX10_copyAll 13 = .ok (.iaload, 1) := by decide +kernel
theorem dX10_copyAll_14 : decode cX10_copyAll 14 = .ok (.iastore, 1) := by decide +kernel
theorem dX10_copyAll_15 : decode cX10_copyAll 15 = .ok (.iinc 2 1, 3) := by decide +kernel
theorem dX10_copyAll_18 : decode cX10_copyAll 18 = .ok (.goto (-16), 3) := by decide +kernel
theorem dX10_copyAll_21 : decode cX10_copyAll 21 = .ok (.return_, 1) := by decide +kernel
theorem dX10_thinks_0 : decode cX10_thinks 0 = .ok (.aload_n 0, 1) := by decide +kernel
theorem dX10_thinks_1 : decode cX10_thinks 1 = .ok (.getfield 9, 3) := by decide +kernel
theorem dX10_thinks_4 : decode cX10_thinks 4 = .ok (.aload_n 0, 1) := by decide +kernel
theorem dX10_thinks_5 : decode cX10_thinks 5 = .ok (.getfield 16, 3) := by decide +kernel
theorem dX10_thinks_8 : decode cX10_thinks 8 = .ok (.invokestatic 50, 3) := by decide +kernel
theorem dX10_thinks_11 : decode cX10_thinks 11 = .ok (.return_, 1) := by decide +kernel
theorem dX10_putsBack_0 : decode cX10_putsBack 0 = .ok (.aload_n 0, 1) := by decide +kernel
theorem dX10_putsBack_1 : decode cX10_putsBack 1 = .ok (.getfield 16, 3) := by decide +kernel
theorem dX10_putsBack_4 : decode cX10_putsBack 4 = .ok (.aload_n 0, 1) := by decide +kernel
theorem dX10_putsBack_5 : decode cX10_putsBack 5 = .ok (.getfield 9, 3) := by decide +kernel
theorem dX10_putsBack_8 : decode cX10_putsBack 8 = .ok (.invokestatic 50, 3) := by decide +kernel
theorem dX10_putsBack_11 : decode cX10_putsBack 11 = .ok (.return_, 1) := by decide +kernel
theorem dX10_bits_0 : decode cX10_bits 0 = .ok (.iconst 0, 1) := by decide +kernel
theorem dX10_bits_1 : decode cX10_bits 1 = .ok (.istore_n 1, 1) := by decide +kernel
theorem dX10_bits_2 : decode cX10_bits 2 = .ok (.iload_n 0, 1) := by decide +kernel
theorem dX10_bits_3 : decode cX10_bits 3 = .ok (.istore_n 2, 1) := by decide +kernel
theorem dX10_bits_4 : decode cX10_bits 4 = .ok (.iload_n 2, 1) := by decide +kernel
theorem dX10_bits_5 : decode cX10_bits 5 = .ok (.ifCond .eq 15, 3) := by decide +kernel
theorem dX10_bits_8 : decode cX10_bits 8 = .ok (.iinc 1 1, 3) := by decide +kernel
theorem dX10_bits_11 : decode cX10_bits 11 = .ok (.iload_n 2, 1) := by decide +kernel
theorem dX10_bits_12 : decode cX10_bits 12 = .ok (.iload_n 2, 1) := by decide +kernel
theorem dX10_bits_13 : decode cX10_bits 13 = .ok (.iconst 1, 1) := by decide +kernel
theorem dX10_bits_14 : decode cX10_bits 14 = .ok (.isub, 1) := by decide +kernel
theorem dX10_bits_15 : decode cX10_bits 15 = .ok (.iand, 1) := by decide +kernel
theorem dX10_bits_16 : decode cX10_bits 16 = .ok (.istore_n 2, 1) := by decide +kernel
theorem dX10_bits_17 : decode cX10_bits 17 = .ok (.goto (-13), 3) := by decide +kernel
theorem dX10_bits_20 : decode cX10_bits 20 = .ok (.iload_n 1, 1) := by decide +kernel
theorem dX10_bits_21 : decode cX10_bits 21 = .ok (.ireturn, 1) := by decide +kernel
theorem dX10_isFurrow_0 : decode cX10_isFurrow 0 = .ok (.iload_n 1, 1) := by decide +kernel
theorem dX10_isFurrow_1 : decode cX10_isFurrow 1 = .ok (.iconst 0, 1) := by decide +kernel
theorem dX10_isFurrow_2 : decode cX10_isFurrow 2 = .ok (.aload_n 0, 1) := by decide +kernel
theorem dX10_isFurrow_3 : decode cX10_isFurrow 3 = .ok (.getfield 9, 3) := by decide +kernel
theorem dX10_isFurrow_6 : decode cX10_isFurrow 6 = .ok (.iconst 2, 1) := by decide +kernel
theorem dX10_isFurrow_7 : decode cX10_isFurrow 7 = .ok (.iaload, 1) := by decide +kernel
theorem dX10_isFurrow_8 : decode cX10_isFurrow 8 = .ok (.iconst 1, 1) := by decide +kernel
theorem dX10_isFurrow_9 : decode cX10_isFurrow 9 = .ok (.isub, 1) := by decide +kernel
theorem dX10_isFurrow_10 : decode cX10_isFurrow 10 = .ok (.invokestatic 54, 3) := by decide +kernel
theorem dX10_isFurrow_13 : decode cX10_isFurrow 13 = .ok (.ireturn, 1) := by decide +kernel
theorem dX10_becomes_0 : decode cX10_becomes 0 = .ok (.aload_n 0, 1) := by decide +kernel
theorem dX10_becomes_1 : decode cX10_becomes 1 = .ok (.getfield 9, 3) := by decide +kernel
theorem dX10_becomes_4 : decode cX10_becomes 4 = .ok (.iload_n 1, 1) := by decide +kernel
theorem dX10_becomes_5 : decode cX10_becomes 5 = .ok (.iaload, 1) := by decide +kernel
theorem dX10_becomes_6 : decode cX10_becomes 6 = .ok (.istore_n 3, 1) := by decide +kernel
theorem dX10_becomes_7 : decode cX10_becomes 7 = .ok (.aload_n 0, 1) := by decide +kernel
theorem dX10_becomes_8 : decode cX10_becomes 8 = .ok (.getfield 9, 3) := by decide +kernel
theorem dX10_becomes_11 : decode cX10_becomes 11 = .ok (.iload_n 1, 1) := by decide +kernel
theorem dX10_becomes_12 : decode cX10_becomes 12 = .ok (.iload_n 2, 1) := by decide +kernel
theorem dX10_becomes_13 : decode cX10_becomes 13 = .ok (.iastore, 1) := by decide +kernel
theorem dX10_becomes_14 : decode cX10_becomes 14 = .ok (.iload_n 3, 1) := by decide +kernel
theorem dX10_becomes_15 : decode cX10_becomes 15 = .ok (.ireturn, 1) := by decide +kernel
theorem dX10_of_0 : decode cX10_of 0 = .ok (.aload_n 0, 1) := by decide +kernel
theorem dX10_of_1 : decode cX10_of 1 = .ok (.getfield 9, 3) := by decide +kernel
theorem dX10_of_4 : decode cX10_of 4 = .ok (.bipush 6, 2) := by decide +kernel
theorem dX10_of_6 : decode cX10_of 6 = .ok (.bipush 7, 2) := by decide +kernel
theorem dX10_of_8 : decode cX10_of 8 = .ok (.iload_n 1, 1) := by decide +kernel
theorem dX10_of_9 : decode cX10_of 9 = .ok (.imul, 1) := by decide +kernel
theorem dX10_of_10 : decode cX10_of 10 = .ok (.iadd, 1) := by decide +kernel
theorem dX10_of_11 : decode cX10_of 11 = .ok (.iload_n 2, 1) := by decide +kernel
theorem dX10_of_12 : decode cX10_of 12 = .ok (.iadd, 1) := by decide +kernel
theorem dX10_of_13 : decode cX10_of 13 = .ok (.iaload, 1) := by decide +kernel
theorem dX10_of_14 : decode cX10_of 14 = .ok (.ireturn, 1) := by decide +kernel
theorem dX10_lets_0 : decode cX10_lets 0 = .ok (.aload_n 0, 1) := by decide +kernel
theorem dX10_lets_1 : decode cX10_lets 1 = .ok (.getfield 9, 3) := by decide +kernel
theorem dX10_lets_4 : decode cX10_lets 4 = .ok (.bipush 6, 2) := by decide +kernel
theorem dX10_lets_6 : decode cX10_lets 6 = .ok (.bipush 7, 2) := by decide +kernel
theorem dX10_lets_8 : decode cX10_lets 8 = .ok (.iload_n 1, 1) := by decide +kernel
theorem dX10_lets_9 : decode cX10_lets 9 = .ok (.imul, 1) := by decide +kernel
theorem dX10_lets_10 : decode cX10_lets 10 = .ok (.iadd, 1) := by decide +kernel
theorem dX10_lets_11 : decode cX10_lets 11 = .ok (.iload_n 2, 1) := by decide +kernel
theorem dX10_lets_12 : decode cX10_lets 12 = .ok (.iadd, 1) := by decide +kernel
theorem dX10_lets_13 : decode cX10_lets 13 = .ok (.iload_n 3, 1) := by decide +kernel
theorem dX10_lets_14 : decode cX10_lets 14 = .ok (.iastore, 1) := by decide +kernel
theorem dX10_lets_15 : decode cX10_lets 15 = .ok (.return_, 1) := by decide +kernel
theorem dX10_doesAnswer_0 : decode cX10_doesAnswer 0 = .ok (.aload_n 0, 1) := by decide +kernel
theorem dX10_doesAnswer_1 : decode cX10_doesAnswer 1 = .ok (.iload_n 1, 1) := by decide +kernel
theorem dX10_doesAnswer_2 : decode cX10_doesAnswer 2 = .ok (.iconst 2, 1) := by decide +kernel
theorem dX10_doesAnswer_3 : decode cX10_doesAnswer 3 = .ok (.invokevirtual 58, 3) := by decide +kernel
theorem dX10_doesAnswer_6 : decode cX10_doesAnswer 6 = .ok (.aload_n 0, 1) := by decide +kernel
theorem dX10_doesAnswer_7 : decode cX10_doesAnswer 7 = .ok (.iload_n 2, 1) := by decide +kernel
theorem dX10_doesAnswer_8 : decode cX10_doesAnswer 8 = .ok (.iconst 2, 1) := by decide +kernel
theorem dX10_doesAnswer_9 : decode cX10_doesAnswer 9 = .ok (.invokevirtual 58, 3) := by decide +kernel
theorem dX10_doesAnswer_12 : decode cX10_doesAnswer 12 = .ok (.if_icmp .ne 7, 3) := by decide +kernel
theorem dX10_doesAnswer_15 : decode cX10_doesAnswer 15 = .ok (.iconst 1, 1) := by decide +kernel
theorem dX10_doesAnswer_16 : decode cX10_doesAnswer 16 = .ok (.goto 4, 3) := by decide +kernel
theorem dX10_doesAnswer_19 : decode cX10_doesAnswer 19 = .ok (.iconst 0, 1) := by decide +kernel
theorem dX10_doesAnswer_20 : decode cX10_doesAnswer 20 = .ok (.istore_n 3, 1) := by decide +kernel
theorem dX10_doesAnswer_21 : decode cX10_doesAnswer 21 = .ok (.aload_n 0, 1) := by decide +kernel
theorem dX10_doesAnswer_22 : decode cX10_doesAnswer 22 = .ok (.iload_n 1, 1) := by decide +kernel
theorem dX10_doesAnswer_23 : decode cX10_doesAnswer 23 = .ok (.iconst 3, 1) := by decide +kernel
theorem dX10_doesAnswer_24 : decode cX10_doesAnswer 24 = .ok (.invokevirtual 58, 3) := by decide +kernel
theorem dX10_doesAnswer_27 : decode cX10_doesAnswer 27 = .ok (.aload_n 0, 1) := by decide +kernel
theorem dX10_doesAnswer_28 : decode cX10_doesAnswer 28 = .ok (.iload_n 2, 1) := by decide +kernel
theorem dX10_doesAnswer_29 : decode cX10_doesAnswer 29 = .ok (.iconst 3, 1) := by decide +kernel
theorem dX10_doesAnswer_30 : decode cX10_doesAnswer 30 = .ok (.invokevirtual 58, 3) := by decide +kernel
theorem dX10_doesAnswer_33 : decode cX10_doesAnswer 33 = .ok (.if_icmp .ne 7, 3) := by decide +kernel
theorem dX10_doesAnswer_36 : decode cX10_doesAnswer 36 = .ok (.iconst 1, 1) := by decide +kernel
theorem dX10_doesAnswer_37 : decode cX10_doesAnswer 37 = .ok (.goto 4, 3) := by decide +kernel
theorem dX10_doesAnswer_40 : decode cX10_doesAnswer 40 = .ok (.iconst 0, 1) := by decide +kernel
theorem dX10_doesAnswer_41 : decode cX10_doesAnswer 41 = .ok (.istore 4, 2) := by decide +kernel
theorem dX10_doesAnswer_43 : decode cX10_doesAnswer 43 = .ok (.aload_n 0, 1) := by decide +kernel
theorem dX10_doesAnswer_44 : decode cX10_doesAnswer 44 = .ok (.iload_n 1, 1) := by decide +kernel
theorem dX10_doesAnswer_45 : decode cX10_doesAnswer 45 = .ok (.iconst 3, 1) := by decide +kernel
theorem dX10_doesAnswer_46 : decode cX10_doesAnswer 46 = .ok (.invokevirtual 58, 3) := by decide +kernel
theorem dX10_doesAnswer_49 : decode cX10_doesAnswer 49 = .ok (.aload_n 0, 1) := by decide +kernel
theorem dX10_doesAnswer_50 : decode cX10_doesAnswer 50 = .ok (.iload_n 2, 1) := by decide +kernel
theorem dX10_doesAnswer_51 : decode cX10_doesAnswer 51 = .ok (.iconst 3, 1) := by decide +kernel
theorem dX10_doesAnswer_52 : decode cX10_doesAnswer 52 = .ok (.invokevirtual 58, 3) := by decide +kernel
theorem dX10_doesAnswer_55 : decode cX10_doesAnswer 55 = .ok (.if_icmp .lt 7, 3) := by decide +kernel
theorem dX10_doesAnswer_58 : decode cX10_doesAnswer 58 = .ok (.iconst 1, 1) := by decide +kernel
theorem dX10_doesAnswer_59 : decode cX10_doesAnswer 59 = .ok (.goto 4, 3) := by decide +kernel
theorem dX10_doesAnswer_62 : decode cX10_doesAnswer 62 = .ok (.iconst 0, 1) := by decide +kernel
theorem dX10_doesAnswer_63 : decode cX10_doesAnswer 63 = .ok (.istore 5, 2) := by decide +kernel
theorem dX10_doesAnswer_65 : decode cX10_doesAnswer 65 = .ok (.aload_n 0, 1) := by decide +kernel
theorem dX10_doesAnswer_66 : decode cX10_doesAnswer 66 = .ok (.iload_n 1, 1) := by decide +kernel
theorem dX10_doesAnswer_67 : decode cX10_doesAnswer 67 = .ok (.iconst 0, 1) := by decide +kernel
theorem dX10_doesAnswer_68 : decode cX10_doesAnswer 68 = .ok (.invokevirtual 58, 3) := by decide +kernel
theorem dX10_doesAnswer_71 : decode cX10_doesAnswer 71 = .ok (.tableswitch 142 1 6 #[37, 39, 42, 86, 101, 112], 37) := by decide +kernel
theorem dX10_doesAnswer_108 : decode cX10_doesAnswer 108 = .ok (.iload_n 3, 1) := by decide +kernel
theorem dX10_doesAnswer_109 : decode cX10_doesAnswer 109 = .ok (.ireturn, 1) := by decide +kernel
theorem dX10_doesAnswer_110 : decode cX10_doesAnswer 110 = .ok (.iload 5, 2) := by decide +kernel
theorem dX10_doesAnswer_112 : decode cX10_doesAnswer 112 = .ok (.ireturn, 1) := by decide +kernel
theorem dX10_doesAnswer_113 : decode cX10_doesAnswer 113 = .ok (.iload_n 3, 1) := by decide +kernel
theorem dX10_doesAnswer_114 : decode cX10_doesAnswer 114 = .ok (.ifCond .ne 37, 3) := by decide +kernel
theorem dX10_doesAnswer_117 : decode cX10_doesAnswer 117 = .ok (.iload 4, 2) := by decide +kernel
theorem dX10_doesAnswer_119 : decode cX10_doesAnswer 119 = .ok (.ifCond .ne 32, 3) := by decide +kernel
theorem dX10_doesAnswer_122 : decode cX10_doesAnswer 122 = .ok (.aload_n 0, 1) := by decide +kernel
theorem dX10_doesAnswer_123 : decode cX10_doesAnswer 123 = .ok (.iload_n 1, 1) := by decide +kernel
theorem dX10_doesAnswer_124 : decode cX10_doesAnswer 124 = .ok (.iconst 2, 1) := by decide +kernel
theorem dX10_doesAnswer_125 : decode cX10_doesAnswer 125 = .ok (.invokevirtual 58, 3) := by decide +kernel
theorem dX10_doesAnswer_128 : decode cX10_doesAnswer 128 = .ok (.aload_n 0, 1) := by decide +kernel
theorem dX10_doesAnswer_129 : decode cX10_doesAnswer 129 = .ok (.iload_n 1, 1) := by decide +kernel
theorem dX10_doesAnswer_130 : decode cX10_doesAnswer 130 = .ok (.iconst 3, 1) := by decide +kernel
theorem dX10_doesAnswer_131 : decode cX10_doesAnswer 131 = .ok (.invokevirtual 58, 3) := by decide +kernel
theorem dX10_doesAnswer_134 : decode cX10_doesAnswer 134 = .ok (.iadd, 1) := by decide +kernel
theorem dX10_doesAnswer_135 : decode cX10_doesAnswer 135 = .ok (.aload_n 0, 1) := by decide +kernel
theorem dX10_doesAnswer_136 : decode cX10_doesAnswer 136 = .ok (.iload_n 2, 1) := by decide +kernel
theorem dX10_doesAnswer_137 : decode cX10_doesAnswer 137 = .ok (.iconst 2, 1) := by decide +kernel
theorem dX10_doesAnswer_138 : decode cX10_doesAnswer 138 = .ok (.invokevirtual 58, 3) := by decide +kernel
theorem dX10_doesAnswer_141 : decode cX10_doesAnswer 141 = .ok (.aload_n 0, 1) := by decide +kernel
theorem dX10_doesAnswer_142 : decode cX10_doesAnswer 142 = .ok (.iload_n 2, 1) := by decide +kernel
theorem dX10_doesAnswer_143 : decode cX10_doesAnswer 143 = .ok (.iconst 3, 1) := by decide +kernel
theorem dX10_doesAnswer_144 : decode cX10_doesAnswer 144 = .ok (.invokevirtual 58, 3) := by decide +kernel
theorem dX10_doesAnswer_147 : decode cX10_doesAnswer 147 = .ok (.iadd, 1) := by decide +kernel
theorem dX10_doesAnswer_148 : decode cX10_doesAnswer 148 = .ok (.if_icmp .ne 7, 3) := by decide +kernel
theorem dX10_doesAnswer_151 : decode cX10_doesAnswer 151 = .ok (.iconst 1, 1) := by decide +kernel
theorem dX10_doesAnswer_152 : decode cX10_doesAnswer 152 = .ok (.goto 4, 3) := by decide +kernel
theorem dX10_doesAnswer_155 : decode cX10_doesAnswer 155 = .ok (.iconst 0, 1) := by decide +kernel
theorem dX10_doesAnswer_156 : decode cX10_doesAnswer 156 = .ok (.ireturn, 1) := by decide +kernel
theorem dX10_doesAnswer_157 : decode cX10_doesAnswer 157 = .ok (.iload_n 3, 1) := by decide +kernel
theorem dX10_doesAnswer_158 : decode cX10_doesAnswer 158 = .ok (.ifCond .eq 12, 3) := by decide +kernel
theorem dX10_doesAnswer_161 : decode cX10_doesAnswer 161 = .ok (.iload 4, 2) := by decide +kernel
theorem dX10_doesAnswer_163 : decode cX10_doesAnswer 163 = .ok (.ifCond .eq 7, 3) := by decide +kernel
theorem dX10_doesAnswer_166 : decode cX10_doesAnswer 166 = .ok (.iconst 1, 1) := by decide +kernel
theorem dX10_doesAnswer_167 : decode cX10_doesAnswer 167 = .ok (.goto 4, 3) := by decide +kernel
theorem dX10_doesAnswer_170 : decode cX10_doesAnswer 170 = .ok (.iconst 0, 1) := by decide +kernel
theorem dX10_doesAnswer_171 : decode cX10_doesAnswer 171 = .ok (.ireturn, 1) := by decide +kernel
theorem dX10_doesAnswer_172 : decode cX10_doesAnswer 172 = .ok (.iload 5, 2) := by decide +kernel
theorem dX10_doesAnswer_174 : decode cX10_doesAnswer 174 = .ok (.ifCond .ne 7, 3) := by decide +kernel
theorem dX10_doesAnswer_177 : decode cX10_doesAnswer 177 = .ok (.iconst 1, 1) := by decide +kernel
theorem dX10_doesAnswer_178 : decode cX10_doesAnswer 178 = .ok (.goto 4, 3) := by decide +kernel
theorem dX10_doesAnswer_181 : decode cX10_doesAnswer 181 = .ok (.iconst 0, 1) := by decide +kernel
theorem dX10_doesAnswer_182 : decode cX10_doesAnswer 182 = .ok (.ireturn, 1) := by decide +kernel
theorem dX10_doesAnswer_183 : decode cX10_doesAnswer 183 = .ok (.iload_n 3, 1) := by decide +kernel
theorem dX10_doesAnswer_184 : decode cX10_doesAnswer 184 = .ok (.ifCond .ne 23, 3) := by decide +kernel
theorem dX10_doesAnswer_187 : decode cX10_doesAnswer 187 = .ok (.iload 4, 2) := by decide +kernel
theorem dX10_doesAnswer_189 : decode cX10_doesAnswer 189 = .ok (.ifCond .ne 18, 3) := by decide +kernel
theorem dX10_doesAnswer_192 : decode cX10_doesAnswer 192 = .ok (.aload_n 0, 1) := by decide +kernel
theorem dX10_doesAnswer_193 : decode cX10_doesAnswer 193 = .ok (.iload_n 1, 1) := by decide +kernel
theorem dX10_doesAnswer_194 : decode cX10_doesAnswer 194 = .ok (.iconst 4, 1) := by decide +kernel
theorem dX10_doesAnswer_195 : decode cX10_doesAnswer 195 = .ok (.invokevirtual 58, 3) := by decide +kernel
theorem dX10_doesAnswer_198 : decode cX10_doesAnswer 198 = .ok (.aload_n 0, 1) := by decide +kernel
theorem dX10_doesAnswer_199 : decode cX10_doesAnswer 199 = .ok (.iload_n 2, 1) := by decide +kernel
theorem dX10_doesAnswer_200 : decode cX10_doesAnswer 200 = .ok (.iconst 4, 1) := by decide +kernel
theorem dX10_doesAnswer_201 : decode cX10_doesAnswer 201 = .ok (.invokevirtual 58, 3) := by decide +kernel
theorem dX10_doesAnswer_204 : decode cX10_doesAnswer 204 = .ok (.if_icmp .ne 7, 3) := by decide +kernel
theorem dX10_doesAnswer_207 : decode cX10_doesAnswer 207 = .ok (.iconst 1, 1) := by decide +kernel
theorem dX10_doesAnswer_208 : decode cX10_doesAnswer 208 = .ok (.goto 4, 3) := by decide +kernel
theorem dX10_doesAnswer_211 : decode cX10_doesAnswer 211 = .ok (.iconst 0, 1) := by decide +kernel
theorem dX10_doesAnswer_212 : decode cX10_doesAnswer 212 = .ok (.ireturn, 1) := by decide +kernel
theorem dX10_doesAnswer_213 : decode cX10_doesAnswer 213 = .ok (.iload_n 3, 1) := by decide +kernel
theorem dX10_doesAnswer_214 : decode cX10_doesAnswer 214 = .ok (.ifCond .ne 8, 3) := by decide +kernel
theorem dX10_doesAnswer_217 : decode cX10_doesAnswer 217 = .ok (.iload 4, 2) := by decide +kernel
theorem dX10_doesAnswer_219 : decode cX10_doesAnswer 219 = .ok (.ifCond .eq 7, 3) := by decide +kernel
theorem dX10_doesAnswer_222 : decode cX10_doesAnswer 222 = .ok (.iconst 1, 1) := by decide +kernel
theorem dX10_doesAnswer_223 : decode cX10_doesAnswer 223 = .ok (.goto 4, 3) := by decide +kernel
theorem dX10_doesAnswer_226 : decode cX10_doesAnswer 226 = .ok (.iconst 0, 1) := by decide +kernel
theorem dX10_doesAnswer_227 : decode cX10_doesAnswer 227 = .ok (.ireturn, 1) := by decide +kernel
theorem dX10_depthOf_0 : decode cX10_depthOf 0 = .ok (.aload_n 0, 1) := by decide +kernel
theorem dX10_depthOf_1 : decode cX10_depthOf 1 = .ok (.iload_n 1, 1) := by decide +kernel
theorem dX10_depthOf_2 : decode cX10_depthOf 2 = .ok (.iconst 1, 1) := by decide +kernel
theorem dX10_depthOf_3 : decode cX10_depthOf 3 = .ok (.invokevirtual 58, 3) := by decide +kernel
theorem dX10_depthOf_6 : decode cX10_depthOf 6 = .ok (.istore_n 2, 1) := by decide +kernel
theorem dX10_depthOf_7 : decode cX10_depthOf 7 = .ok (.aload_n 0, 1) := by decide +kernel
theorem dX10_depthOf_8 : decode cX10_depthOf 8 = .ok (.iload_n 1, 1) := by decide +kernel
theorem dX10_depthOf_9 : decode cX10_depthOf 9 = .ok (.iconst 0, 1) := by decide +kernel
theorem dX10_depthOf_10 : decode cX10_depthOf 10 = .ok (.invokevirtual 58, 3) := by decide +kernel
theorem dX10_depthOf_13 : decode cX10_depthOf 13 = .ok (.tableswitch 73 1 6 #[39, 43, 73, 47, 58, 64], 39) := by decide +kernel
theorem dX10_depthOf_52 : decode cX10_depthOf 52 = .ok (.iload_n 2, 1) := by decide +kernel
theorem dX10_depthOf_53 : decode cX10_depthOf 53 = .ok (.iconst 2, 1) := by decide +kernel
theorem dX10_depthOf_54 : decode cX10_depthOf 54 = .ok (.iadd, 1) := by decide +kernel
theorem dX10_depthOf_55 : decode cX10_depthOf 55 = .ok (.ireturn, 1) := by decide +kernel
theorem dX10_depthOf_56 : decode cX10_depthOf 56 = .ok (.iconst 2, 1) := by decide +kernel
theorem dX10_depthOf_57 : decode cX10_depthOf 57 = .ok (.iload_n 2, 1) := by decide +kernel
theorem dX10_depthOf_58 : decode cX10_depthOf 58 = .ok (.imul, 1) := by decide +kernel
theorem dX10_depthOf_59 : decode cX10_depthOf 59 = .ok (.ireturn, 1) := by decide +kernel
theorem dX10_depthOf_60 : decode cX10_depthOf 60 = .ok (.iload_n 2, 1) := by decide +kernel
theorem dX10_depthOf_61 : decode cX10_depthOf 61 = .ok (.iconst 2, 1) := by decide +kernel
theorem dX10_depthOf_62 : decode cX10_depthOf 62 = .ok (.iadd, 1) := by decide +kernel
theorem dX10_depthOf_63 : decode cX10_depthOf 63 = .ok (.aload_n 0, 1) := by decide +kernel
theorem dX10_depthOf_64 : decode cX10_depthOf 64 = .ok (.iload_n 1, 1) := by decide +kernel
theorem dX10_depthOf_65 : decode cX10_depthOf 65 = .ok (.iconst 3, 1) := by decide +kernel
theorem dX10_depthOf_66 : decode cX10_depthOf 66 = .ok (.invokevirtual 58, 3) := by decide +kernel
theorem dX10_depthOf_69 : decode cX10_depthOf 69 = .ok (.iadd, 1) := by decide +kernel
theorem dX10_depthOf_70 : decode cX10_depthOf 70 = .ok (.ireturn, 1) := by decide +kernel
theorem dX10_depthOf_71 : decode cX10_depthOf 71 = .ok (.iconst 2, 1) := by decide +kernel
theorem dX10_depthOf_72 : decode cX10_depthOf 72 = .ok (.iload_n 2, 1) := by decide +kernel
theorem dX10_depthOf_73 : decode cX10_depthOf 73 = .ok (.imul, 1) := by decide +kernel
theorem dX10_depthOf_74 : decode cX10_depthOf 74 = .ok (.iconst 1, 1) := by decide +kernel
theorem dX10_depthOf_75 : decode cX10_depthOf 75 = .ok (.isub, 1) := by decide +kernel
theorem dX10_depthOf_76 : decode cX10_depthOf 76 = .ok (.ireturn, 1) := by decide +kernel
theorem dX10_depthOf_77 : decode cX10_depthOf 77 = .ok (.iload_n 2, 1) := by decide +kernel
theorem dX10_depthOf_78 : decode cX10_depthOf 78 = .ok (.aload_n 0, 1) := by decide +kernel
theorem dX10_depthOf_79 : decode cX10_depthOf 79 = .ok (.iload_n 1, 1) := by decide +kernel
theorem dX10_depthOf_80 : decode cX10_depthOf 80 = .ok (.iconst 2, 1) := by decide +kernel
theorem dX10_depthOf_81 : decode cX10_depthOf 81 = .ok (.invokevirtual 58, 3) := by decide +kernel
theorem dX10_depthOf_84 : decode cX10_depthOf 84 = .ok (.iadd, 1) := by decide +kernel
theorem dX10_depthOf_85 : decode cX10_depthOf 85 = .ok (.ireturn, 1) := by decide +kernel
theorem dX10_depthOf_86 : decode cX10_depthOf 86 = .ok (.iload_n 2, 1) := by decide +kernel
theorem dX10_depthOf_87 : decode cX10_depthOf 87 = .ok (.ireturn, 1) := by decide +kernel
theorem dX10_isSeen_0 : decode cX10_isSeen 0 = .ok (.aload_n 0, 1) := by decide +kernel
theorem dX10_isSeen_1 : decode cX10_isSeen 1 = .ok (.iload_n 1, 1) := by decide +kernel
theorem dX10_isSeen_2 : decode cX10_isSeen 2 = .ok (.bipush 6, 2) := by decide +kernel
theorem dX10_isSeen_4 : decode cX10_isSeen 4 = .ok (.invokevirtual 58, 3) := by decide +kernel
theorem dX10_isSeen_7 : decode cX10_isSeen 7 = .ok (.ifCond .ne 7, 3) := by decide +kernel
theorem dX10_isSeen_10 : decode cX10_isSeen 10 = .ok (.iconst 1, 1) := by decide +kernel
theorem dX10_isSeen_11 : decode cX10_isSeen 11 = .ok (.goto 4, 3) := by decide +kernel
theorem dX10_isSeen_14 : decode cX10_isSeen 14 = .ok (.iconst 0, 1) := by decide +kernel
theorem dX10_isSeen_15 : decode cX10_isSeen 15 = .ok (.ireturn, 1) := by decide +kernel
theorem dX10_behind_0 : decode cX10_behind 0 = .ok (.iload_n 1, 1) := by decide +kernel
theorem dX10_behind_1 : decode cX10_behind 1 = .ok (.iconst 1, 1) := by decide +kernel
theorem dX10_behind_2 : decode cX10_behind 2 = .ok (.iadd, 1) := by decide +kernel
theorem dX10_behind_3 : decode cX10_behind 3 = .ok (.istore_n 2, 1) := by decide +kernel
theorem dX10_behind_4 : decode cX10_behind 4 = .ok (.iload_n 2, 1) := by decide +kernel
theorem dX10_behind_5 : decode cX10_behind 5 = .ok (.aload_n 0, 1) := by decide +kernel
theorem dX10_behind_6 : decode cX10_behind 6 = .ok (.getfield 9, 3) := by decide +kernel
theorem dX10_behind_9 : decode cX10_behind 9 = .ok (.iconst 2, 1) := by decide +kernel
theorem dX10_behind_10 : decode cX10_behind 10 = .ok (.iaload, 1) := by decide +kernel
theorem dX10_behind_11 : decode cX10_behind 11 = .ok (.if_icmp .ge 19, 3) := by decide +kernel
theorem dX10_behind_14 : decode cX10_behind 14 = .ok (.aload_n 0, 1) := by decide +kernel
theorem dX10_behind_15 : decode cX10_behind 15 = .ok (.iload_n 2, 1) := by decide +kernel
theorem dX10_behind_16 : decode cX10_behind 16 = .ok (.invokevirtual 62, 3) := by decide +kernel
theorem dX10_behind_19 : decode cX10_behind 19 = .ok (.ifCond .eq 5, 3) := by decide +kernel
theorem dX10_behind_22 : decode cX10_behind 22 = .ok (.iload_n 2, 1) := by decide +kernel
theorem dX10_behind_23 : decode cX10_behind 23 = .ok (.ireturn, 1) := by decide +kernel
theorem dX10_behind_24 : decode cX10_behind 24 = .ok (.iinc 2 1, 3) := by decide +kernel
theorem dX10_behind_27 : decode cX10_behind 27 = .ok (.goto (-23), 3) := by decide +kernel
theorem dX10_behind_30 : decode cX10_behind 30 = .ok (.iconst (-1), 1) := by decide +kernel
theorem dX10_behind_31 : decode cX10_behind 31 = .ok (.ireturn, 1) := by decide +kernel
theorem dX10_ahead_0 : decode cX10_ahead 0 = .ok (.iload_n 1, 1) := by decide +kernel
theorem dX10_ahead_1 : decode cX10_ahead 1 = .ok (.iconst 1, 1) := by decide +kernel
theorem dX10_ahead_2 : decode cX10_ahead 2 = .ok (.isub, 1) := by decide +kernel
theorem dX10_ahead_3 : decode cX10_ahead 3 = .ok (.istore_n 2, 1) := by decide +kernel
theorem dX10_ahead_4 : decode cX10_ahead 4 = .ok (.iload_n 2, 1) := by decide +kernel
theorem dX10_ahead_5 : decode cX10_ahead 5 = .ok (.ifCond .lt 19, 3) := by decide +kernel
theorem dX10_ahead_8 : decode cX10_ahead 8 = .ok (.aload_n 0, 1) := by decide +kernel
theorem dX10_ahead_9 : decode cX10_ahead 9 = .ok (.iload_n 2, 1) := by decide +kernel
theorem dX10_ahead_10 : decode cX10_ahead 10 = .ok (.invokevirtual 62, 3) := by decide +kernel
theorem dX10_ahead_13 : decode cX10_ahead 13 = .ok (.ifCond .eq 5, 3) := by decide +kernel
theorem dX10_ahead_16 : decode cX10_ahead 16 = .ok (.iload_n 2, 1) := by decide +kernel
theorem dX10_ahead_17 : decode cX10_ahead 17 = .ok (.ireturn, 1) := by decide +kernel
theorem dX10_ahead_18 : decode cX10_ahead 18 = .ok (.iinc 2 (-1), 3) := by decide +kernel
theorem dX10_ahead_21 : decode cX10_ahead 21 = .ok (.goto (-17), 3) := by decide +kernel
theorem dX10_ahead_24 : decode cX10_ahead 24 = .ok (.iconst (-1), 1) := by decide +kernel
theorem dX10_ahead_25 : decode cX10_ahead 25 = .ok (.ireturn, 1) := by decide +kernel
theorem dX10_isHeard_0 : decode cX10_isHeard 0 = .ok (.aload_n 0, 1) := by decide +kernel
theorem dX10_isHeard_1 : decode cX10_isHeard 1 = .ok (.iload_n 1, 1) := by decide +kernel
theorem dX10_isHeard_2 : decode cX10_isHeard 2 = .ok (.invokevirtual 66, 3) := by decide +kernel
theorem dX10_isHeard_5 : decode cX10_isHeard 5 = .ok (.istore_n 2, 1) := by decide +kernel
theorem dX10_isHeard_6 : decode cX10_isHeard 6 = .ok (.iload_n 2, 1) := by decide +kernel
theorem dX10_isHeard_7 : decode cX10_isHeard 7 = .ok (.ifCond .lt 16, 3) := by decide +kernel
theorem dX10_isHeard_10 : decode cX10_isHeard 10 = .ok (.aload_n 0, 1) := by decide +kernel
theorem dX10_isHeard_11 : decode cX10_isHeard 11 = .ok (.iload_n 2, 1) := by decide +kernel
theorem dX10_isHeard_12 : decode cX10_isHeard 12 = .ok (.iload_n 1, 1) := by decide +kernel
theorem dX10_isHeard_13 : decode cX10_isHeard 13 = .ok (.invokevirtual 70, 3) := by decide +kernel
theorem dX10_isHeard_16 : decode cX10_isHeard 16 = .ok (.ifCond .eq 7, 3) := by decide +kernel
theorem dX10_isHeard_19 : decode cX10_isHeard 19 = .ok (.iconst 1, 1) := by decide +kernel
theorem dX10_isHeard_20 : decode cX10_isHeard 20 = .ok (.goto 4, 3) := by decide +kernel
theorem dX10_isHeard_23 : decode cX10_isHeard 23 = .ok (.iconst 0, 1) := by decide +kernel
theorem dX10_isHeard_24 : decode cX10_isHeard 24 = .ok (.ireturn, 1) := by decide +kernel
theorem dX10_isAnswer_0 : decode cX10_isAnswer 0 = .ok (.aload_n 0, 1) := by decide +kernel
theorem dX10_isAnswer_1 : decode cX10_isAnswer 1 = .ok (.iload_n 1, 1) := by decide +kernel
theorem dX10_isAnswer_2 : decode cX10_isAnswer 2 = .ok (.invokevirtual 74, 3) := by decide +kernel
theorem dX10_isAnswer_5 : decode cX10_isAnswer 5 = .ok (.istore_n 2, 1) := by decide +kernel
theorem dX10_isAnswer_6 : decode cX10_isAnswer 6 = .ok (.aload_n 0, 1) := by decide +kernel
theorem dX10_isAnswer_7 : decode cX10_isAnswer 7 = .ok (.iload_n 1, 1) := by decide +kernel
theorem dX10_isAnswer_8 : decode cX10_isAnswer 8 = .ok (.invokevirtual 62, 3) := by decide +kernel
theorem dX10_isAnswer_11 : decode cX10_isAnswer 11 = .ok (.ifCond .eq 20, 3) := by decide +kernel
theorem dX10_isAnswer_14 : decode cX10_isAnswer 14 = .ok (.iload_n 2, 1) := by decide +kernel
theorem dX10_isAnswer_15 : decode cX10_isAnswer 15 = .ok (.ifCond .lt 16, 3) := by decide +kernel
theorem dX10_isAnswer_18 : decode cX10_isAnswer 18 = .ok (.aload_n 0, 1) := by decide +kernel
theorem dX10_isAnswer_19 : decode cX10_isAnswer 19 = .ok (.iload_n 1, 1) := by decide +kernel
theorem dX10_isAnswer_20 : decode cX10_isAnswer 20 = .ok (.iload_n 2, 1) := by decide +kernel
theorem dX10_isAnswer_21 : decode cX10_isAnswer 21 = .ok (.invokevirtual 70, 3) := by decide +kernel
theorem dX10_isAnswer_24 : decode cX10_isAnswer 24 = .ok (.ifCond .eq 7, 3) := by decide +kernel
theorem dX10_isAnswer_27 : decode cX10_isAnswer 27 = .ok (.iconst 1, 1) := by decide +kernel
theorem dX10_isAnswer_28 : decode cX10_isAnswer 28 = .ok (.goto 4, 3) := by decide +kernel
theorem dX10_isAnswer_31 : decode cX10_isAnswer 31 = .ok (.iconst 0, 1) := by decide +kernel
theorem dX10_isAnswer_32 : decode cX10_isAnswer 32 = .ok (.ireturn, 1) := by decide +kernel
theorem dX10_seen_0 : decode cX10_seen 0 = .ok (.iconst 0, 1) := by decide +kernel
theorem dX10_seen_1 : decode cX10_seen 1 = .ok (.istore_n 1, 1) := by decide +kernel
theorem dX10_seen_2 : decode cX10_seen 2 = .ok (.iconst 0, 1) := by decide +kernel
theorem dX10_seen_3 : decode cX10_seen 3 = .ok (.istore_n 2, 1) := by decide +kernel
theorem dX10_seen_4 : decode cX10_seen 4 = .ok (.iload_n 2, 1) := by decide +kernel
theorem dX10_seen_5 : decode cX10_seen 5 = .ok (.aload_n 0, 1) := by decide +kernel
theorem dX10_seen_6 : decode cX10_seen 6 = .ok (.getfield 9, 3) := by decide +kernel
theorem dX10_seen_9 : decode cX10_seen 9 = .ok (.iconst 2, 1) := by decide +kernel
theorem dX10_seen_10 : decode cX10_seen 10 = .ok (.iaload, 1) := by decide +kernel
theorem dX10_seen_11 : decode cX10_seen 11 = .ok (.if_icmp .ge 27, 3) := by decide +kernel
theorem dX10_seen_14 : decode cX10_seen 14 = .ok (.iload_n 1, 1) := by decide +kernel
theorem dX10_seen_15 : decode cX10_seen 15 = .ok (.aload_n 0, 1) := by decide +kernel
theorem dX10_seen_16 : decode cX10_seen 16 = .ok (.iload_n 2, 1) := by decide +kernel
theorem dX10_seen_17 : decode cX10_seen 17 = .ok (.invokevirtual 62, 3) := by decide +kernel
theorem dX10_seen_20 : decode cX10_seen 20 = .ok (.ifCond .eq 9, 3) := by decide +kernel
theorem dX10_seen_23 : decode cX10_seen 23 = .ok (.iconst 1, 1) := by decide +kernel
theorem dX10_seen_24 : decode cX10_seen 24 = .ok (.iload_n 2, 1) := by decide +kernel
theorem dX10_seen_25 : decode cX10_seen 25 = .ok (.ishl, 1) := by decide +kernel
theorem dX10_seen_26 : decode cX10_seen 26 = .ok (.goto 4, 3) := by decide +kernel
theorem dX10_seen_29 : decode cX10_seen 29 = .ok (.iconst 0, 1) := by decide +kernel
theorem dX10_seen_30 : decode cX10_seen 30 = .ok (.ior, 1) := by decide +kernel
theorem dX10_seen_31 : decode cX10_seen 31 = .ok (.istore_n 1, 1) := by decide +kernel
theorem dX10_seen_32 : decode cX10_seen 32 = .ok (.iinc 2 1, 3) := by decide +kernel
theorem dX10_seen_35 : decode cX10_seen 35 = .ok (.goto (-31), 3) := by decide +kernel
theorem dX10_seen_38 : decode cX10_seen 38 = .ok (.iload_n 1, 1) := by decide +kernel
theorem dX10_seen_39 : decode cX10_seen 39 = .ok (.ireturn, 1) := by decide +kernel
theorem dX10_senseOf_0 : decode cX10_senseOf 0 = .ok (.aload_n 0, 1) := by decide +kernel
theorem dX10_senseOf_1 : decode cX10_senseOf 1 = .ok (.iconst 1, 1) := by decide +kernel
theorem dX10_senseOf_2 : decode cX10_senseOf 2 = .ok (.aload_n 0, 1) := by decide +kernel
theorem dX10_senseOf_3 : decode cX10_senseOf 3 = .ok (.iload_n 1, 1) := by decide +kernel
theorem dX10_senseOf_4 : decode cX10_senseOf 4 = .ok (.iconst 2, 1) := by decide +kernel
theorem dX10_senseOf_5 : decode cX10_senseOf 5 = .ok (.invokevirtual 58, 3) := by decide +kernel
theorem dX10_senseOf_8 : decode cX10_senseOf 8 = .ok (.aload_n 0, 1) := by decide +kernel
theorem dX10_senseOf_9 : decode cX10_senseOf 9 = .ok (.iload_n 1, 1) := by decide +kernel
theorem dX10_senseOf_10 : decode cX10_senseOf 10 = .ok (.iconst 3, 1) := by decide +kernel
theorem dX10_senseOf_11 : decode cX10_senseOf 11 = .ok (.invokevirtual 58, 3) := by decide +kernel
theorem dX10_senseOf_14 : decode cX10_senseOf 14 = .ok (.aload_n 0, 1) := by decide +kernel
theorem dX10_senseOf_15 : decode cX10_senseOf 15 = .ok (.iload_n 1, 1) := by decide +kernel
theorem dX10_senseOf_16 : decode cX10_senseOf 16 = .ok (.invokevirtual 77, 3) := by decide +kernel
theorem dX10_senseOf_19 : decode cX10_senseOf 19 = .ok (.invokevirtual 80, 3) := by decide +kernel
theorem dX10_senseOf_22 : decode cX10_senseOf 22 = .ok (.ireturn, 1) := by decide +kernel
theorem dX10_isKm_0 : decode cX10_isKm 0 = .ok (.iload_n 0, 1) := by decide +kernel
theorem dX10_isKm_1 : decode cX10_isKm 1 = .ok (.iconst 0, 1) := by decide +kernel
theorem dX10_isKm_2 : decode cX10_isKm 2 = .ok (.bipush 69, 2) := by decide +kernel
theorem dX10_isKm_4 : decode cX10_isKm 4 = .ok (.invokestatic 54, 3) := by decide +kernel
theorem dX10_isKm_7 : decode cX10_isKm 7 = .ok (.ireturn, 1) := by decide +kernel
theorem dX10_isLine_0 : decode cX10_isLine 0 = .ok (.iload_n 0, 1) := by decide +kernel
theorem dX10_isLine_1 : decode cX10_isLine 1 = .ok (.bipush 10, 2) := by decide +kernel
theorem dX10_isLine_3 : decode cX10_isLine 3 = .ok (.bipush 125, 2) := by decide +kernel
theorem dX10_isLine_5 : decode cX10_isLine 5 = .ok (.invokestatic 54, 3) := by decide +kernel
theorem dX10_isLine_8 : decode cX10_isLine 8 = .ok (.ifCond .eq 15, 3) := by decide +kernel
theorem dX10_isLine_11 : decode cX10_isLine 11 = .ok (.iload_n 0, 1) := by decide +kernel
theorem dX10_isLine_12 : decode cX10_isLine 12 = .ok (.bipush 10, 2) := by decide +kernel
theorem dX10_isLine_14 : decode cX10_isLine 14 = .ok (.irem, 1) := by decide +kernel
theorem dX10_isLine_15 : decode cX10_isLine 15 = .ok (.iconst 5, 1) := by decide +kernel
theorem dX10_isLine_16 : decode cX10_isLine 16 = .ok (.if_icmp .gt 7, 3) := by decide +kernel
theorem dX10_isLine_19 : decode cX10_isLine 19 = .ok (.iconst 1, 1) := by decide +kernel
theorem dX10_isLine_20 : decode cX10_isLine 20 = .ok (.goto 4, 3) := by decide +kernel
theorem dX10_isLine_23 : decode cX10_isLine 23 = .ok (.iconst 0, 1) := by decide +kernel
theorem dX10_isLine_24 : decode cX10_isLine 24 = .ok (.ireturn, 1) := by decide +kernel
theorem dX10_comes_0 : decode cX10_comes 0 = .ok (.aload_n 0, 1) := by decide +kernel
theorem dX10_comes_1 : decode cX10_comes 1 = .ok (.getfield 9, 3) := by decide +kernel
theorem dX10_comes_4 : decode cX10_comes 4 = .ok (.iconst 2, 1) := by decide +kernel
theorem dX10_comes_5 : decode cX10_comes 5 = .ok (.iaload, 1) := by decide +kernel
theorem dX10_comes_6 : decode cX10_comes 6 = .ok (.istore 5, 2) := by decide +kernel
theorem dX10_comes_8 : decode cX10_comes 8 = .ok (.aload_n 0, 1) := by decide +kernel
theorem dX10_comes_9 : decode cX10_comes 9 = .ok (.getfield 9, 3) := by decide +kernel
theorem dX10_comes_12 : decode cX10_comes 12 = .ok (.iconst 2, 1) := by decide +kernel
theorem dX10_comes_13 : decode cX10_comes 13 = .ok (.dup2, 1) := by decide +kernel
theorem dX10_comes_14 : decode cX10_comes 14 = .ok (.iaload, 1) := by decide +kernel
theorem dX10_comes_15 : decode cX10_comes 15 = .ok (.iconst 1, 1) := by decide +kernel
theorem dX10_comes_16 : decode cX10_comes 16 = .ok (.iadd, 1) := by decide +kernel
theorem dX10_comes_17 : decode cX10_comes 17 = .ok (.iastore, 1) := by decide +kernel
theorem dX10_comes_18 : decode cX10_comes 18 = .ok (.aload_n 0, 1) := by decide +kernel
theorem dX10_comes_19 : decode cX10_comes 19 = .ok (.iload 5, 2) := by decide +kernel
theorem dX10_comes_21 : decode cX10_comes 21 = .ok (.iconst 0, 1) := by decide +kernel
theorem dX10_comes_22 : decode cX10_comes 22 = .ok (.iload_n 1, 1) := by decide +kernel
theorem dX10_comes_23 : decode cX10_comes 23 = .ok (.bipush 10, 2) := by decide +kernel
theorem dX10_comes_25 : decode cX10_comes 25 = .ok (.idiv, 1) := by decide +kernel
theorem dX10_comes_26 : decode cX10_comes 26 = .ok (.invokevirtual 84, 3) := by decide +kernel
theorem dX10_comes_29 : decode cX10_comes 29 = .ok (.aload_n 0, 1) := by decide +kernel
theorem dX10_comes_30 : decode cX10_comes 30 = .ok (.iload 5, 2) := by decide +kernel
theorem dX10_comes_32 : decode cX10_comes 32 = .ok (.iconst 1, 1) := by decide +kernel
theorem dX10_comes_33 : decode cX10_comes 33 = .ok (.iload_n 1, 1) := by decide +kernel
theorem dX10_comes_34 : decode cX10_comes 34 = .ok (.bipush 10, 2) := by decide +kernel
theorem dX10_comes_36 : decode cX10_comes 36 = .ok (.irem, 1) := by decide +kernel
theorem dX10_comes_37 : decode cX10_comes 37 = .ok (.invokevirtual 84, 3) := by decide +kernel
theorem dX10_comes_40 : decode cX10_comes 40 = .ok (.aload_n 0, 1) := by decide +kernel
theorem dX10_comes_41 : decode cX10_comes 41 = .ok (.iload 5, 2) := by decide +kernel
theorem dX10_comes_43 : decode cX10_comes 43 = .ok (.iconst 2, 1) := by decide +kernel
theorem dX10_comes_44 : decode cX10_comes 44 = .ok (.iload_n 2, 1) := by decide +kernel
theorem dX10_comes_45 : decode cX10_comes 45 = .ok (.invokevirtual 84, 3) := by decide +kernel
theorem dX10_comes_48 : decode cX10_comes 48 = .ok (.aload_n 0, 1) := by decide +kernel
theorem dX10_comes_49 : decode cX10_comes 49 = .ok (.iload 5, 2) := by decide +kernel
theorem dX10_comes_51 : decode cX10_comes 51 = .ok (.iconst 3, 1) := by decide +kernel
theorem dX10_comes_52 : decode cX10_comes 52 = .ok (.iload_n 3, 1) := by decide +kernel
theorem dX10_comes_53 : decode cX10_comes 53 = .ok (.invokevirtual 84, 3) := by decide +kernel
theorem dX10_comes_56 : decode cX10_comes 56 = .ok (.aload_n 0, 1) := by decide +kernel
theorem dX10_comes_57 : decode cX10_comes 57 = .ok (.iload 5, 2) := by decide +kernel
theorem dX10_comes_59 : decode cX10_comes 59 = .ok (.iconst 4, 1) := by decide +kernel
theorem dX10_comes_60 : decode cX10_comes 60 = .ok (.iload 4, 2) := by decide +kernel
theorem dX10_comes_62 : decode cX10_comes 62 = .ok (.invokevirtual 84, 3) := by decide +kernel
theorem dX10_comes_65 : decode cX10_comes 65 = .ok (.aload_n 0, 1) := by decide +kernel
theorem dX10_comes_66 : decode cX10_comes 66 = .ok (.iload 5, 2) := by decide +kernel
theorem dX10_comes_68 : decode cX10_comes 68 = .ok (.iconst 5, 1) := by decide +kernel
theorem dX10_comes_69 : decode cX10_comes 69 = .ok (.iconst 0, 1) := by decide +kernel
theorem dX10_comes_70 : decode cX10_comes 70 = .ok (.invokevirtual 84, 3) := by decide +kernel
theorem dX10_comes_73 : decode cX10_comes 73 = .ok (.aload_n 0, 1) := by decide +kernel
theorem dX10_comes_74 : decode cX10_comes 74 = .ok (.iload 5, 2) := by decide +kernel
theorem dX10_comes_76 : decode cX10_comes 76 = .ok (.bipush 6, 2) := by decide +kernel
theorem dX10_comes_78 : decode cX10_comes 78 = .ok (.iconst 0, 1) := by decide +kernel
theorem dX10_comes_79 : decode cX10_comes 79 = .ok (.invokevirtual 84, 3) := by decide +kernel
theorem dX10_comes_82 : decode cX10_comes 82 = .ok (.iload 5, 2) := by decide +kernel
theorem dX10_comes_84 : decode cX10_comes 84 = .ok (.ireturn, 1) := by decide +kernel
theorem dX10_plough_0 : decode cX10_plough 0 = .ok (.iload_n 1, 1) := by decide +kernel
theorem dX10_plough_1 : decode cX10_plough 1 = .ok (.invokestatic 88, 3) := by decide +kernel
theorem dX10_plough_4 : decode cX10_plough 4 = .ok (.ifCond .eq 19, 3) := by decide +kernel
theorem dX10_plough_7 : decode cX10_plough 7 = .ok (.iload_n 2, 1) := by decide +kernel
theorem dX10_plough_8 : decode cX10_plough 8 = .ok (.invokestatic 91, 3) := by decide +kernel
theorem dX10_plough_11 : decode cX10_plough 11 = .ok (.ifCond .eq 12, 3) := by decide +kernel
theorem dX10_plough_14 : decode cX10_plough 14 = .ok (.iload_n 3, 1) := by decide +kernel
theorem dX10_plough_15 : decode cX10_plough 15 = .ok (.iconst 0, 1) := by decide +kernel
theorem dX10_plough_16 : decode cX10_plough 16 = .ok (.iconst 5, 1) := by decide +kernel
theorem dX10_plough_17 : decode cX10_plough 17 = .ok (.invokestatic 54, 3) := by decide +kernel
theorem dX10_plough_20 : decode cX10_plough 20 = .ok (.ifCond .ne 10, 3) := by decide +kernel
theorem dX10_plough_23 : decode cX10_plough 23 = .ok (.aload_n 0, 1) := by decide +kernel
theorem dX10_plough_24 : decode cX10_plough 24 = .ok (.ldc 94, 2) := by decide +kernel
theorem dX10_plough_26 : decode cX10_plough 26 = .ok (.invokevirtual 95, 3) := by decide +kernel
theorem dX10_plough_29 : decode cX10_plough 29 = .ok (.ireturn, 1) := by decide +kernel
theorem dX10_plough_30 : decode cX10_plough 30 = .ok (.aload_n 0, 1) := by decide +kernel
theorem dX10_plough_31 : decode cX10_plough 31 = .ok (.getfield 9, 3) := by decide +kernel
theorem dX10_plough_34 : decode cX10_plough 34 = .ok (.iconst 2, 1) := by decide +kernel
theorem dX10_plough_35 : decode cX10_plough 35 = .ok (.iaload, 1) := by decide +kernel
theorem dX10_plough_36 : decode cX10_plough 36 = .ok (.bipush 12, 2) := by decide +kernel
theorem dX10_plough_38 : decode cX10_plough 38 = .ok (.if_icmp .ne 12, 3) := by decide +kernel
theorem dX10_plough_41 : decode cX10_plough 41 = .ok (.aload_n 0, 1) := by decide +kernel
theorem dX10_plough_42 : decode cX10_plough 42 = .ok (.ldc 98, 2) := by decide +kernel
theorem dX10_plough_44 : decode cX10_plough 44 = .ok (.invokevirtual 95, 3) := by decide +kernel
theorem dX10_plough_47 : decode cX10_plough 47 = .ok (.goto 17, 3) := by decide +kernel
theorem dX10_plough_50 : decode cX10_plough 50 = .ok (.aload_n 0, 1) := by decide +kernel
theorem dX10_plough_51 : decode cX10_plough 51 = .ok (.iload_n 1, 1) := by decide +kernel
theorem dX10_plough_52 : decode cX10_plough 52 = .ok (.iload_n 2, 1) := by decide +kernel
theorem dX10_plough_53 : decode cX10_plough 53 = .ok (.bipush 10, 2) := by decide +kernel
theorem dX10_plough_55 : decode cX10_plough 55 = .ok (.idiv, 1) := by decide +kernel
theorem dX10_plough_56 : decode cX10_plough 56 = .ok (.iload_n 2, 1) := by decide +kernel
theorem dX10_plough_57 : decode cX10_plough 57 = .ok (.bipush 10, 2) := by decide +kernel
theorem dX10_plough_59 : decode cX10_plough 59 = .ok (.irem, 1) := by decide +kernel
theorem dX10_plough_60 : decode cX10_plough 60 = .ok (.iload_n 3, 1) := by decide +kernel
theorem dX10_plough_61 : decode cX10_plough 61 = .ok (.invokevirtual 99, 3) := by decide +kernel
theorem dX10_plough_64 : decode cX10_plough 64 = .ok (.ireturn, 1) := by decide +kernel
theorem dX10_furrowIs_0 : decode cX10_furrowIs 0 = .ok (.aload_n 0, 1) := by decide +kernel
theorem dX10_furrowIs_1 : decode cX10_furrowIs 1 = .ok (.iload_n 1, 1) := by decide +kernel
theorem dX10_furrowIs_2 : decode cX10_furrowIs 2 = .ok (.invokevirtual 102, 3) := by decide +kernel
theorem dX10_furrowIs_5 : decode cX10_furrowIs 5 = .ok (.ifCond .eq 13, 3) := by decide +kernel
theorem dX10_furrowIs_8 : decode cX10_furrowIs 8 = .ok (.iload_n 2, 1) := by decide +kernel
theorem dX10_furrowIs_9 : decode cX10_furrowIs 9 = .ok (.iconst 0, 1) := by decide +kernel
theorem dX10_furrowIs_10 : decode cX10_furrowIs 10 = .ok (.bipush 9, 2) := by decide +kernel
theorem dX10_furrowIs_12 : decode cX10_furrowIs 12 = .ok (.invokestatic 54, 3) := by decide +kernel
theorem dX10_furrowIs_15 : decode cX10_furrowIs 15 = .ok (.ifCond .ne 10, 3) := by decide +kernel
theorem dX10_furrowIs_18 : decode cX10_furrowIs 18 = .ok (.aload_n 0, 1) := by decide +kernel
theorem dX10_furrowIs_19 : decode cX10_furrowIs 19 = .ok (.ldc 94, 2) := by decide +kernel
theorem dX10_furrowIs_21 : decode cX10_furrowIs 21 = .ok (.invokevirtual 95, 3) := by decide +kernel
theorem dX10_furrowIs_24 : decode cX10_furrowIs 24 = .ok (.ireturn, 1) := by decide +kernel
theorem dX10_furrowIs_25 : decode cX10_furrowIs 25 = .ok (.iload_n 2, 1) := by decide +kernel
theorem dX10_furrowIs_26 : decode cX10_furrowIs 26 = .ok (.bipush 7, 2) := by decide +kernel
theorem dX10_furrowIs_28 : decode cX10_furrowIs 28 = .ok (.if_icmp .ge 10, 3) := by decide +kernel
theorem dX10_furrowIs_31 : decode cX10_furrowIs 31 = .ok (.aload_n 0, 1) := by decide +kernel
theorem dX10_furrowIs_32 : decode cX10_furrowIs 32 = .ok (.iload_n 1, 1) := by decide +kernel
theorem dX10_furrowIs_33 : decode cX10_furrowIs 33 = .ok (.iload_n 2, 1) := by decide +kernel
theorem dX10_furrowIs_34 : decode cX10_furrowIs 34 = .ok (.invokevirtual 58, 3) := by decide +kernel
theorem dX10_furrowIs_37 : decode cX10_furrowIs 37 = .ok (.ireturn, 1) := by decide +kernel
theorem dX10_furrowIs_38 : decode cX10_furrowIs 38 = .ok (.iload_n 2, 1) := by decide +kernel
theorem dX10_furrowIs_39 : decode cX10_furrowIs 39 = .ok (.bipush 7, 2) := by decide +kernel
theorem dX10_furrowIs_41 : decode cX10_furrowIs 41 = .ok (.if_icmp .ne 11, 3) := by decide +kernel
theorem dX10_furrowIs_44 : decode cX10_furrowIs 44 = .ok (.aload_n 0, 1) := by decide +kernel
theorem dX10_furrowIs_45 : decode cX10_furrowIs 45 = .ok (.iload_n 1, 1) := by decide +kernel
theorem dX10_furrowIs_46 : decode cX10_furrowIs 46 = .ok (.invokevirtual 77, 3) := by decide +kernel
theorem dX10_furrowIs_49 : decode cX10_furrowIs 49 = .ok (.goto 30, 3) := by decide +kernel
theorem dX10_furrowIs_52 : decode cX10_furrowIs 52 = .ok (.iload_n 2, 1) := by decide +kernel
theorem dX10_furrowIs_53 : decode cX10_furrowIs 53 = .ok (.bipush 8, 2) := by decide +kernel
theorem dX10_furrowIs_55 : decode cX10_furrowIs 55 = .ok (.if_icmp .ne 11, 3) := by decide +kernel
theorem dX10_furrowIs_58 : decode cX10_furrowIs 58 = .ok (.aload_n 0, 1) := by decide +kernel
theorem dX10_furrowIs_59 : decode cX10_furrowIs 59 = .ok (.iload_n 1, 1) := by decide +kernel
theorem dX10_furrowIs_60 : decode cX10_furrowIs 60 = .ok (.invokevirtual 105, 3) := by decide +kernel
theorem dX10_furrowIs_63 : decode cX10_furrowIs 63 = .ok (.goto 16, 3) := by decide +kernel
theorem dX10_furrowIs_66 : decode cX10_furrowIs 66 = .ok (.aload_n 0, 1) := by decide +kernel
theorem dX10_furrowIs_67 : decode cX10_furrowIs 67 = .ok (.iload_n 1, 1) := by decide +kernel
theorem dX10_furrowIs_68 : decode cX10_furrowIs 68 = .ok (.invokevirtual 108, 3) := by decide +kernel
theorem dX10_furrowIs_71 : decode cX10_furrowIs 71 = .ok (.ifCond .eq 7, 3) := by decide +kernel
theorem dX10_furrowIs_74 : decode cX10_furrowIs 74 = .ok (.iconst 1, 1) := by decide +kernel
theorem dX10_furrowIs_75 : decode cX10_furrowIs 75 = .ok (.goto 4, 3) := by decide +kernel
theorem dX10_furrowIs_78 : decode cX10_furrowIs 78 = .ok (.iconst 0, 1) := by decide +kernel
theorem dX10_furrowIs_79 : decode cX10_furrowIs 79 = .ok (.ireturn, 1) := by decide +kernel
theorem dX10_become_0 : decode cX10_become 0 = .ok (.aload_n 0, 1) := by decide +kernel
theorem dX10_become_1 : decode cX10_become 1 = .ok (.iload_n 1, 1) := by decide +kernel
theorem dX10_become_2 : decode cX10_become 2 = .ok (.invokevirtual 102, 3) := by decide +kernel
theorem dX10_become_5 : decode cX10_become 5 = .ok (.ifCond .eq 10, 3) := by decide +kernel
theorem dX10_become_8 : decode cX10_become 8 = .ok (.iload_n 2, 1) := by decide +kernel
theorem dX10_become_9 : decode cX10_become 9 = .ok (.invokestatic 88, 3) := by decide +kernel
theorem dX10_become_12 : decode cX10_become 12 = .ok (.ifCond .ne 10, 3) := by decide +kernel
theorem dX10_become_15 : decode cX10_become 15 = .ok (.aload_n 0, 1) := by decide +kernel
theorem dX10_become_16 : decode cX10_become 16 = .ok (.ldc 94, 2) := by decide +kernel
theorem dX10_become_18 : decode cX10_become 18 = .ok (.invokevirtual 95, 3) := by decide +kernel
theorem dX10_become_21 : decode cX10_become 21 = .ok (.ireturn, 1) := by decide +kernel
theorem dX10_become_22 : decode cX10_become 22 = .ok (.aload_n 0, 1) := by decide +kernel
theorem dX10_become_23 : decode cX10_become 23 = .ok (.iload_n 1, 1) := by decide +kernel
theorem dX10_become_24 : decode cX10_become 24 = .ok (.iconst 1, 1) := by decide +kernel
theorem dX10_become_25 : decode cX10_become 25 = .ok (.iload_n 2, 1) := by decide +kernel
theorem dX10_become_26 : decode cX10_become 26 = .ok (.bipush 10, 2) := by decide +kernel
theorem dX10_become_28 : decode cX10_become 28 = .ok (.irem, 1) := by decide +kernel
theorem dX10_become_29 : decode cX10_become 29 = .ok (.invokevirtual 84, 3) := by decide +kernel
theorem dX10_become_32 : decode cX10_become 32 = .ok (.aload_n 0, 1) := by decide +kernel
theorem dX10_become_33 : decode cX10_become 33 = .ok (.bipush 6, 2) := by decide +kernel
theorem dX10_become_35 : decode cX10_become 35 = .ok (.bipush 7, 2) := by decide +kernel
theorem dX10_become_37 : decode cX10_become 37 = .ok (.iload_n 1, 1) := by decide +kernel
theorem dX10_become_38 : decode cX10_become 38 = .ok (.imul, 1) := by decide +kernel
theorem dX10_become_39 : decode cX10_become 39 = .ok (.iadd, 1) := by decide +kernel
theorem dX10_become_40 : decode cX10_become 40 = .ok (.iload_n 2, 1) := by decide +kernel
theorem dX10_become_41 : decode cX10_become 41 = .ok (.bipush 10, 2) := by decide +kernel
theorem dX10_become_43 : decode cX10_become 43 = .ok (.idiv, 1) := by decide +kernel
theorem dX10_become_44 : decode cX10_become 44 = .ok (.invokevirtual 111, 3) := by decide +kernel
theorem dX10_become_47 : decode cX10_become 47 = .ok (.ireturn, 1) := by decide +kernel
theorem dX10_as_0 : decode cX10_as 0 = .ok (.aload_n 0, 1) := by decide +kernel
theorem dX10_as_1 : decode cX10_as 1 = .ok (.iload_n 1, 1) := by decide +kernel
theorem dX10_as_2 : decode cX10_as 2 = .ok (.invokevirtual 102, 3) := by decide +kernel
theorem dX10_as_5 : decode cX10_as 5 = .ok (.ifCond .eq 13, 3) := by decide +kernel
theorem dX10_as_8 : decode cX10_as 8 = .ok (.iload_n 2, 1) := by decide +kernel
theorem dX10_as_9 : decode cX10_as 9 = .ok (.iconst 0, 1) := by decide +kernel
theorem dX10_as_10 : decode cX10_as 10 = .ok (.bipush 6, 2) := by decide +kernel
theorem dX10_as_12 : decode cX10_as 12 = .ok (.invokestatic 54, 3) := by decide +kernel
theorem dX10_as_15 : decode cX10_as 15 = .ok (.ifCond .ne 10, 3) := by decide +kernel
theorem dX10_as_18 : decode cX10_as 18 = .ok (.aload_n 0, 1) := by decide +kernel
theorem dX10_as_19 : decode cX10_as 19 = .ok (.ldc 94, 2) := by decide +kernel
theorem dX10_as_21 : decode cX10_as 21 = .ok (.invokevirtual 95, 3) := by decide +kernel
theorem dX10_as_24 : decode cX10_as 24 = .ok (.ireturn, 1) := by decide +kernel
theorem dX10_as_25 : decode cX10_as 25 = .ok (.aload_n 0, 1) := by decide +kernel
theorem dX10_as_26 : decode cX10_as 26 = .ok (.iload_n 1, 1) := by decide +kernel
theorem dX10_as_27 : decode cX10_as 27 = .ok (.iconst 0, 1) := by decide +kernel
theorem dX10_as_28 : decode cX10_as 28 = .ok (.invokevirtual 58, 3) := by decide +kernel
theorem dX10_as_31 : decode cX10_as 31 = .ok (.istore_n 3, 1) := by decide +kernel
theorem dX10_as_32 : decode cX10_as 32 = .ok (.iload_n 2, 1) := by decide +kernel
theorem dX10_as_33 : decode cX10_as 33 = .ok (.ifCond .eq 28, 3) := by decide +kernel
theorem dX10_as_36 : decode cX10_as 36 = .ok (.iload_n 2, 1) := by decide +kernel
theorem dX10_as_37 : decode cX10_as 37 = .ok (.iload_n 3, 1) := by decide +kernel
theorem dX10_as_38 : decode cX10_as 38 = .ok (.if_icmp .eq 23, 3) := by decide +kernel
theorem dX10_as_41 : decode cX10_as 41 = .ok (.iload_n 2, 1) := by decide +kernel
theorem dX10_as_42 : decode cX10_as 42 = .ok (.iconst 1, 1) := by decide +kernel
theorem dX10_as_43 : decode cX10_as 43 = .ok (.if_icmp .ne 8, 3) := by decide +kernel
theorem dX10_as_46 : decode cX10_as 46 = .ok (.iload_n 3, 1) := by decide +kernel
theorem dX10_as_47 : decode cX10_as 47 = .ok (.iconst 4, 1) := by decide +kernel
theorem dX10_as_48 : decode cX10_as 48 = .ok (.if_icmp .eq 13, 3) := by decide +kernel
theorem dX10_as_51 : decode cX10_as 51 = .ok (.iload_n 2, 1) := by decide +kernel
theorem dX10_as_52 : decode cX10_as 52 = .ok (.iconst 2, 1) := by decide +kernel
theorem dX10_as_53 : decode cX10_as 53 = .ok (.if_icmp .ne 12, 3) := by decide +kernel
theorem dX10_as_56 : decode cX10_as 56 = .ok (.iload_n 3, 1) := by decide +kernel
theorem dX10_as_57 : decode cX10_as 57 = .ok (.iconst 5, 1) := by decide +kernel
theorem dX10_as_58 : decode cX10_as 58 = .ok (.if_icmp .ne 7, 3) := by decide +kernel
theorem dX10_as_61 : decode cX10_as 61 = .ok (.iconst 1, 1) := by decide +kernel
theorem dX10_as_62 : decode cX10_as 62 = .ok (.goto 4, 3) := by decide +kernel
theorem dX10_as_65 : decode cX10_as 65 = .ok (.iconst 0, 1) := by decide +kernel
theorem dX10_as_66 : decode cX10_as 66 = .ok (.istore 4, 2) := by decide +kernel
theorem dX10_as_68 : decode cX10_as 68 = .ok (.iload 4, 2) := by decide +kernel
theorem dX10_as_70 : decode cX10_as 70 = .ok (.ifCond .eq 12, 3) := by decide +kernel
theorem dX10_as_73 : decode cX10_as 73 = .ok (.aload_n 0, 1) := by decide +kernel
theorem dX10_as_74 : decode cX10_as 74 = .ok (.iload_n 1, 1) := by decide +kernel
theorem dX10_as_75 : decode cX10_as 75 = .ok (.iconst 1, 1) := by decide +kernel
theorem dX10_as_76 : decode cX10_as 76 = .ok (.invokevirtual 58, 3) := by decide +kernel
theorem dX10_as_79 : decode cX10_as 79 = .ok (.goto 9, 3) := by decide +kernel
theorem dX10_as_82 : decode cX10_as 82 = .ok (.aload_n 0, 1) := by decide +kernel
theorem dX10_as_83 : decode cX10_as 83 = .ok (.ldc 114, 2) := by decide +kernel
theorem dX10_as_85 : decode cX10_as 85 = .ok (.invokevirtual 95, 3) := by decide +kernel
theorem dX10_as_88 : decode cX10_as 88 = .ok (.ireturn, 1) := by decide +kernel
theorem dX10_answers_0 : decode cX10_answers 0 = .ok (.aload_n 0, 1) := by decide +kernel
theorem dX10_answers_1 : decode cX10_answers 1 = .ok (.iload_n 1, 1) := by decide +kernel
theorem dX10_answers_2 : decode cX10_answers 2 = .ok (.invokevirtual 102, 3) := by decide +kernel
theorem dX10_answers_5 : decode cX10_answers 5 = .ok (.ifCond .eq 16, 3) := by decide +kernel
theorem dX10_answers_8 : decode cX10_answers 8 = .ok (.aload_n 0, 1) := by decide +kernel
theorem dX10_answers_9 : decode cX10_answers 9 = .ok (.iload_n 2, 1) := by decide +kernel
theorem dX10_answers_10 : decode cX10_answers 10 = .ok (.invokevirtual 102, 3) := by decide +kernel
theorem dX10_answers_13 : decode cX10_answers 13 = .ok (.ifCond .eq 8, 3) := by decide +kernel
theorem dX10_answers_16 : decode cX10_answers 16 = .ok (.iload_n 1, 1) := by decide +kernel
theorem dX10_answers_17 : decode cX10_answers 17 = .ok (.iload_n 2, 1) := by decide +kernel
theorem dX10_answers_18 : decode cX10_answers 18 = .ok (.if_icmp .ne 10, 3) := by decide +kernel
theorem dX10_answers_21 : decode cX10_answers 21 = .ok (.aload_n 0, 1) := by decide +kernel
theorem dX10_answers_22 : decode cX10_answers 22 = .ok (.ldc 94, 2) := by decide +kernel
theorem dX10_answers_24 : decode cX10_answers 24 = .ok (.invokevirtual 95, 3) := by decide +kernel
theorem dX10_answers_27 : decode cX10_answers 27 = .ok (.ireturn, 1) := by decide +kernel
theorem dX10_answers_28 : decode cX10_answers 28 = .ok (.aload_n 0, 1) := by decide +kernel
theorem dX10_answers_29 : decode cX10_answers 29 = .ok (.iload_n 1, 1) := by decide +kernel
theorem dX10_answers_30 : decode cX10_answers 30 = .ok (.iload_n 2, 1) := by decide +kernel
theorem dX10_answers_31 : decode cX10_answers 31 = .ok (.invokevirtual 70, 3) := by decide +kernel
theorem dX10_answers_34 : decode cX10_answers 34 = .ok (.ifCond .eq 7, 3) := by decide +kernel
theorem dX10_answers_37 : decode cX10_answers 37 = .ok (.iconst 1, 1) := by decide +kernel
theorem dX10_answers_38 : decode cX10_answers 38 = .ok (.goto 4, 3) := by decide +kernel
theorem dX10_answers_41 : decode cX10_answers 41 = .ok (.iconst 0, 1) := by decide +kernel
theorem dX10_answers_42 : decode cX10_answers 42 = .ok (.ireturn, 1) := by decide +kernel
theorem dX10_cover_0 : decode cX10_cover 0 = .ok (.aload_n 0, 1) := by decide +kernel
theorem dX10_cover_1 : decode cX10_cover 1 = .ok (.iload_n 1, 1) := by decide +kernel
theorem dX10_cover_2 : decode cX10_cover 2 = .ok (.invokevirtual 102, 3) := by decide +kernel
theorem dX10_cover_5 : decode cX10_cover 5 = .ok (.ifCond .eq 30, 3) := by decide +kernel
theorem dX10_cover_8 : decode cX10_cover 8 = .ok (.iload_n 2, 1) := by decide +kernel
theorem dX10_cover_9 : decode cX10_cover 9 = .ok (.iconst 0, 1) := by decide +kernel
theorem dX10_cover_10 : decode cX10_cover 10 = .ok (.iconst 1, 1) := by decide +kernel
theorem dX10_cover_11 : decode cX10_cover 11 = .ok (.invokestatic 54, 3) := by decide +kernel
theorem dX10_cover_14 : decode cX10_cover 14 = .ok (.ifCond .eq 21, 3) := by decide +kernel
theorem dX10_cover_17 : decode cX10_cover 17 = .ok (.aload_n 0, 1) := by decide +kernel
theorem dX10_cover_18 : decode cX10_cover 18 = .ok (.bipush 6, 2) := by decide +kernel
theorem dX10_cover_20 : decode cX10_cover 20 = .ok (.bipush 7, 2) := by decide +kernel
theorem dX10_cover_22 : decode cX10_cover 22 = .ok (.iload_n 1, 1) := by decide +kernel
theorem dX10_cover_23 : decode cX10_cover 23 = .ok (.imul, 1) := by decide +kernel
theorem dX10_cover_24 : decode cX10_cover 24 = .ok (.iadd, 1) := by decide +kernel
theorem dX10_cover_25 : decode cX10_cover 25 = .ok (.bipush 6, 2) := by decide +kernel
theorem dX10_cover_27 : decode cX10_cover 27 = .ok (.iadd, 1) := by decide +kernel
theorem dX10_cover_28 : decode cX10_cover 28 = .ok (.iload_n 2, 1) := by decide +kernel
theorem dX10_cover_29 : decode cX10_cover 29 = .ok (.invokevirtual 111, 3) := by decide +kernel
theorem dX10_cover_32 : decode cX10_cover 32 = .ok (.goto 9, 3) := by decide +kernel
theorem dX10_cover_35 : decode cX10_cover 35 = .ok (.aload_n 0, 1) := by decide +kernel
theorem dX10_cover_36 : decode cX10_cover 36 = .ok (.ldc 94, 2) := by decide +kernel
theorem dX10_cover_38 : decode cX10_cover 38 = .ok (.invokevirtual 95, 3) := by decide +kernel
theorem dX10_cover_41 : decode cX10_cover 41 = .ok (.ireturn, 1) := by decide +kernel
theorem dX10_redraw_0 : decode cX10_redraw 0 = .ok (.aload_n 0, 1) := by decide +kernel
theorem dX10_redraw_1 : decode cX10_redraw 1 = .ok (.iload_n 1, 1) := by decide +kernel
theorem dX10_redraw_2 : decode cX10_redraw 2 = .ok (.invokevirtual 102, 3) := by decide +kernel
theorem dX10_redraw_5 : decode cX10_redraw 5 = .ok (.ifCond .eq 10, 3) := by decide +kernel
theorem dX10_redraw_8 : decode cX10_redraw 8 = .ok (.iload_n 2, 1) := by decide +kernel
theorem dX10_redraw_9 : decode cX10_redraw 9 = .ok (.invokestatic 91, 3) := by decide +kernel
theorem dX10_redraw_12 : decode cX10_redraw 12 = .ok (.ifCond .ne 10, 3) := by decide +kernel
theorem dX10_redraw_15 : decode cX10_redraw 15 = .ok (.aload_n 0, 1) := by decide +kernel
theorem dX10_redraw_16 : decode cX10_redraw 16 = .ok (.ldc 94, 2) := by decide +kernel
theorem dX10_redraw_18 : decode cX10_redraw 18 = .ok (.invokevirtual 95, 3) := by decide +kernel
theorem dX10_redraw_21 : decode cX10_redraw 21 = .ok (.ireturn, 1) := by decide +kernel
theorem dX10_redraw_22 : decode cX10_redraw 22 = .ok (.bipush 10, 2) := by decide +kernel
theorem dX10_redraw_24 : decode cX10_redraw 24 = .ok (.aload_n 0, 1) := by decide +kernel
theorem dX10_redraw_25 : decode cX10_redraw 25 = .ok (.iload_n 1, 1) := by decide +kernel
theorem dX10_redraw_26 : decode cX10_redraw 26 = .ok (.iconst 2, 1) := by decide +kernel
theorem dX10_redraw_27 : decode cX10_redraw 27 = .ok (.invokevirtual 58, 3) := by decide +kernel
theorem dX10_redraw_30 : decode cX10_redraw 30 = .ok (.imul, 1) := by decide +kernel
theorem dX10_redraw_31 : decode cX10_redraw 31 = .ok (.aload_n 0, 1) := by decide +kernel
theorem dX10_redraw_32 : decode cX10_redraw 32 = .ok (.iload_n 1, 1) := by decide +kernel
theorem dX10_redraw_33 : decode cX10_redraw 33 = .ok (.iconst 3, 1) := by decide +kernel
theorem dX10_redraw_34 : decode cX10_redraw 34 = .ok (.invokevirtual 58, 3) := by decide +kernel
theorem dX10_redraw_37 : decode cX10_redraw 37 = .ok (.iadd, 1) := by decide +kernel
theorem dX10_redraw_38 : decode cX10_redraw 38 = .ok (.istore_n 3, 1) := by decide +kernel
theorem dX10_redraw_39 : decode cX10_redraw 39 = .ok (.aload_n 0, 1) := by decide +kernel
theorem dX10_redraw_40 : decode cX10_redraw 40 = .ok (.iload_n 1, 1) := by decide +kernel
theorem dX10_redraw_41 : decode cX10_redraw 41 = .ok (.iconst 2, 1) := by decide +kernel
theorem dX10_redraw_42 : decode cX10_redraw 42 = .ok (.iload_n 2, 1) := by decide +kernel
theorem dX10_redraw_43 : decode cX10_redraw 43 = .ok (.bipush 10, 2) := by decide +kernel
theorem dX10_redraw_45 : decode cX10_redraw 45 = .ok (.idiv, 1) := by decide +kernel
theorem dX10_redraw_46 : decode cX10_redraw 46 = .ok (.invokevirtual 84, 3) := by decide +kernel
theorem dX10_redraw_49 : decode cX10_redraw 49 = .ok (.aload_n 0, 1) := by decide +kernel
theorem dX10_redraw_50 : decode cX10_redraw 50 = .ok (.iload_n 1, 1) := by decide +kernel
theorem dX10_redraw_51 : decode cX10_redraw 51 = .ok (.iconst 3, 1) := by decide +kernel
theorem dX10_redraw_52 : decode cX10_redraw 52 = .ok (.iload_n 2, 1) := by decide +kernel
theorem dX10_redraw_53 : decode cX10_redraw 53 = .ok (.bipush 10, 2) := by decide +kernel
theorem dX10_redraw_55 : decode cX10_redraw 55 = .ok (.irem, 1) := by decide +kernel
theorem dX10_redraw_56 : decode cX10_redraw 56 = .ok (.invokevirtual 84, 3) := by decide +kernel
theorem dX10_redraw_59 : decode cX10_redraw 59 = .ok (.iload_n 3, 1) := by decide +kernel
theorem dX10_redraw_60 : decode cX10_redraw 60 = .ok (.ireturn, 1) := by decide +kernel
theorem dX10_patience_0 : decode cX10_patience 0 = .ok (.iload_n 1, 1) := by decide +kernel
theorem dX10_patience_1 : decode cX10_patience 1 = .ok (.iconst 1, 1) := by decide +kernel
theorem dX10_patience_2 : decode cX10_patience 2 = .ok (.bipush 20, 2) := by decide +kernel
theorem dX10_patience_4 : decode cX10_patience 4 = .ok (.invokestatic 54, 3) := by decide +kernel
theorem dX10_patience_7 : decode cX10_patience 7 = .ok (.ifCond .eq 12, 3) := by decide +kernel
theorem dX10_patience_10 : decode cX10_patience 10 = .ok (.aload_n 0, 1) := by decide +kernel
theorem dX10_patience_11 : decode cX10_patience 11 = .ok (.iconst 3, 1) := by decide +kernel
theorem dX10_patience_12 : decode cX10_patience 12 = .ok (.iload_n 1, 1) := by decide +kernel
theorem dX10_patience_13 : decode cX10_patience 13 = .ok (.invokevirtual 111, 3) := by decide +kernel
theorem dX10_patience_16 : decode cX10_patience 16 = .ok (.goto 9, 3) := by decide +kernel
theorem dX10_patience_19 : decode cX10_patience 19 = .ok (.aload_n 0, 1) := by decide +kernel
theorem dX10_patience_20 : decode cX10_patience 20 = .ok (.ldc 94, 2) := by decide +kernel
theorem dX10_patience_22 : decode cX10_patience 22 = .ok (.invokevirtual 95, 3) := by decide +kernel
theorem dX10_patience_25 : decode cX10_patience 25 = .ok (.ireturn, 1) := by decide +kernel
theorem dX10_feed_0 : decode cX10_feed 0 = .ok (.iload_n 3, 1) := by decide +kernel
theorem dX10_feed_1 : decode cX10_feed 1 = .ok (.iconst 1, 1) := by decide +kernel
theorem dX10_feed_2 : decode cX10_feed 2 = .ok (.bipush 8, 2) := by decide +kernel
theorem dX10_feed_4 : decode cX10_feed 4 = .ok (.invokestatic 54, 3) := by decide +kernel
theorem dX10_feed_7 : decode cX10_feed 7 = .ok (.ifCond .ne 10, 3) := by decide +kernel
theorem dX10_feed_10 : decode cX10_feed 10 = .ok (.aload_n 0, 1) := by decide +kernel
theorem dX10_feed_11 : decode cX10_feed 11 = .ok (.ldc 94, 2) := by decide +kernel
theorem dX10_feed_13 : decode cX10_feed 13 = .ok (.invokevirtual 95, 3) := by decide +kernel
theorem dX10_feed_16 : decode cX10_feed 16 = .ok (.ireturn, 1) := by decide +kernel
theorem dX10_feed_17 : decode cX10_feed 17 = .ok (.aload_n 0, 1) := by decide +kernel
theorem dX10_feed_18 : decode cX10_feed 18 = .ok (.getfield 9, 3) := by decide +kernel
theorem dX10_feed_21 : decode cX10_feed 21 = .ok (.iconst 4, 1) := by decide +kernel
theorem dX10_feed_22 : decode cX10_feed 22 = .ok (.iaload, 1) := by decide +kernel
theorem dX10_feed_23 : decode cX10_feed 23 = .ok (.iload_n 3, 1) := by decide +kernel
theorem dX10_feed_24 : decode cX10_feed 24 = .ok (.iadd, 1) := by decide +kernel
theorem dX10_feed_25 : decode cX10_feed 25 = .ok (.bipush 60, 2) := by decide +kernel
theorem dX10_feed_27 : decode cX10_feed 27 = .ok (.if_icmp .le 10, 3) := by decide +kernel
theorem dX10_feed_30 : decode cX10_feed 30 = .ok (.aload_n 0, 1) := by decide +kernel
theorem dX10_feed_31 : decode cX10_feed 31 = .ok (.ldc 98, 2) := by decide +kernel
theorem dX10_feed_33 : decode cX10_feed 33 = .ok (.invokevirtual 95, 3) := by decide +kernel
theorem dX10_feed_36 : decode cX10_feed 36 = .ok (.ireturn, 1) := by decide +kernel
theorem dX10_feed_37 : decode cX10_feed 37 = .ok (.iconst 0, 1) := by decide +kernel
theorem dX10_feed_38 : decode cX10_feed 38 = .ok (.istore 4, 2) := by decide +kernel
theorem dX10_feed_40 : decode cX10_feed 40 = .ok (.iload 4, 2) := by decide +kernel
theorem dX10_feed_42 : decode cX10_feed 42 = .ok (.iload_n 3, 1) := by decide +kernel
theorem dX10_feed_43 : decode cX10_feed 43 = .ok (.if_icmp .ge 45, 3) := by decide +kernel
theorem dX10_feed_46 : decode cX10_feed 46 = .ok (.aload_n 0, 1) := by decide +kernel
theorem dX10_feed_47 : decode cX10_feed 47 = .ok (.getfield 9, 3) := by decide +kernel
theorem dX10_feed_50 : decode cX10_feed 50 = .ok (.bipush 90, 2) := by decide +kernel
theorem dX10_feed_52 : decode cX10_feed 52 = .ok (.aload_n 0, 1) := by decide +kernel
theorem dX10_feed_53 : decode cX10_feed 53 = .ok (.getfield 9, 3) := by decide +kernel
theorem dX10_feed_56 : decode cX10_feed 56 = .ok (.iconst 4, 1) := by decide +kernel
theorem dX10_feed_57 : decode cX10_feed 57 = .ok (.iaload, 1) := by decide +kernel
theorem dX10_feed_58 : decode cX10_feed 58 = .ok (.iadd, 1) := by decide +kernel
theorem dX10_feed_59 : decode cX10_feed 59 = .ok (.lload_n 1, 1) := by decide +kernel
theorem dX10_feed_60 : decode cX10_feed 60 = .ok (.bipush 8, 2) := by decide +kernel
theorem dX10_feed_62 : decode cX10_feed 62 = .ok (.iload 4, 2) := by decide +kernel
theorem dX10_feed_64 : decode cX10_feed 64 = .ok (.imul, 1) := by decide +kernel
theorem dX10_feed_65 : decode cX10_feed 65 = .ok (.lshr, 1) := by decide +kernel
theorem dX10_feed_66 : decode cX10_feed 66 = .ok (.ldc2_w 115, 3) := by decide +kernel
theorem dX10_feed_69 : decode cX10_feed 69 = .ok (.land, 1) := by decide +kernel
theorem dX10_feed_70 : decode cX10_feed 70 = .ok (.l2i, 1) := by decide +kernel
theorem dX10_feed_71 : decode cX10_feed 71 = .ok (.iastore, 1) := by decide +kernel
theorem dX10_feed_72 : decode cX10_feed 72 = .ok (.aload_n 0, 1) := by decide +kernel
theorem dX10_feed_73 : decode cX10_feed 73 = .ok (.getfield 9, 3) := by decide +kernel
theorem dX10_feed_76 : decode cX10_feed 76 = .ok (.iconst 4, 1) := by decide +kernel
theorem dX10_feed_77 : decode cX10_feed 77 = .ok (.dup2, 1) := by decide +kernel
theorem dX10_feed_78 : decode cX10_feed 78 = .ok (.iaload, 1) := by decide +kernel
theorem dX10_feed_79 : decode cX10_feed 79 = .ok (.iconst 1, 1) := by decide +kernel
theorem dX10_feed_80 : decode cX10_feed 80 = .ok (.iadd, 1) := by decide +kernel
theorem dX10_feed_81 : decode cX10_feed 81 = .ok (.iastore, 1) := by decide +kernel
theorem dX10_feed_82 : decode cX10_feed 82 = .ok (.iinc 4 1, 3) := by decide +kernel
theorem dX10_feed_85 : decode cX10_feed 85 = .ok (.goto (-45), 3) := by decide +kernel
theorem dX10_feed_88 : decode cX10_feed 88 = .ok (.aload_n 0, 1) := by decide +kernel
theorem dX10_feed_89 : decode cX10_feed 89 = .ok (.getfield 9, 3) := by decide +kernel
theorem dX10_feed_92 : decode cX10_feed 92 = .ok (.iconst 4, 1) := by decide +kernel
theorem dX10_feed_93 : decode cX10_feed 93 = .ok (.iaload, 1) := by decide +kernel
theorem dX10_feed_94 : decode cX10_feed 94 = .ok (.ireturn, 1) := by decide +kernel
theorem dX10_look_0 : decode cX10_look 0 = .ok (.aload_n 0, 1) := by decide +kernel
theorem dX10_look_1 : decode cX10_look 1 = .ok (.getfield 117, 3) := by decide +kernel
theorem dX10_look_4 : decode cX10_look 4 = .ok (.aload_n 0, 1) := by decide +kernel
theorem dX10_look_5 : decode cX10_look 5 = .ok (.getfield 9, 3) := by decide +kernel
theorem dX10_look_8 : decode cX10_look 8 = .ok (.iconst 4, 1) := by decide +kernel
theorem dX10_look_9 : decode cX10_look 9 = .ok (.iaload, 1) := by decide +kernel
theorem dX10_look_10 : decode cX10_look 10 = .ok (.if_icmp .ge 18, 3) := by decide +kernel
theorem dX10_look_13 : decode cX10_look 13 = .ok (.aload_n 0, 1) := by decide +kernel
theorem dX10_look_14 : decode cX10_look 14 = .ok (.getfield 9, 3) := by decide +kernel
theorem dX10_look_17 : decode cX10_look 17 = .ok (.bipush 90, 2) := by decide +kernel
theorem dX10_look_19 : decode cX10_look 19 = .ok (.aload_n 0, 1) := by decide +kernel
theorem dX10_look_20 : decode cX10_look 20 = .ok (.getfield 117, 3) := by decide +kernel
theorem dX10_look_23 : decode cX10_look 23 = .ok (.iadd, 1) := by decide +kernel
theorem dX10_look_24 : decode cX10_look 24 = .ok (.iaload, 1) := by decide +kernel
theorem dX10_look_25 : decode cX10_look 25 = .ok (.goto 4, 3) := by decide +kernel
theorem dX10_look_28 : decode cX10_look 28 = .ok (.iconst (-1), 1) := by decide +kernel
theorem dX10_look_29 : decode cX10_look 29 = .ok (.ireturn, 1) := by decide +kernel
theorem dX10_step_0 : decode cX10_step 0 = .ok (.aload_n 0, 1) := by decide +kernel
theorem dX10_step_1 : decode cX10_step 1 = .ok (.getfield 121, 3) := by decide +kernel
theorem dX10_step_4 : decode cX10_step 4 = .ok (.aload_n 0, 1) := by decide +kernel
theorem dX10_step_5 : decode cX10_step 5 = .ok (.getfield 31, 3) := by decide +kernel
theorem dX10_step_8 : decode cX10_step 8 = .ok (.arraylength, 1) := by decide +kernel
theorem dX10_step_9 : decode cX10_step 9 = .ok (.if_icmp .ge 33, 3) := by decide +kernel
theorem dX10_step_12 : decode cX10_step 12 = .ok (.aload_n 0, 1) := by decide +kernel
theorem dX10_step_13 : decode cX10_step 13 = .ok (.getfield 31, 3) := by decide +kernel
theorem dX10_step_16 : decode cX10_step 16 = .ok (.aload_n 0, 1) := by decide +kernel
theorem dX10_step_17 : decode cX10_step 17 = .ok (.getfield 121, 3) := by decide +kernel
theorem dX10_step_20 : decode cX10_step 20 = .ok (.iload_n 1, 1) := by decide +kernel
theorem dX10_step_21 : decode cX10_step 21 = .ok (.iastore, 1) := by decide +kernel
theorem dX10_step_22 : decode cX10_step 22 = .ok (.aload_n 0, 1) := by decide +kernel
theorem dX10_step_23 : decode cX10_step 23 = .ok (.getfield 34, 3) := by decide +kernel
theorem dX10_step_26 : decode cX10_step 26 = .ok (.aload_n 0, 1) := by decide +kernel
theorem dX10_step_27 : decode cX10_step 27 = .ok (.getfield 121, 3) := by decide +kernel
theorem dX10_step_30 : decode cX10_step 30 = .ok (.iload_n 2, 1) := by decide +kernel
theorem dX10_step_31 : decode cX10_step 31 = .ok (.iastore, 1) := by decide +kernel
theorem dX10_step_32 : decode cX10_step 32 = .ok (.aload_n 0, 1) := by decide +kernel
theorem dX10_step_33 : decode cX10_step 33 = .ok (.dup, 1) := by decide +kernel
theorem dX10_step_34 : decode cX10_step 34 = .ok (.getfield 121, 3) := by decide +kernel
theorem dX10_step_37 : decode cX10_step 37 = .ok (.iconst 1, 1) := by decide +kernel
theorem dX10_step_38 : decode cX10_step 38 = .ok (.iadd, 1) := by decide +kernel
theorem dX10_step_39 : decode cX10_step 39 = .ok (.putfield 121, 3) := by decide +kernel
theorem dX10_step_42 : decode cX10_step 42 = .ok (.return_, 1) := by decide +kernel
theorem dX10_nameOf_0 : decode cX10_nameOf 0 = .ok (.iload_n 1, 1) := by decide +kernel
theorem dX10_nameOf_1 : decode cX10_nameOf 1 = .ok (.tableswitch 130 97 108 #[63, 63, 96, 96, 130, 130, 130, 130, 130, 130, 63, 96], 63) := by decide +kernel
theorem dX10_nameOf_64 : decode cX10_nameOf 64 = .ok (.aload_n 0, 1) := by decide +kernel
theorem dX10_nameOf_65 : decode cX10_nameOf 65 = .ok (.getfield 124, 3) := by decide +kernel
theorem dX10_nameOf_68 : decode cX10_nameOf 68 = .ok (.ifCond .eq 7, 3) := by decide +kernel
theorem dX10_nameOf_71 : decode cX10_nameOf 71 = .ok (.iconst (-1), 1) := by decide +kernel
theorem dX10_nameOf_72 : decode cX10_nameOf 72 = .ok (.goto 24, 3) := by decide +kernel
theorem dX10_nameOf_75 : decode cX10_nameOf 75 = .ok (.iload_n 1, 1) := by decide +kernel
theorem dX10_nameOf_76 : decode cX10_nameOf 76 = .ok (.bipush 97, 2) := by decide +kernel
theorem dX10_nameOf_78 : decode cX10_nameOf 78 = .ok (.if_icmp .ne 7, 3) := by decide +kernel
theorem dX10_nameOf_81 : decode cX10_nameOf 81 = .ok (.iconst 0, 1) := by decide +kernel
theorem dX10_nameOf_82 : decode cX10_nameOf 82 = .ok (.goto 14, 3) := by decide +kernel
theorem dX10_nameOf_85 : decode cX10_nameOf 85 = .ok (.iload_n 1, 1) := by decide +kernel
theorem dX10_nameOf_86 : decode cX10_nameOf 86 = .ok (.bipush 98, 2) := by decide +kernel
theorem dX10_nameOf_88 : decode cX10_nameOf 88 = .ok (.if_icmp .ne 7, 3) := by decide +kernel
theorem dX10_nameOf_91 : decode cX10_nameOf 91 = .ok (.iconst 1, 1) := by decide +kernel
theorem dX10_nameOf_92 : decode cX10_nameOf 92 = .ok (.goto 4, 3) := by decide +kernel
theorem dX10_nameOf_95 : decode cX10_nameOf 95 = .ok (.iconst 2, 1) := by decide +kernel
theorem dX10_nameOf_96 : decode cX10_nameOf 96 = .ok (.ireturn, 1) := by decide +kernel
theorem dX10_nameOf_97 : decode cX10_nameOf 97 = .ok (.aload_n 0, 1) := by decide +kernel
theorem dX10_nameOf_98 : decode cX10_nameOf 98 = .ok (.getfield 124, 3) := by decide +kernel
theorem dX10_nameOf_101 : decode cX10_nameOf 101 = .ok (.iconst 1, 1) := by decide +kernel
theorem dX10_nameOf_102 : decode cX10_nameOf 102 = .ok (.if_icmp .eq 7, 3) := by decide +kernel
theorem dX10_nameOf_105 : decode cX10_nameOf 105 = .ok (.iconst (-1), 1) := by decide +kernel
theorem dX10_nameOf_106 : decode cX10_nameOf 106 = .ok (.goto 24, 3) := by decide +kernel
theorem dX10_nameOf_109 : decode cX10_nameOf 109 = .ok (.iload_n 1, 1) := by decide +kernel
theorem dX10_nameOf_110 : decode cX10_nameOf 110 = .ok (.bipush 108, 2) := by decide +kernel
theorem dX10_nameOf_112 : decode cX10_nameOf 112 = .ok (.if_icmp .ne 7, 3) := by decide +kernel
theorem dX10_nameOf_115 : decode cX10_nameOf 115 = .ok (.iconst 0, 1) := by decide +kernel
theorem dX10_nameOf_116 : decode cX10_nameOf 116 = .ok (.goto 14, 3) := by decide +kernel
theorem dX10_nameOf_119 : decode cX10_nameOf 119 = .ok (.iload_n 1, 1) := by decide +kernel
theorem dX10_nameOf_120 : decode cX10_nameOf 120 = .ok (.bipush 99, 2) := by decide +kernel
theorem dX10_nameOf_122 : decode cX10_nameOf 122 = .ok (.if_icmp .ne 7, 3) := by decide +kernel
theorem dX10_nameOf_125 : decode cX10_nameOf 125 = .ok (.iconst 1, 1) := by decide +kernel
theorem dX10_nameOf_126 : decode cX10_nameOf 126 = .ok (.goto 4, 3) := by decide +kernel
theorem dX10_nameOf_129 : decode cX10_nameOf 129 = .ok (.iconst 2, 1) := by decide +kernel
theorem dX10_nameOf_130 : decode cX10_nameOf 130 = .ok (.ireturn, 1) := by decide +kernel
theorem dX10_nameOf_131 : decode cX10_nameOf 131 = .ok (.iconst (-1), 1) := by decide +kernel
theorem dX10_nameOf_132 : decode cX10_nameOf 132 = .ok (.ireturn, 1) := by decide +kernel
theorem dX10_number_0 : decode cX10_number 0 = .ok (.iconst 0, 1) := by decide +kernel
theorem dX10_number_1 : decode cX10_number 1 = .ok (.istore_n 1, 1) := by decide +kernel
theorem dX10_number_2 : decode cX10_number 2 = .ok (.iconst 0, 1) := by decide +kernel
theorem dX10_number_3 : decode cX10_number 3 = .ok (.istore_n 2, 1) := by decide +kernel
theorem dX10_number_4 : decode cX10_number 4 = .ok (.iload_n 2, 1) := by decide +kernel
theorem dX10_number_5 : decode cX10_number 5 = .ok (.iconst 4, 1) := by decide +kernel
theorem dX10_number_6 : decode cX10_number 6 = .ok (.if_icmp .ge 46, 3) := by decide +kernel
theorem dX10_number_9 : decode cX10_number 9 = .ok (.aload_n 0, 1) := by decide +kernel
theorem dX10_number_10 : decode cX10_number 10 = .ok (.invokevirtual 127, 3) := by decide +kernel
theorem dX10_number_13 : decode cX10_number 13 = .ok (.bipush 48, 2) := by decide +kernel
theorem dX10_number_15 : decode cX10_number 15 = .ok (.bipush 57, 2) := by decide +kernel
theorem dX10_number_17 : decode cX10_number 17 = .ok (.invokestatic 54, 3) := by decide +kernel
theorem dX10_number_20 : decode cX10_number 20 = .ok (.ifCond .eq 32, 3) := by decide +kernel
theorem dX10_number_23 : decode cX10_number 23 = .ok (.bipush 10, 2) := by decide +kernel
theorem dX10_number_25 : decode cX10_number 25 = .ok (.iload_n 1, 1) := by decide +kernel
theorem dX10_number_26 : decode cX10_number 26 = .ok (.imul, 1) := by decide +kernel
theorem dX10_number_27 : decode cX10_number 27 = .ok (.aload_n 0, 1) := by decide +kernel
theorem dX10_number_28 : decode cX10_number 28 = .ok (.invokevirtual 127, 3) := by decide +kernel
theorem dX10_number_31 : decode cX10_number 31 = .ok (.iadd, 1) := by decide +kernel
theorem dX10_number_32 : decode cX10_number 32 = .ok (.bipush 48, 2) := by decide +kernel
theorem dX10_number_34 : decode cX10_number 34 = .ok (.isub, 1) := by decide +kernel
theorem dX10_number_35 : decode cX10_number 35 = .ok (.istore_n 1, 1) := by decide +kernel
theorem dX10_number_36 : decode cX10_number 36 = .ok (.aload_n 0, 1) := by decide +kernel
theorem dX10_number_37 : decode cX10_number 37 = .ok (.dup, 1) := by decide +kernel
theorem dX10_number_38 : decode cX10_number 38 = .ok (.getfield 117, 3) := by decide +kernel
theorem dX10_number_41 : decode cX10_number 41 = .ok (.iconst 1, 1) := by decide +kernel
theorem dX10_number_42 : decode cX10_number 42 = .ok (.iadd, 1) := by decide +kernel
theorem dX10_number_43 : decode cX10_number 43 = .ok (.putfield 117, 3) := by decide +kernel
theorem dX10_number_46 : decode cX10_number 46 = .ok (.iinc 2 1, 3) := by decide +kernel
theorem dX10_number_49 : decode cX10_number 49 = .ok (.goto (-45), 3) := by decide +kernel
theorem dX10_number_52 : decode cX10_number 52 = .ok (.aload_n 0, 1) := by decide +kernel
theorem dX10_number_53 : decode cX10_number 53 = .ok (.iload_n 2, 1) := by decide +kernel
theorem dX10_number_54 : decode cX10_number 54 = .ok (.ifCond .ne 7, 3) := by decide +kernel
theorem dX10_number_57 : decode cX10_number 57 = .ok (.iconst 1, 1) := by decide +kernel
theorem dX10_number_58 : decode cX10_number 58 = .ok (.goto 4, 3) := by decide +kernel
theorem dX10_number_61 : decode cX10_number 61 = .ok (.iconst 0, 1) := by decide +kernel
theorem dX10_number_62 : decode cX10_number 62 = .ok (.putfield 131, 3) := by decide +kernel
theorem dX10_number_65 : decode cX10_number 65 = .ok (.aload_n 0, 1) := by decide +kernel
theorem dX10_number_66 : decode cX10_number 66 = .ok (.iconst 1, 1) := by decide +kernel
theorem dX10_number_67 : decode cX10_number 67 = .ok (.iload_n 1, 1) := by decide +kernel
theorem dX10_number_68 : decode cX10_number 68 = .ok (.invokevirtual 135, 3) := by decide +kernel
theorem dX10_number_71 : decode cX10_number 71 = .ok (.return_, 1) := by decide +kernel
theorem dX10_opens_0 : decode cX10_opens 0 = .ok (.aload_n 0, 1) := by decide +kernel
theorem dX10_opens_1 : decode cX10_opens 1 = .ok (.getfield 139, 3) := by decide +kernel
theorem dX10_opens_4 : decode cX10_opens 4 = .ok (.iconst 5, 1) := by decide +kernel
theorem dX10_opens_5 : decode cX10_opens 5 = .ok (.if_icmp .ne 9, 3) := by decide +kernel
theorem dX10_opens_8 : decode cX10_opens 8 = .ok (.aload_n 0, 1) := by decide +kernel
theorem dX10_opens_9 : decode cX10_opens 9 = .ok (.iconst 1, 1) := by decide +kernel
theorem dX10_opens_10 : decode cX10_opens 10 = .ok (.putfield 131, 3) := by decide +kernel
theorem dX10_opens_13 : decode cX10_opens 13 = .ok (.return_, 1) := by decide +kernel
theorem dX10_opens_14 : decode cX10_opens 14 = .ok (.aload_n 0, 1) := by decide +kernel
theorem dX10_opens_15 : decode cX10_opens 15 = .ok (.dup, 1) := by decide +kernel
theorem dX10_opens_16 : decode cX10_opens 16 = .ok (.getfield 139, 3) := by decide +kernel
theorem dX10_opens_19 : decode cX10_opens 19 = .ok (.iconst 1, 1) := by decide +kernel
theorem dX10_opens_20 : decode cX10_opens 20 = .ok (.iadd, 1) := by decide +kernel
theorem dX10_opens_21 : decode cX10_opens 21 = .ok (.putfield 139, 3) := by decide +kernel
theorem dX10_opens_24 : decode cX10_opens 24 = .ok (.aload_n 0, 1) := by decide +kernel
theorem dX10_opens_25 : decode cX10_opens 25 = .ok (.dup, 1) := by decide +kernel
theorem dX10_opens_26 : decode cX10_opens 26 = .ok (.getfield 117, 3) := by decide +kernel
theorem dX10_opens_29 : decode cX10_opens 29 = .ok (.iconst 1, 1) := by decide +kernel
theorem dX10_opens_30 : decode cX10_opens 30 = .ok (.iadd, 1) := by decide +kernel
theorem dX10_opens_31 : decode cX10_opens 31 = .ok (.putfield 117, 3) := by decide +kernel
theorem dX10_opens_34 : decode cX10_opens 34 = .ok (.iload_n 1, 1) := by decide +kernel
theorem dX10_opens_35 : decode cX10_opens 35 = .ok (.bipush 33, 2) := by decide +kernel
theorem dX10_opens_37 : decode cX10_opens 37 = .ok (.if_icmp .ne 16, 3) := by decide +kernel
theorem dX10_opens_40 : decode cX10_opens 40 = .ok (.aload_n 0, 1) := by decide +kernel
theorem dX10_opens_41 : decode cX10_opens 41 = .ok (.invokevirtual 142, 3) := by decide +kernel
theorem dX10_opens_44 : decode cX10_opens 44 = .ok (.aload_n 0, 1) := by decide +kernel
theorem dX10_opens_45 : decode cX10_opens 45 = .ok (.iconst 3, 1) := by decide +kernel
theorem dX10_opens_46 : decode cX10_opens 46 = .ok (.iconst 0, 1) := by decide +kernel
theorem dX10_opens_47 : decode cX10_opens 47 = .ok (.invokevirtual 135, 3) := by decide +kernel
theorem dX10_opens_50 : decode cX10_opens 50 = .ok (.goto 53, 3) := by decide +kernel
theorem dX10_opens_53 : decode cX10_opens 53 = .ok (.aload_n 0, 1) := by decide +kernel
theorem dX10_opens_54 : decode cX10_opens 54 = .ok (.invokevirtual 145, 3) := by decide +kernel
theorem dX10_opens_57 : decode cX10_opens 57 = .ok (.aload_n 0, 1) := by decide +kernel
theorem dX10_opens_58 : decode cX10_opens 58 = .ok (.aload_n 0, 1) := by decide +kernel
theorem dX10_opens_59 : decode cX10_opens 59 = .ok (.getfield 131, 3) := by decide +kernel
theorem dX10_opens_62 : decode cX10_opens 62 = .ok (.ifCond .ne 12, 3) := by decide +kernel
theorem dX10_opens_65 : decode cX10_opens 65 = .ok (.aload_n 0, 1) := by decide +kernel
theorem dX10_opens_66 : decode cX10_opens 66 = .ok (.invokevirtual 127, 3) := by decide +kernel
theorem dX10_opens_69 : decode cX10_opens 69 = .ok (.bipush 41, 2) := by decide +kernel
theorem dX10_opens_71 : decode cX10_opens 71 = .ok (.if_icmp .eq 7, 3) := by decide +kernel
theorem dX10_opens_74 : decode cX10_opens 74 = .ok (.iconst 1, 1) := by decide +kernel
theorem dX10_opens_75 : decode cX10_opens 75 = .ok (.goto 4, 3) := by decide +kernel
theorem dX10_opens_78 : decode cX10_opens 78 = .ok (.iconst 0, 1) := by decide +kernel
theorem dX10_opens_79 : decode cX10_opens 79 = .ok (.putfield 131, 3) := by decide +kernel
theorem dX10_opens_82 : decode cX10_opens 82 = .ok (.aload_n 0, 1) := by decide +kernel
theorem dX10_opens_83 : decode cX10_opens 83 = .ok (.dup, 1) := by decide +kernel
theorem dX10_opens_84 : decode cX10_opens 84 = .ok (.getfield 117, 3) := by decide +kernel
theorem dX10_opens_87 : decode cX10_opens 87 = .ok (.aload_n 0, 1) := by decide +kernel
theorem dX10_opens_88 : decode cX10_opens 88 = .ok (.getfield 131, 3) := by decide +kernel
theorem dX10_opens_91 : decode cX10_opens 91 = .ok (.ifCond .eq 7, 3) := by decide +kernel
theorem dX10_opens_94 : decode cX10_opens 94 = .ok (.iconst 0, 1) := by decide +kernel
theorem dX10_opens_95 : decode cX10_opens 95 = .ok (.goto 4, 3) := by decide +kernel
theorem dX10_opens_98 : decode cX10_opens 98 = .ok (.iconst 1, 1) := by decide +kernel
theorem dX10_opens_99 : decode cX10_opens 99 = .ok (.iadd, 1) := by decide +kernel
theorem dX10_opens_100 : decode cX10_opens 100 = .ok (.putfield 117, 3) := by decide +kernel
theorem dX10_opens_103 : decode cX10_opens 103 = .ok (.aload_n 0, 1) := by decide +kernel
theorem dX10_opens_104 : decode cX10_opens 104 = .ok (.dup, 1) := by decide +kernel
theorem dX10_opens_105 : decode cX10_opens 105 = .ok (.getfield 139, 3) := by decide +kernel
theorem dX10_opens_108 : decode cX10_opens 108 = .ok (.iconst 1, 1) := by decide +kernel
theorem dX10_opens_109 : decode cX10_opens 109 = .ok (.isub, 1) := by decide +kernel
theorem dX10_opens_110 : decode cX10_opens 110 = .ok (.putfield 139, 3) := by decide +kernel
theorem dX10_opens_113 : decode cX10_opens 113 = .ok (.return_, 1) := by decide +kernel
theorem dX10_one_0 : decode cX10_one 0 = .ok (.aload_n 0, 1) := by decide +kernel
theorem dX10_one_1 : decode cX10_one 1 = .ok (.invokevirtual 127, 3) := by decide +kernel
theorem dX10_one_4 : decode cX10_one 4 = .ok (.istore_n 1, 1) := by decide +kernel
theorem dX10_one_5 : decode cX10_one 5 = .ok (.aload_n 0, 1) := by decide +kernel
theorem dX10_one_6 : decode cX10_one 6 = .ok (.iload_n 1, 1) := by decide +kernel
theorem dX10_one_7 : decode cX10_one 7 = .ok (.invokevirtual 148, 3) := by decide +kernel
theorem dX10_one_10 : decode cX10_one 10 = .ok (.istore_n 2, 1) := by decide +kernel
theorem dX10_one_11 : decode cX10_one 11 = .ok (.iload_n 2, 1) := by decide +kernel
theorem dX10_one_12 : decode cX10_one 12 = .ok (.ifCond .lt 22, 3) := by decide +kernel
theorem dX10_one_15 : decode cX10_one 15 = .ok (.aload_n 0, 1) := by decide +kernel
theorem dX10_one_16 : decode cX10_one 16 = .ok (.dup, 1) := by decide +kernel
theorem dX10_one_17 : decode cX10_one 17 = .ok (.getfield 117, 3) := by decide +kernel
theorem dX10_one_20 : decode cX10_one 20 = .ok (.iconst 1, 1) := by decide +kernel
theorem dX10_one_21 : decode cX10_one 21 = .ok (.iadd, 1) := by decide +kernel
theorem dX10_one_22 : decode cX10_one 22 = .ok (.putfield 117, 3) := by decide +kernel
theorem dX10_one_25 : decode cX10_one 25 = .ok (.aload_n 0, 1) := by decide +kernel
theorem dX10_one_26 : decode cX10_one 26 = .ok (.iconst 2, 1) := by decide +kernel
theorem dX10_one_27 : decode cX10_one 27 = .ok (.iload_n 2, 1) := by decide +kernel
theorem dX10_one_28 : decode cX10_one 28 = .ok (.invokevirtual 135, 3) := by decide +kernel
theorem dX10_one_31 : decode cX10_one 31 = .ok (.goto 27, 3) := by decide +kernel
theorem dX10_one_34 : decode cX10_one 34 = .ok (.iload_n 1, 1) := by decide +kernel
theorem dX10_one_35 : decode cX10_one 35 = .ok (.bipush 33, 2) := by decide +kernel
theorem dX10_one_37 : decode cX10_one 37 = .ok (.if_icmp .eq 9, 3) := by decide +kernel
theorem dX10_one_40 : decode cX10_one 40 = .ok (.iload_n 1, 1) := by decide +kernel
theorem dX10_one_41 : decode cX10_one 41 = .ok (.bipush 40, 2) := by decide +kernel
theorem dX10_one_43 : decode cX10_one 43 = .ok (.if_icmp .ne 11, 3) := by decide +kernel
theorem dX10_one_46 : decode cX10_one 46 = .ok (.aload_n 0, 1) := by decide +kernel
theorem dX10_one_47 : decode cX10_one 47 = .ok (.iload_n 1, 1) := by decide +kernel
theorem dX10_one_48 : decode cX10_one 48 = .ok (.invokevirtual 151, 3) := by decide +kernel
theorem dX10_one_51 : decode cX10_one 51 = .ok (.goto 7, 3) := by decide +kernel
theorem dX10_one_54 : decode cX10_one 54 = .ok (.aload_n 0, 1) := by decide +kernel
theorem dX10_one_55 : decode cX10_one 55 = .ok (.invokevirtual 155, 3) := by decide +kernel
theorem dX10_one_58 : decode cX10_one 58 = .ok (.return_, 1) := by decide +kernel
theorem dX10_times_0 : decode cX10_times 0 = .ok (.aload_n 0, 1) := by decide +kernel
theorem dX10_times_1 : decode cX10_times 1 = .ok (.invokevirtual 142, 3) := by decide +kernel
theorem dX10_times_4 : decode cX10_times 4 = .ok (.aload_n 0, 1) := by decide +kernel
theorem dX10_times_5 : decode cX10_times 5 = .ok (.getfield 131, 3) := by decide +kernel
theorem dX10_times_8 : decode cX10_times 8 = .ok (.ifCond .ne 58, 3) := by decide +kernel
theorem dX10_times_11 : decode cX10_times 11 = .ok (.aload_n 0, 1) := by decide +kernel
theorem dX10_times_12 : decode cX10_times 12 = .ok (.invokevirtual 127, 3) := by decide +kernel
theorem dX10_times_15 : decode cX10_times 15 = .ok (.bipush 42, 2) := by decide +kernel
theorem dX10_times_17 : decode cX10_times 17 = .ok (.if_icmp .eq 21, 3) := by decide +kernel
theorem dX10_times_20 : decode cX10_times 20 = .ok (.aload_n 0, 1) := by decide +kernel
theorem dX10_times_21 : decode cX10_times 21 = .ok (.invokevirtual 127, 3) := by decide +kernel
theorem dX10_times_24 : decode cX10_times 24 = .ok (.bipush 47, 2) := by decide +kernel
theorem dX10_times_26 : decode cX10_times 26 = .ok (.if_icmp .eq 12, 3) := by decide +kernel
theorem dX10_times_29 : decode cX10_times 29 = .ok (.aload_n 0, 1) := by decide +kernel
theorem dX10_times_30 : decode cX10_times 30 = .ok (.invokevirtual 127, 3) := by decide +kernel
theorem dX10_times_33 : decode cX10_times 33 = .ok (.bipush 37, 2) := by decide +kernel
theorem dX10_times_35 : decode cX10_times 35 = .ok (.if_icmp .ne 31, 3) := by decide +kernel
theorem dX10_times_38 : decode cX10_times 38 = .ok (.aload_n 0, 1) := by decide +kernel
theorem dX10_times_39 : decode cX10_times 39 = .ok (.invokevirtual 127, 3) := by decide +kernel
theorem dX10_times_42 : decode cX10_times 42 = .ok (.istore_n 1, 1) := by decide +kernel
theorem dX10_times_43 : decode cX10_times 43 = .ok (.aload_n 0, 1) := by decide +kernel
theorem dX10_times_44 : decode cX10_times 44 = .ok (.dup, 1) := by decide +kernel
theorem dX10_times_45 : decode cX10_times 45 = .ok (.getfield 117, 3) := by decide +kernel
theorem dX10_times_48 : decode cX10_times 48 = .ok (.iconst 1, 1) := by decide +kernel
theorem dX10_times_49 : decode cX10_times 49 = .ok (.iadd, 1) := by decide +kernel
theorem dX10_times_50 : decode cX10_times 50 = .ok (.putfield 117, 3) := by decide +kernel
theorem dX10_times_53 : decode cX10_times 53 = .ok (.aload_n 0, 1) := by decide +kernel
theorem dX10_times_54 : decode cX10_times 54 = .ok (.invokevirtual 142, 3) := by decide +kernel
theorem dX10_times_57 : decode cX10_times 57 = .ok (.aload_n 0, 1) := by decide +kernel
theorem dX10_times_58 : decode cX10_times 58 = .ok (.iload_n 1, 1) := by decide +kernel
theorem dX10_times_59 : decode cX10_times 59 = .ok (.iconst 0, 1) := by decide +kernel
theorem dX10_times_60 : decode cX10_times 60 = .ok (.invokevirtual 135, 3) := by decide +kernel
theorem dX10_times_63 : decode cX10_times 63 = .ok (.goto (-59), 3) := by decide +kernel
theorem dX10_times_66 : decode cX10_times 66 = .ok (.return_, 1) := by decide +kernel
theorem dX10_sum_0 : decode cX10_sum 0 = .ok (.aload_n 0, 1) := by decide +kernel
theorem dX10_sum_1 : decode cX10_sum 1 = .ok (.invokevirtual 158, 3) := by decide +kernel
theorem dX10_sum_4 : decode cX10_sum 4 = .ok (.aload_n 0, 1) := by decide +kernel
theorem dX10_sum_5 : decode cX10_sum 5 = .ok (.getfield 131, 3) := by decide +kernel
theorem dX10_sum_8 : decode cX10_sum 8 = .ok (.ifCond .ne 49, 3) := by decide +kernel
theorem dX10_sum_11 : decode cX10_sum 11 = .ok (.aload_n 0, 1) := by decide +kernel
theorem dX10_sum_12 : decode cX10_sum 12 = .ok (.invokevirtual 127, 3) := by decide +kernel
theorem dX10_sum_15 : decode cX10_sum 15 = .ok (.bipush 43, 2) := by decide +kernel
theorem dX10_sum_17 : decode cX10_sum 17 = .ok (.if_icmp .eq 12, 3) := by decide +kernel
theorem dX10_sum_20 : decode cX10_sum 20 = .ok (.aload_n 0, 1) := by decide +kernel
theorem dX10_sum_21 : decode cX10_sum 21 = .ok (.invokevirtual 127, 3) := by decide +kernel
theorem dX10_sum_24 : decode cX10_sum 24 = .ok (.bipush 45, 2) := by decide +kernel
theorem dX10_sum_26 : decode cX10_sum 26 = .ok (.if_icmp .ne 31, 3) := by decide +kernel
theorem dX10_sum_29 : decode cX10_sum 29 = .ok (.aload_n 0, 1) := by decide +kernel
theorem dX10_sum_30 : decode cX10_sum 30 = .ok (.invokevirtual 127, 3) := by decide +kernel
theorem dX10_sum_33 : decode cX10_sum 33 = .ok (.istore_n 1, 1) := by decide +kernel
theorem dX10_sum_34 : decode cX10_sum 34 = .ok (.aload_n 0, 1) := by decide +kernel
theorem dX10_sum_35 : decode cX10_sum 35 = .ok (.dup, 1) := by decide +kernel
theorem dX10_sum_36 : decode cX10_sum 36 = .ok (.getfield 117, 3) := by decide +kernel
theorem dX10_sum_39 : decode cX10_sum 39 = .ok (.iconst 1, 1) := by decide +kernel
theorem dX10_sum_40 : decode cX10_sum 40 = .ok (.iadd, 1) := by decide +kernel
theorem dX10_sum_41 : decode cX10_sum 41 = .ok (.putfield 117, 3) := by decide +kernel
theorem dX10_sum_44 : decode cX10_sum 44 = .ok (.aload_n 0, 1) := by decide +kernel
theorem dX10_sum_45 : decode cX10_sum 45 = .ok (.invokevirtual 158, 3) := by decide +kernel
theorem dX10_sum_48 : decode cX10_sum 48 = .ok (.aload_n 0, 1) := by decide +kernel
theorem dX10_sum_49 : decode cX10_sum 49 = .ok (.iload_n 1, 1) := by decide +kernel
theorem dX10_sum_50 : decode cX10_sum 50 = .ok (.iconst 0, 1) := by decide +kernel
theorem dX10_sum_51 : decode cX10_sum 51 = .ok (.invokevirtual 135, 3) := by decide +kernel
theorem dX10_sum_54 : decode cX10_sum 54 = .ok (.goto (-50), 3) := by decide +kernel
theorem dX10_sum_57 : decode cX10_sum 57 = .ok (.return_, 1) := by decide +kernel
theorem dX10_compares_0 : decode cX10_compares 0 = .ok (.aload_n 0, 1) := by decide +kernel
theorem dX10_compares_1 : decode cX10_compares 1 = .ok (.invokevirtual 161, 3) := by decide +kernel
theorem dX10_compares_4 : decode cX10_compares 4 = .ok (.aload_n 0, 1) := by decide +kernel
theorem dX10_compares_5 : decode cX10_compares 5 = .ok (.invokevirtual 127, 3) := by decide +kernel
theorem dX10_compares_8 : decode cX10_compares 8 = .ok (.istore_n 1, 1) := by decide +kernel
theorem dX10_compares_9 : decode cX10_compares 9 = .ok (.aload_n 0, 1) := by decide +kernel
theorem dX10_compares_10 : decode cX10_compares 10 = .ok (.getfield 131, 3) := by decide +kernel
theorem dX10_compares_13 : decode cX10_compares 13 = .ok (.ifCond .ne 41, 3) := by decide +kernel
theorem dX10_compares_16 : decode cX10_compares 16 = .ok (.iload_n 1, 1) := by decide +kernel
theorem dX10_compares_17 : decode cX10_compares 17 = .ok (.bipush 60, 2) := by decide +kernel
theorem dX10_compares_19 : decode cX10_compares 19 = .ok (.if_icmp .eq 15, 3) := by decide +kernel
theorem dX10_compares_22 : decode cX10_compares 22 = .ok (.iload_n 1, 1) := by decide +kernel
theorem dX10_compares_23 : decode cX10_compares 23 = .ok (.bipush 61, 2) := by decide +kernel
theorem dX10_compares_25 : decode cX10_compares 25 = .ok (.if_icmp .eq 9, 3) := by decide +kernel
theorem dX10_compares_28 : decode cX10_compares 28 = .ok (.iload_n 1, 1) := by decide +kernel
theorem dX10_compares_29 : decode cX10_compares 29 = .ok (.bipush 62, 2) := by decide +kernel
theorem dX10_compares_31 : decode cX10_compares 31 = .ok (.if_icmp .ne 23, 3) := by decide +kernel
theorem dX10_compares_34 : decode cX10_compares 34 = .ok (.aload_n 0, 1) := by decide +kernel
theorem dX10_compares_35 : decode cX10_compares 35 = .ok (.dup, 1) := by decide +kernel
theorem dX10_compares_36 : decode cX10_compares 36 = .ok (.getfield 117, 3) := by decide +kernel
theorem dX10_compares_39 : decode cX10_compares 39 = .ok (.iconst 1, 1) := by decide +kernel
theorem dX10_compares_40 : decode cX10_compares 40 = .ok (.iadd, 1) := by decide +kernel
theorem dX10_compares_41 : decode cX10_compares 41 = .ok (.putfield 117, 3) := by decide +kernel
theorem dX10_compares_44 : decode cX10_compares 44 = .ok (.aload_n 0, 1) := by decide +kernel
theorem dX10_compares_45 : decode cX10_compares 45 = .ok (.invokevirtual 161, 3) := by decide +kernel
theorem dX10_compares_48 : decode cX10_compares 48 = .ok (.aload_n 0, 1) := by decide +kernel
theorem dX10_compares_49 : decode cX10_compares 49 = .ok (.iload_n 1, 1) := by decide +kernel
theorem dX10_compares_50 : decode cX10_compares 50 = .ok (.iconst 0, 1) := by decide +kernel
theorem dX10_compares_51 : decode cX10_compares 51 = .ok (.invokevirtual 135, 3) := by decide +kernel
theorem dX10_compares_54 : decode cX10_compares 54 = .ok (.return_, 1) := by decide +kernel
theorem dX10_all_0 : decode cX10_all 0 = .ok (.aload_n 0, 1) := by decide +kernel
theorem dX10_all_1 : decode cX10_all 1 = .ok (.invokevirtual 164, 3) := by decide +kernel
theorem dX10_all_4 : decode cX10_all 4 = .ok (.aload_n 0, 1) := by decide +kernel
theorem dX10_all_5 : decode cX10_all 5 = .ok (.getfield 131, 3) := by decide +kernel
theorem dX10_all_8 : decode cX10_all 8 = .ok (.ifCond .ne 36, 3) := by decide +kernel
theorem dX10_all_11 : decode cX10_all 11 = .ok (.aload_n 0, 1) := by decide +kernel
theorem dX10_all_12 : decode cX10_all 12 = .ok (.invokevirtual 127, 3) := by decide +kernel
theorem dX10_all_15 : decode cX10_all 15 = .ok (.bipush 38, 2) := by decide +kernel
theorem dX10_all_17 : decode cX10_all 17 = .ok (.if_icmp .ne 27, 3) := by decide +kernel
theorem dX10_all_20 : decode cX10_all 20 = .ok (.aload_n 0, 1) := by decide +kernel
theorem dX10_all_21 : decode cX10_all 21 = .ok (.dup, 1) := by decide +kernel
theorem dX10_all_22 : decode cX10_all 22 = .ok (.getfield 117, 3) := by decide +kernel
theorem dX10_all_25 : decode cX10_all 25 = .ok (.iconst 1, 1) := by decide +kernel
theorem dX10_all_26 : decode cX10_all 26 = .ok (.iadd, 1) := by decide +kernel
theorem dX10_all_27 : decode cX10_all 27 = .ok (.putfield 117, 3) := by decide +kernel
theorem dX10_all_30 : decode cX10_all 30 = .ok (.aload_n 0, 1) := by decide +kernel
theorem dX10_all_31 : decode cX10_all 31 = .ok (.invokevirtual 164, 3) := by decide +kernel
theorem dX10_all_34 : decode cX10_all 34 = .ok (.aload_n 0, 1) := by decide +kernel
theorem dX10_all_35 : decode cX10_all 35 = .ok (.bipush 38, 2) := by decide +kernel
theorem dX10_all_37 : decode cX10_all 37 = .ok (.iconst 0, 1) := by decide +kernel
theorem dX10_all_38 : decode cX10_all 38 = .ok (.invokevirtual 135, 3) := by decide +kernel
theorem dX10_all_41 : decode cX10_all 41 = .ok (.goto (-37), 3) := by decide +kernel
theorem dX10_all_44 : decode cX10_all 44 = .ok (.return_, 1) := by decide +kernel
theorem dX10_any_0 : decode cX10_any 0 = .ok (.aload_n 0, 1) := by decide +kernel
theorem dX10_any_1 : decode cX10_any 1 = .ok (.invokevirtual 167, 3) := by decide +kernel
theorem dX10_any_4 : decode cX10_any 4 = .ok (.aload_n 0, 1) := by decide +kernel
theorem dX10_any_5 : decode cX10_any 5 = .ok (.getfield 131, 3) := by decide +kernel
theorem dX10_any_8 : decode cX10_any 8 = .ok (.ifCond .ne 36, 3) := by decide +kernel
theorem dX10_any_11 : decode cX10_any 11 = .ok (.aload_n 0, 1) := by decide +kernel
theorem dX10_any_12 : decode cX10_any 12 = .ok (.invokevirtual 127, 3) := by decide +kernel
theorem dX10_any_15 : decode cX10_any 15 = .ok (.bipush 124, 2) := by decide +kernel
theorem dX10_any_17 : decode cX10_any 17 = .ok (.if_icmp .ne 27, 3) := by decide +kernel
theorem dX10_any_20 : decode cX10_any 20 = .ok (.aload_n 0, 1) := by decide +kernel
theorem dX10_any_21 : decode cX10_any 21 = .ok (.dup, 1) := by decide +kernel
theorem dX10_any_22 : decode cX10_any 22 = .ok (.getfield 117, 3) := by decide +kernel
theorem dX10_any_25 : decode cX10_any 25 = .ok (.iconst 1, 1) := by decide +kernel
theorem dX10_any_26 : decode cX10_any 26 = .ok (.iadd, 1) := by decide +kernel
theorem dX10_any_27 : decode cX10_any 27 = .ok (.putfield 117, 3) := by decide +kernel
theorem dX10_any_30 : decode cX10_any 30 = .ok (.aload_n 0, 1) := by decide +kernel
theorem dX10_any_31 : decode cX10_any 31 = .ok (.invokevirtual 167, 3) := by decide +kernel
theorem dX10_any_34 : decode cX10_any 34 = .ok (.aload_n 0, 1) := by decide +kernel
theorem dX10_any_35 : decode cX10_any 35 = .ok (.bipush 124, 2) := by decide +kernel
theorem dX10_any_37 : decode cX10_any 37 = .ok (.iconst 0, 1) := by decide +kernel
theorem dX10_any_38 : decode cX10_any 38 = .ok (.invokevirtual 135, 3) := by decide +kernel
theorem dX10_any_41 : decode cX10_any 41 = .ok (.goto (-37), 3) := by decide +kernel
theorem dX10_any_44 : decode cX10_any 44 = .ok (.return_, 1) := by decide +kernel
theorem dX10_text_0 : decode cX10_text 0 = .ok (.iload_n 1, 1) := by decide +kernel
theorem dX10_text_1 : decode cX10_text 1 = .ok (.iconst 0, 1) := by decide +kernel
theorem dX10_text_2 : decode cX10_text 2 = .ok (.iconst 1, 1) := by decide +kernel
theorem dX10_text_3 : decode cX10_text 3 = .ok (.invokestatic 54, 3) := by decide +kernel
theorem dX10_text_6 : decode cX10_text 6 = .ok (.ifCond .ne 10, 3) := by decide +kernel
theorem dX10_text_9 : decode cX10_text 9 = .ok (.aload_n 0, 1) := by decide +kernel
theorem dX10_text_10 : decode cX10_text 10 = .ok (.ldc 94, 2) := by decide +kernel
theorem dX10_text_12 : decode cX10_text 12 = .ok (.invokevirtual 95, 3) := by decide +kernel
theorem dX10_text_15 : decode cX10_text 15 = .ok (.ireturn, 1) := by decide +kernel
theorem dX10_text_16 : decode cX10_text 16 = .ok (.aload_n 0, 1) := by decide +kernel
theorem dX10_text_17 : decode cX10_text 17 = .ok (.iload_n 1, 1) := by decide +kernel
theorem dX10_text_18 : decode cX10_text 18 = .ok (.putfield 124, 3) := by decide +kernel
theorem dX10_text_21 : decode cX10_text 21 = .ok (.aload_n 0, 1) := by decide +kernel
theorem dX10_text_22 : decode cX10_text 22 = .ok (.iconst 0, 1) := by decide +kernel
theorem dX10_text_23 : decode cX10_text 23 = .ok (.putfield 121, 3) := by decide +kernel
theorem dX10_text_26 : decode cX10_text 26 = .ok (.aload_n 0, 1) := by decide +kernel
theorem dX10_text_27 : decode cX10_text 27 = .ok (.iconst 0, 1) := by decide +kernel
theorem dX10_text_28 : decode cX10_text 28 = .ok (.putfield 117, 3) := by decide +kernel
theorem dX10_text_31 : decode cX10_text 31 = .ok (.aload_n 0, 1) := by decide +kernel
theorem dX10_text_32 : decode cX10_text 32 = .ok (.iconst 0, 1) := by decide +kernel
theorem dX10_text_33 : decode cX10_text 33 = .ok (.putfield 139, 3) := by decide +kernel
theorem dX10_text_36 : decode cX10_text 36 = .ok (.aload_n 0, 1) := by decide +kernel
theorem dX10_text_37 : decode cX10_text 37 = .ok (.iconst 0, 1) := by decide +kernel
theorem dX10_text_38 : decode cX10_text 38 = .ok (.putfield 131, 3) := by decide +kernel
theorem dX10_text_41 : decode cX10_text 41 = .ok (.aload_n 0, 1) := by decide +kernel
theorem dX10_text_42 : decode cX10_text 42 = .ok (.invokevirtual 145, 3) := by decide +kernel
theorem dX10_text_45 : decode cX10_text 45 = .ok (.aload_n 0, 1) := by decide +kernel
theorem dX10_text_46 : decode cX10_text 46 = .ok (.aload_n 0, 1) := by decide +kernel
theorem dX10_text_47 : decode cX10_text 47 = .ok (.getfield 131, 3) := by decide +kernel
theorem dX10_text_50 : decode cX10_text 50 = .ok (.ifCond .ne 16, 3) := by decide +kernel
theorem dX10_text_53 : decode cX10_text 53 = .ok (.aload_n 0, 1) := by decide +kernel
theorem dX10_text_54 : decode cX10_text 54 = .ok (.getfield 117, 3) := by decide +kernel
theorem dX10_text_57 : decode cX10_text 57 = .ok (.aload_n 0, 1) := by decide +kernel
theorem dX10_text_58 : decode cX10_text 58 = .ok (.getfield 9, 3) := by decide +kernel
theorem dX10_text_61 : decode cX10_text 61 = .ok (.iconst 4, 1) := by decide +kernel
theorem dX10_text_62 : decode cX10_text 62 = .ok (.iaload, 1) := by decide +kernel
theorem dX10_text_63 : decode cX10_text 63 = .ok (.if_icmp .ge 7, 3) := by decide +kernel
theorem dX10_text_66 : decode cX10_text 66 = .ok (.iconst 1, 1) := by decide +kernel
theorem dX10_text_67 : decode cX10_text 67 = .ok (.goto 4, 3) := by decide +kernel
theorem dX10_text_70 : decode cX10_text 70 = .ok (.iconst 0, 1) := by decide +kernel
theorem dX10_text_71 : decode cX10_text 71 = .ok (.putfield 131, 3) := by decide +kernel
theorem dX10_text_74 : decode cX10_text 74 = .ok (.aload_n 0, 1) := by decide +kernel
theorem dX10_text_75 : decode cX10_text 75 = .ok (.getfield 9, 3) := by decide +kernel
theorem dX10_text_78 : decode cX10_text 78 = .ok (.iconst 4, 1) := by decide +kernel
theorem dX10_text_79 : decode cX10_text 79 = .ok (.iconst 0, 1) := by decide +kernel
theorem dX10_text_80 : decode cX10_text 80 = .ok (.iastore, 1) := by decide +kernel
theorem dX10_text_81 : decode cX10_text 81 = .ok (.aload_n 0, 1) := by decide +kernel
theorem dX10_text_82 : decode cX10_text 82 = .ok (.getfield 131, 3) := by decide +kernel
theorem dX10_text_85 : decode cX10_text 85 = .ok (.ifCond .eq 11, 3) := by decide +kernel
theorem dX10_text_88 : decode cX10_text 88 = .ok (.bipush (-10), 2) := by decide +kernel
theorem dX10_text_90 : decode cX10_text 90 = .ok (.aload_n 0, 1) := by decide +kernel
theorem dX10_text_91 : decode cX10_text 91 = .ok (.getfield 117, 3) := by decide +kernel
theorem dX10_text_94 : decode cX10_text 94 = .ok (.isub, 1) := by decide +kernel
theorem dX10_text_95 : decode cX10_text 95 = .ok (.ireturn, 1) := by decide +kernel
theorem dX10_text_96 : decode cX10_text 96 = .ok (.sipush 174, 3) := by decide +kernel
theorem dX10_text_99 : decode cX10_text 99 = .ok (.bipush 121, 2) := by decide +kernel
theorem dX10_text_101 : decode cX10_text 101 = .ok (.iload_n 1, 1) := by decide +kernel
theorem dX10_text_102 : decode cX10_text 102 = .ok (.imul, 1) := by decide +kernel
theorem dX10_text_103 : decode cX10_text 103 = .ok (.iadd, 1) := by decide +kernel
theorem dX10_text_104 : decode cX10_text 104 = .ok (.istore_n 2, 1) := by decide +kernel
theorem dX10_text_105 : decode cX10_text 105 = .ok (.aload_n 0, 1) := by decide +kernel
theorem dX10_text_106 : decode cX10_text 106 = .ok (.getfield 9, 3) := by decide +kernel
theorem dX10_text_109 : decode cX10_text 109 = .ok (.iload_n 2, 1) := by decide +kernel
theorem dX10_text_110 : decode cX10_text 110 = .ok (.aload_n 0, 1) := by decide +kernel
theorem dX10_text_111 : decode cX10_text 111 = .ok (.getfield 121, 3) := by decide +kernel
theorem dX10_text_114 : decode cX10_text 114 = .ok (.iastore, 1) := by decide +kernel
theorem dX10_text_115 : decode cX10_text 115 = .ok (.iconst 0, 1) := by decide +kernel
theorem dX10_text_116 : decode cX10_text 116 = .ok (.istore_n 3, 1) := by decide +kernel
theorem dX10_text_117 : decode cX10_text 117 = .ok (.iload_n 3, 1) := by decide +kernel
theorem dX10_text_118 : decode cX10_text 118 = .ok (.aload_n 0, 1) := by decide +kernel
theorem dX10_text_119 : decode cX10_text 119 = .ok (.getfield 121, 3) := by decide +kernel
theorem dX10_text_122 : decode cX10_text 122 = .ok (.if_icmp .ge 42, 3) := by decide +kernel
theorem dX10_text_125 : decode cX10_text 125 = .ok (.aload_n 0, 1) := by decide +kernel
theorem dX10_text_126 : decode cX10_text 126 = .ok (.getfield 9, 3) := by decide +kernel
theorem dX10_text_129 : decode cX10_text 129 = .ok (.iload_n 2, 1) := by decide +kernel
theorem dX10_text_130 : decode cX10_text 130 = .ok (.iconst 1, 1) := by decide +kernel
theorem dX10_text_131 : decode cX10_text 131 = .ok (.iadd, 1) := by decide +kernel
theorem dX10_text_132 : decode cX10_text 132 = .ok (.iload_n 3, 1) := by decide +kernel
theorem dX10_text_133 : decode cX10_text 133 = .ok (.iadd, 1) := by decide +kernel
theorem dX10_text_134 : decode cX10_text 134 = .ok (.aload_n 0, 1) := by decide +kernel
theorem dX10_text_135 : decode cX10_text 135 = .ok (.getfield 31, 3) := by decide +kernel
theorem dX10_text_138 : decode cX10_text 138 = .ok (.iload_n 3, 1) := by decide +kernel
theorem dX10_text_139 : decode cX10_text 139 = .ok (.iaload, 1) := by decide +kernel
theorem dX10_text_140 : decode cX10_text 140 = .ok (.iastore, 1) := by decide +kernel
theorem dX10_text_141 : decode cX10_text 141 = .ok (.aload_n 0, 1) := by decide +kernel
theorem dX10_text_142 : decode cX10_text 142 = .ok (.getfield 9, 3) := by decide +kernel
theorem dX10_text_145 : decode cX10_text 145 = .ok (.iload_n 2, 1) := by decide +kernel
theorem dX10_text_146 : decode cX10_text 146 = .ok (.bipush 61, 2) := by decide +kernel
theorem dX10_text_148 : decode cX10_text 148 = .ok (.iadd, 1) := by decide +kernel
theorem dX10_text_149 : decode cX10_text 149 = .ok (.iload_n 3, 1) := by decide +kernel
theorem dX10_text_150 : decode cX10_text 150 = .ok (.iadd, 1) := by decide +kernel
theorem dX10_text_151 : decode cX10_text 151 = .ok (.aload_n 0, 1) := by decide +kernel
theorem dX10_text_152 : decode cX10_text 152 = .ok (.getfield 34, 3) := by decide +kernel
theorem dX10_text_155 : decode cX10_text 155 = .ok (.iload_n 3, 1) := by decide +kernel
theorem dX10_text_156 : decode cX10_text 156 = .ok (.iaload, 1) := by decide +kernel
theorem dX10_text_157 : decode cX10_text 157 = .ok (.iastore, 1) := by decide +kernel
theorem dX10_text_158 : decode cX10_text 158 = .ok (.iinc 3 1, 3) := by decide +kernel
theorem dX10_text_161 : decode cX10_text 161 = .ok (.goto (-44), 3) := by decide +kernel
theorem dX10_text_164 : decode cX10_text 164 = .ok (.iconst 1, 1) := by decide +kernel
theorem dX10_text_165 : decode cX10_text 165 = .ok (.ireturn, 1) := by decide +kernel
theorem dX10_untell_0 : decode cX10_untell 0 = .ok (.iload_n 1, 1) := by decide +kernel
theorem dX10_untell_1 : decode cX10_untell 1 = .ok (.iconst 0, 1) := by decide +kernel
theorem dX10_untell_2 : decode cX10_untell 2 = .ok (.iconst 1, 1) := by decide +kernel
theorem dX10_untell_3 : decode cX10_untell 3 = .ok (.invokestatic 54, 3) := by decide +kernel
theorem dX10_untell_6 : decode cX10_untell 6 = .ok (.ifCond .ne 10, 3) := by decide +kernel
theorem dX10_untell_9 : decode cX10_untell 9 = .ok (.aload_n 0, 1) := by decide +kernel
theorem dX10_untell_10 : decode cX10_untell 10 = .ok (.ldc 94, 2) := by decide +kernel
theorem dX10_untell_12 : decode cX10_untell 12 = .ok (.invokevirtual 95, 3) := by decide +kernel
theorem dX10_untell_15 : decode cX10_untell 15 = .ok (.ireturn, 1) := by decide +kernel
theorem dX10_untell_16 : decode cX10_untell 16 = .ok (.aload_n 0, 1) := by decide +kernel
theorem dX10_untell_17 : decode cX10_untell 17 = .ok (.sipush 174, 3) := by decide +kernel
theorem dX10_untell_20 : decode cX10_untell 20 = .ok (.bipush 121, 2) := by decide +kernel
theorem dX10_untell_22 : decode cX10_untell 22 = .ok (.iload_n 1, 1) := by decide +kernel
theorem dX10_untell_23 : decode cX10_untell 23 = .ok (.imul, 1) := by decide +kernel
theorem dX10_untell_24 : decode cX10_untell 24 = .ok (.iadd, 1) := by decide +kernel
theorem dX10_untell_25 : decode cX10_untell 25 = .ok (.iconst 0, 1) := by decide +kernel
theorem dX10_untell_26 : decode cX10_untell 26 = .ok (.invokevirtual 111, 3) := by decide +kernel
theorem dX10_untell_29 : decode cX10_untell 29 = .ok (.ifCond .le 7, 3) := by decide +kernel
theorem dX10_untell_32 : decode cX10_untell 32 = .ok (.iconst 1, 1) := by decide +kernel
theorem dX10_untell_33 : decode cX10_untell 33 = .ok (.goto 4, 3) := by decide +kernel
theorem dX10_untell_36 : decode cX10_untell 36 = .ok (.iconst 0, 1) := by decide +kernel
theorem dX10_untell_37 : decode cX10_untell 37 = .ok (.ireturn, 1) := by decide +kernel
theorem dX10_twoOf_0 : decode cX10_twoOf 0 = .ok (.iload_n 0, 1) := by decide +kernel
theorem dX10_twoOf_1 : decode cX10_twoOf 1 = .ok (.tableswitch 202 37 62 #[143, 188, 202, 202, 202, 127, 119, 202, 123, 202, 131, 202, 202, 202, 202, 202, 202, 202, 202, 202, 202, 202, 202, 155, 166, 177], 119) := by decide +kernel
theorem dX10_twoOf_120 : decode cX10_twoOf 120 = .ok (.iload_n 1, 1) := by decide +kernel
theorem dX10_twoOf_121 : decode cX10_twoOf 121 = .ok (.iload_n 2, 1) := by decide +kernel
theorem dX10_twoOf_122 : decode cX10_twoOf 122 = .ok (.iadd, 1) := by decide +kernel
theorem dX10_twoOf_123 : decode cX10_twoOf 123 = .ok (.ireturn, 1) := by decide +kernel
theorem dX10_twoOf_124 : decode cX10_twoOf 124 = .ok (.iload_n 1, 1) := by decide +kernel
theorem dX10_twoOf_125 : decode cX10_twoOf 125 = .ok (.iload_n 2, 1) := by decide +kernel
theorem dX10_twoOf_126 : decode cX10_twoOf 126 = .ok (.isub, 1) := by decide +kernel
theorem dX10_twoOf_127 : decode cX10_twoOf 127 = .ok (.ireturn, 1) := by decide +kernel
theorem dX10_twoOf_128 : decode cX10_twoOf 128 = .ok (.iload_n 1, 1) := by decide +kernel
theorem dX10_twoOf_129 : decode cX10_twoOf 129 = .ok (.iload_n 2, 1) := by decide +kernel
theorem dX10_twoOf_130 : decode cX10_twoOf 130 = .ok (.imul, 1) := by decide +kernel
theorem dX10_twoOf_131 : decode cX10_twoOf 131 = .ok (.ireturn, 1) := by decide +kernel
theorem dX10_twoOf_132 : decode cX10_twoOf 132 = .ok (.iload_n 2, 1) := by decide +kernel
theorem dX10_twoOf_133 : decode cX10_twoOf 133 = .ok (.ifCond .ne 7, 3) := by decide +kernel
theorem dX10_twoOf_136 : decode cX10_twoOf 136 = .ok (.iconst 0, 1) := by decide +kernel
theorem dX10_twoOf_137 : decode cX10_twoOf 137 = .ok (.goto 6, 3) := by decide +kernel
theorem dX10_twoOf_140 : decode cX10_twoOf 140 = .ok (.iload_n 1, 1) := by decide +kernel
theorem dX10_twoOf_141 : decode cX10_twoOf 141 = .ok (.iload_n 2, 1) := by decide +kernel
theorem dX10_twoOf_142 : decode cX10_twoOf 142 = .ok (.idiv, 1) := by decide +kernel
theorem dX10_twoOf_143 : decode cX10_twoOf 143 = .ok (.ireturn, 1) := by decide +kernel
theorem dX10_twoOf_144 : decode cX10_twoOf 144 = .ok (.iload_n 2, 1) := by decide +kernel
theorem dX10_twoOf_145 : decode cX10_twoOf 145 = .ok (.ifCond .ne 7, 3) := by decide +kernel
theorem dX10_twoOf_148 : decode cX10_twoOf 148 = .ok (.iconst 0, 1) := by decide +kernel
theorem dX10_twoOf_149 : decode cX10_twoOf 149 = .ok (.goto 6, 3) := by decide +kernel
theorem dX10_twoOf_152 : decode cX10_twoOf 152 = .ok (.iload_n 1, 1) := by decide +kernel
theorem dX10_twoOf_153 : decode cX10_twoOf 153 = .ok (.iload_n 2, 1) := by decide +kernel
theorem dX10_twoOf_154 : decode cX10_twoOf 154 = .ok (.irem, 1) := by decide +kernel
theorem dX10_twoOf_155 : decode cX10_twoOf 155 = .ok (.ireturn, 1) := by decide +kernel
theorem dX10_twoOf_156 : decode cX10_twoOf 156 = .ok (.iload_n 1, 1) := by decide +kernel
theorem dX10_twoOf_157 : decode cX10_twoOf 157 = .ok (.iload_n 2, 1) := by decide +kernel
theorem dX10_twoOf_158 : decode cX10_twoOf 158 = .ok (.if_icmp .ge 7, 3) := by decide +kernel
theorem dX10_twoOf_161 : decode cX10_twoOf 161 = .ok (.iconst 1, 1) := by decide +kernel
theorem dX10_twoOf_162 : decode cX10_twoOf 162 = .ok (.goto 4, 3) := by decide +kernel
theorem dX10_twoOf_165 : decode cX10_twoOf 165 = .ok (.iconst 0, 1) := by decide +kernel
theorem dX10_twoOf_166 : decode cX10_twoOf 166 = .ok (.ireturn, 1) := by decide +kernel
theorem dX10_twoOf_167 : decode cX10_twoOf 167 = .ok (.iload_n 1, 1) := by decide +kernel
theorem dX10_twoOf_168 : decode cX10_twoOf 168 = .ok (.iload_n 2, 1) := by decide +kernel
theorem dX10_twoOf_169 : decode cX10_twoOf 169 = .ok (.if_icmp .ne 7, 3) := by decide +kernel
theorem dX10_twoOf_172 : decode cX10_twoOf 172 = .ok (.iconst 1, 1) := by decide +kernel
theorem dX10_twoOf_173 : decode cX10_twoOf 173 = .ok (.goto 4, 3) := by decide +kernel
theorem dX10_twoOf_176 : decode cX10_twoOf 176 = .ok (.iconst 0, 1) := by decide +kernel
theorem dX10_twoOf_177 : decode cX10_twoOf 177 = .ok (.ireturn, 1) := by decide +kernel
theorem dX10_twoOf_178 : decode cX10_twoOf 178 = .ok (.iload_n 1, 1) := by decide +kernel
theorem dX10_twoOf_179 : decode cX10_twoOf 179 = .ok (.iload_n 2, 1) := by decide +kernel
theorem dX10_twoOf_180 : decode cX10_twoOf 180 = .ok (.if_icmp .le 7, 3) := by decide +kernel
theorem dX10_twoOf_183 : decode cX10_twoOf 183 = .ok (.iconst 1, 1) := by decide +kernel
theorem dX10_twoOf_184 : decode cX10_twoOf 184 = .ok (.goto 4, 3) := by decide +kernel
theorem dX10_twoOf_187 : decode cX10_twoOf 187 = .ok (.iconst 0, 1) := by decide +kernel
theorem dX10_twoOf_188 : decode cX10_twoOf 188 = .ok (.ireturn, 1) := by decide +kernel
theorem dX10_twoOf_189 : decode cX10_twoOf 189 = .ok (.iload_n 1, 1) := by decide +kernel
theorem dX10_twoOf_190 : decode cX10_twoOf 190 = .ok (.ifCond .eq 11, 3) := by decide +kernel
theorem dX10_twoOf_193 : decode cX10_twoOf 193 = .ok (.iload_n 2, 1) := by decide +kernel
theorem dX10_twoOf_194 : decode cX10_twoOf 194 = .ok (.ifCond .eq 7, 3) := by decide +kernel
theorem dX10_twoOf_197 : decode cX10_twoOf 197 = .ok (.iconst 1, 1) := by decide +kernel
theorem dX10_twoOf_198 : decode cX10_twoOf 198 = .ok (.goto 4, 3) := by decide +kernel
theorem dX10_twoOf_201 : decode cX10_twoOf 201 = .ok (.iconst 0, 1) := by decide +kernel
theorem dX10_twoOf_202 : decode cX10_twoOf 202 = .ok (.ireturn, 1) := by decide +kernel
theorem dX10_twoOf_203 : decode cX10_twoOf 203 = .ok (.iload_n 1, 1) := by decide +kernel
theorem dX10_twoOf_204 : decode cX10_twoOf 204 = .ok (.ifCond .ne 7, 3) := by decide +kernel
theorem dX10_twoOf_207 : decode cX10_twoOf 207 = .ok (.iload_n 2, 1) := by decide +kernel
theorem dX10_twoOf_208 : decode cX10_twoOf 208 = .ok (.ifCond .eq 7, 3) := by decide +kernel
theorem dX10_twoOf_211 : decode cX10_twoOf 211 = .ok (.iconst 1, 1) := by decide +kernel
theorem dX10_twoOf_212 : decode cX10_twoOf 212 = .ok (.goto 4, 3) := by decide +kernel
theorem dX10_twoOf_215 : decode cX10_twoOf 215 = .ok (.iconst 0, 1) := by decide +kernel
theorem dX10_twoOf_216 : decode cX10_twoOf 216 = .ok (.ireturn, 1) := by decide +kernel
theorem dX10_works_0 : decode cX10_works 0 = .ok (.iconst 0, 1) := by decide +kernel
theorem dX10_works_1 : decode cX10_works 1 = .ok (.istore_n 2, 1) := by decide +kernel
theorem dX10_works_2 : decode cX10_works 2 = .ok (.iconst 0, 1) := by decide +kernel
theorem dX10_works_3 : decode cX10_works 3 = .ok (.istore_n 3, 1) := by decide +kernel
theorem dX10_works_4 : decode cX10_works 4 = .ok (.iload_n 3, 1) := by decide +kernel
theorem dX10_works_5 : decode cX10_works 5 = .ok (.aload_n 0, 1) := by decide +kernel
theorem dX10_works_6 : decode cX10_works 6 = .ok (.getfield 9, 3) := by decide +kernel
theorem dX10_works_9 : decode cX10_works 9 = .ok (.iload_n 1, 1) := by decide +kernel
theorem dX10_works_10 : decode cX10_works 10 = .ok (.iaload, 1) := by decide +kernel
theorem dX10_works_11 : decode cX10_works 11 = .ok (.if_icmp .ge 144, 3) := by decide +kernel
theorem dX10_works_14 : decode cX10_works 14 = .ok (.aload_n 0, 1) := by decide +kernel
theorem dX10_works_15 : decode cX10_works 15 = .ok (.getfield 9, 3) := by decide +kernel
theorem dX10_works_18 : decode cX10_works 18 = .ok (.iload_n 1, 1) := by decide +kernel
theorem dX10_works_19 : decode cX10_works 19 = .ok (.iconst 1, 1) := by decide +kernel
theorem dX10_works_20 : decode cX10_works 20 = .ok (.iadd, 1) := by decide +kernel
theorem dX10_works_21 : decode cX10_works 21 = .ok (.iload_n 3, 1) := by decide +kernel
theorem dX10_works_22 : decode cX10_works 22 = .ok (.iadd, 1) := by decide +kernel
theorem dX10_works_23 : decode cX10_works 23 = .ok (.iaload, 1) := by decide +kernel
theorem dX10_works_24 : decode cX10_works 24 = .ok (.istore 4, 2) := by decide +kernel
theorem dX10_works_26 : decode cX10_works 26 = .ok (.iload 4, 2) := by decide +kernel
theorem dX10_works_28 : decode cX10_works 28 = .ok (.iconst 1, 1) := by decide +kernel
theorem dX10_works_29 : decode cX10_works 29 = .ok (.if_icmp .eq 9, 3) := by decide +kernel
theorem dX10_works_32 : decode cX10_works 32 = .ok (.iload 4, 2) := by decide +kernel
theorem dX10_works_34 : decode cX10_works 34 = .ok (.iconst 2, 1) := by decide +kernel
theorem dX10_works_35 : decode cX10_works 35 = .ok (.if_icmp .ne 51, 3) := by decide +kernel
theorem dX10_works_38 : decode cX10_works 38 = .ok (.aload_n 0, 1) := by decide +kernel
theorem dX10_works_39 : decode cX10_works 39 = .ok (.getfield 40, 3) := by decide +kernel
theorem dX10_works_42 : decode cX10_works 42 = .ok (.iload_n 2, 1) := by decide +kernel
theorem dX10_works_43 : decode cX10_works 43 = .ok (.iload 4, 2) := by decide +kernel
theorem dX10_works_45 : decode cX10_works 45 = .ok (.iconst 1, 1) := by decide +kernel
theorem dX10_works_46 : decode cX10_works 46 = .ok (.if_icmp .ne 17, 3) := by decide +kernel
theorem dX10_works_49 : decode cX10_works 49 = .ok (.aload_n 0, 1) := by decide +kernel
theorem dX10_works_50 : decode cX10_works 50 = .ok (.getfield 9, 3) := by decide +kernel
theorem dX10_works_53 : decode cX10_works 53 = .ok (.iload_n 1, 1) := by decide +kernel
theorem dX10_works_54 : decode cX10_works 54 = .ok (.bipush 61, 2) := by decide +kernel
theorem dX10_works_56 : decode cX10_works 56 = .ok (.iadd, 1) := by decide +kernel
theorem dX10_works_57 : decode cX10_works 57 = .ok (.iload_n 3, 1) := by decide +kernel
theorem dX10_works_58 : decode cX10_works 58 = .ok (.iadd, 1) := by decide +kernel
theorem dX10_works_59 : decode cX10_works 59 = .ok (.iaload, 1) := by decide +kernel
theorem dX10_works_60 : decode cX10_works 60 = .ok (.goto 19, 3) := by decide +kernel
theorem dX10_works_63 : decode cX10_works 63 = .ok (.aload_n 0, 1) := by decide +kernel
theorem dX10_works_64 : decode cX10_works 64 = .ok (.getfield 37, 3) := by decide +kernel
theorem dX10_works_67 : decode cX10_works 67 = .ok (.aload_n 0, 1) := by decide +kernel
theorem dX10_works_68 : decode cX10_works 68 = .ok (.getfield 9, 3) := by decide +kernel
theorem dX10_works_71 : decode cX10_works 71 = .ok (.iload_n 1, 1) := by decide +kernel
theorem dX10_works_72 : decode cX10_works 72 = .ok (.bipush 61, 2) := by decide +kernel
theorem dX10_works_74 : decode cX10_works 74 = .ok (.iadd, 1) := by decide +kernel
theorem dX10_works_75 : decode cX10_works 75 = .ok (.iload_n 3, 1) := by decide +kernel
theorem dX10_works_76 : decode cX10_works 76 = .ok (.iadd, 1) := by decide +kernel
theorem dX10_works_77 : decode cX10_works 77 = .ok (.iaload, 1) := by decide +kernel
theorem dX10_works_78 : decode cX10_works 78 = .ok (.iaload, 1) := by decide +kernel
theorem dX10_works_79 : decode cX10_works 79 = .ok (.iastore, 1) := by decide +kernel
theorem dX10_works_80 : decode cX10_works 80 = .ok (.iinc 2 1, 3) := by decide +kernel
theorem dX10_works_83 : decode cX10_works 83 = .ok (.goto 66, 3) := by decide +kernel
theorem dX10_works_86 : decode cX10_works 86 = .ok (.iload 4, 2) := by decide +kernel
theorem dX10_works_88 : decode cX10_works 88 = .ok (.iconst 3, 1) := by decide +kernel
theorem dX10_works_89 : decode cX10_works 89 = .ok (.if_icmp .ne 30, 3) := by decide +kernel
theorem dX10_works_92 : decode cX10_works 92 = .ok (.aload_n 0, 1) := by decide +kernel
theorem dX10_works_93 : decode cX10_works 93 = .ok (.getfield 40, 3) := by decide +kernel
theorem dX10_works_96 : decode cX10_works 96 = .ok (.iload_n 2, 1) := by decide +kernel
theorem dX10_works_97 : decode cX10_works 97 = .ok (.iconst 1, 1) := by decide +kernel
theorem dX10_works_98 : decode cX10_works 98 = .ok (.isub, 1) := by decide +kernel
theorem dX10_works_99 : decode cX10_works 99 = .ok (.aload_n 0, 1) := by decide +kernel
theorem dX10_works_100 : decode cX10_works 100 = .ok (.getfield 40, 3) := by decide +kernel
theorem dX10_works_103 : decode cX10_works 103 = .ok (.iload_n 2, 1) := by decide +kernel
theorem dX10_works_104 : decode cX10_works 104 = .ok (.iconst 1, 1) := by decide +kernel
theorem dX10_works_105 : decode cX10_works 105 = .ok (.isub, 1) := by decide +kernel
theorem dX10_works_106 : decode cX10_works 106 = .ok (.iaload, 1) := by decide +kernel
theorem dX10_works_107 : decode cX10_works 107 = .ok (.ifCond .ne 7, 3) := by decide +kernel
theorem dX10_works_110 : decode cX10_works 110 = .ok (.iconst 1, 1) := by decide +kernel
theorem dX10_works_111 : decode cX10_works 111 = .ok (.goto 4, 3) := by decide +kernel
theorem dX10_works_114 : decode cX10_works 114 = .ok (.iconst 0, 1) := by decide +kernel
theorem dX10_works_115 : decode cX10_works 115 = .ok (.iastore, 1) := by decide +kernel
theorem dX10_works_116 : decode cX10_works 116 = .ok (.goto 33, 3) := by decide +kernel
theorem dX10_works_119 : decode cX10_works 119 = .ok (.iinc 2 (-1), 3) := by decide +kernel
theorem dX10_works_122 : decode cX10_works 122 = .ok (.aload_n 0, 1) := by decide +kernel
theorem dX10_works_123 : decode cX10_works 123 = .ok (.getfield 40, 3) := by decide +kernel
theorem dX10_works_126 : decode cX10_works 126 = .ok (.iload_n 2, 1) := by decide +kernel
theorem dX10_works_127 : decode cX10_works 127 = .ok (.iconst 1, 1) := by decide +kernel
theorem dX10_works_128 : decode cX10_works 128 = .ok (.isub, 1) := by decide +kernel
theorem dX10_works_129 : decode cX10_works 129 = .ok (.iload 4, 2) := by decide +kernel
theorem dX10_works_131 : decode cX10_works 131 = .ok (.aload_n 0, 1) := by decide +kernel
theorem dX10_works_132 : decode cX10_works 132 = .ok (.getfield 40, 3) := by decide +kernel
theorem dX10_works_135 : decode cX10_works 135 = .ok (.iload_n 2, 1) := by decide +kernel
theorem dX10_works_136 : decode cX10_works 136 = .ok (.iconst 1, 1) := by decide +kernel
theorem dX10_works_137 : decode cX10_works 137 = .ok (.isub, 1) := by decide +kernel
theorem dX10_works_138 : decode cX10_works 138 = .ok (.iaload, 1) := by decide +kernel
theorem dX10_works_139 : decode cX10_works 139 = .ok (.aload_n 0, 1) := by decide +kernel
theorem dX10_works_140 : decode cX10_works 140 = .ok (.getfield 40, 3) := by decide +kernel
theorem dX10_works_143 : decode cX10_works 143 = .ok (.iload_n 2, 1) := by decide +kernel
theorem dX10_works_144 : decode cX10_works 144 = .ok (.iaload, 1) := by decide +kernel
theorem dX10_works_145 : decode cX10_works 145 = .ok (.invokestatic 170, 3) := by decide +kernel
theorem dX10_works_148 : decode cX10_works 148 = .ok (.iastore, 1) := by decide +kernel
theorem dX10_works_149 : decode cX10_works 149 = .ok (.iinc 3 1, 3) := by decide +kernel
theorem dX10_works_152 : decode cX10_works 152 = .ok (.goto (-148), 3) := by decide +kernel
theorem dX10_works_155 : decode cX10_works 155 = .ok (.aload_n 0, 1) := by decide +kernel
theorem dX10_works_156 : decode cX10_works 156 = .ok (.getfield 40, 3) := by decide +kernel
theorem dX10_works_159 : decode cX10_works 159 = .ok (.iconst 0, 1) := by decide +kernel
theorem dX10_works_160 : decode cX10_works 160 = .ok (.iaload, 1) := by decide +kernel
theorem dX10_works_161 : decode cX10_works 161 = .ok (.ireturn, 1) := by decide +kernel
theorem dX10_gives_0 : decode cX10_gives 0 = .ok (.sipush 174, 3) := by decide +kernel
theorem dX10_gives_3 : decode cX10_gives 3 = .ok (.bipush 121, 2) := by decide +kernel
theorem dX10_gives_5 : decode cX10_gives 5 = .ok (.iload_n 1, 1) := by decide +kernel
theorem dX10_gives_6 : decode cX10_gives 6 = .ok (.imul, 1) := by decide +kernel
theorem dX10_gives_7 : decode cX10_gives 7 = .ok (.iadd, 1) := by decide +kernel
theorem dX10_gives_8 : decode cX10_gives 8 = .ok (.istore 5, 2) := by decide +kernel
theorem dX10_gives_10 : decode cX10_gives 10 = .ok (.aload_n 0, 1) := by decide +kernel
theorem dX10_gives_11 : decode cX10_gives 11 = .ok (.getfield 37, 3) := by decide +kernel
theorem dX10_gives_14 : decode cX10_gives 14 = .ok (.iconst 0, 1) := by decide +kernel
theorem dX10_gives_15 : decode cX10_gives 15 = .ok (.iload_n 2, 1) := by decide +kernel
theorem dX10_gives_16 : decode cX10_gives 16 = .ok (.iastore, 1) := by decide +kernel
theorem dX10_gives_17 : decode cX10_gives 17 = .ok (.aload_n 0, 1) := by decide +kernel
theorem dX10_gives_18 : decode cX10_gives 18 = .ok (.getfield 37, 3) := by decide +kernel
theorem dX10_gives_21 : decode cX10_gives 21 = .ok (.iconst 1, 1) := by decide +kernel
theorem dX10_gives_22 : decode cX10_gives 22 = .ok (.iload_n 3, 1) := by decide +kernel
theorem dX10_gives_23 : decode cX10_gives 23 = .ok (.iastore, 1) := by decide +kernel
theorem dX10_gives_24 : decode cX10_gives 24 = .ok (.aload_n 0, 1) := by decide +kernel
theorem dX10_gives_25 : decode cX10_gives 25 = .ok (.getfield 37, 3) := by decide +kernel
theorem dX10_gives_28 : decode cX10_gives 28 = .ok (.iconst 2, 1) := by decide +kernel
theorem dX10_gives_29 : decode cX10_gives 29 = .ok (.iload 4, 2) := by decide +kernel
theorem dX10_gives_31 : decode cX10_gives 31 = .ok (.iastore, 1) := by decide +kernel
theorem dX10_gives_32 : decode cX10_gives 32 = .ok (.aload_n 0, 1) := by decide +kernel
theorem dX10_gives_33 : decode cX10_gives 33 = .ok (.getfield 9, 3) := by decide +kernel
theorem dX10_gives_36 : decode cX10_gives 36 = .ok (.iload 5, 2) := by decide +kernel
theorem dX10_gives_38 : decode cX10_gives 38 = .ok (.iaload, 1) := by decide +kernel
theorem dX10_gives_39 : decode cX10_gives 39 = .ok (.ifCond .le 12, 3) := by decide +kernel
theorem dX10_gives_42 : decode cX10_gives 42 = .ok (.aload_n 0, 1) := by decide +kernel
theorem dX10_gives_43 : decode cX10_gives 43 = .ok (.iload 5, 2) := by decide +kernel
theorem dX10_gives_45 : decode cX10_gives 45 = .ok (.invokevirtual 174, 3) := by decide +kernel
theorem dX10_gives_48 : decode cX10_gives 48 = .ok (.goto 16, 3) := by decide +kernel
theorem dX10_gives_51 : decode cX10_gives 51 = .ok (.iload_n 1, 1) := by decide +kernel
theorem dX10_gives_52 : decode cX10_gives 52 = .ok (.ifCond .ne 9, 3) := by decide +kernel
theorem dX10_gives_55 : decode cX10_gives 55 = .ok (.iload_n 2, 1) := by decide +kernel
theorem dX10_gives_56 : decode cX10_gives 56 = .ok (.iload_n 3, 1) := by decide +kernel
theorem dX10_gives_57 : decode cX10_gives 57 = .ok (.iadd, 1) := by decide +kernel
theorem dX10_gives_58 : decode cX10_gives 58 = .ok (.goto 6, 3) := by decide +kernel
theorem dX10_gives_61 : decode cX10_gives 61 = .ok (.iload_n 2, 1) := by decide +kernel
theorem dX10_gives_62 : decode cX10_gives 62 = .ok (.iload_n 3, 1) := by decide +kernel
theorem dX10_gives_63 : decode cX10_gives 63 = .ok (.imul, 1) := by decide +kernel
theorem dX10_gives_64 : decode cX10_gives 64 = .ok (.istore 6, 2) := by decide +kernel
theorem dX10_gives_66 : decode cX10_gives 66 = .ok (.iload_n 1, 1) := by decide +kernel
theorem dX10_gives_67 : decode cX10_gives 67 = .ok (.ifCond .ne 14, 3) := by decide +kernel
theorem dX10_gives_70 : decode cX10_gives 70 = .ok (.iload 6, 2) := by decide +kernel
theorem dX10_gives_72 : decode cX10_gives 72 = .ok (.iconst 1, 1) := by decide +kernel
theorem dX10_gives_73 : decode cX10_gives 73 = .ok (.bipush 99, 2) := by decide +kernel
theorem dX10_gives_75 : decode cX10_gives 75 = .ok (.invokestatic 177, 3) := by decide +kernel
theorem dX10_gives_78 : decode cX10_gives 78 = .ok (.goto 12, 3) := by decide +kernel
theorem dX10_gives_81 : decode cX10_gives 81 = .ok (.iload 6, 2) := by decide +kernel
theorem dX10_gives_83 : decode cX10_gives 83 = .ok (.bipush (-99), 2) := by decide +kernel
theorem dX10_gives_85 : decode cX10_gives 85 = .ok (.bipush 99, 2) := by decide +kernel
theorem dX10_gives_87 : decode cX10_gives 87 = .ok (.invokestatic 177, 3) := by decide +kernel
theorem dX10_gives_90 : decode cX10_gives 90 = .ok (.ireturn, 1) := by decide +kernel
theorem dX10_law_0 : decode cX10_law 0 = .ok (.iload_n 1, 1) := by decide +kernel
theorem dX10_law_1 : decode cX10_law 1 = .ok (.iconst 0, 1) := by decide +kernel
theorem dX10_law_2 : decode cX10_law 2 = .ok (.iconst 1, 1) := by decide +kernel
theorem dX10_law_3 : decode cX10_law 3 = .ok (.invokestatic 54, 3) := by decide +kernel
theorem dX10_law_6 : decode cX10_law 6 = .ok (.ifCond .eq 15, 3) := by decide +kernel
theorem dX10_law_9 : decode cX10_law 9 = .ok (.aload_n 0, 1) := by decide +kernel
theorem dX10_law_10 : decode cX10_law 10 = .ok (.iload_n 1, 1) := by decide +kernel
theorem dX10_law_11 : decode cX10_law 11 = .ok (.iload_n 2, 1) := by decide +kernel
theorem dX10_law_12 : decode cX10_law 12 = .ok (.iload_n 3, 1) := by decide +kernel
theorem dX10_law_13 : decode cX10_law 13 = .ok (.iload 4, 2) := by decide +kernel
theorem dX10_law_15 : decode cX10_law 15 = .ok (.invokevirtual 80, 3) := by decide +kernel
theorem dX10_law_18 : decode cX10_law 18 = .ok (.goto 9, 3) := by decide +kernel
theorem dX10_law_21 : decode cX10_law 21 = .ok (.aload_n 0, 1) := by decide +kernel
theorem dX10_law_22 : decode cX10_law 22 = .ok (.ldc 94, 2) := by decide +kernel
theorem dX10_law_24 : decode cX10_law 24 = .ok (.invokevirtual 95, 3) := by decide +kernel
theorem dX10_law_27 : decode cX10_law 27 = .ok (.ireturn, 1) := by decide +kernel
theorem dX10_goes_0 : decode cX10_goes 0 = .ok (.iconst 0, 1) := by decide +kernel
theorem dX10_goes_1 : decode cX10_goes 1 = .ok (.istore_n 1, 1) := by decide +kernel
theorem dX10_goes_2 : decode cX10_goes 2 = .ok (.iconst 0, 1) := by decide +kernel
theorem dX10_goes_3 : decode cX10_goes 3 = .ok (.istore_n 2, 1) := by decide +kernel
theorem dX10_goes_4 : decode cX10_goes 4 = .ok (.iload_n 2, 1) := by decide +kernel
theorem dX10_goes_5 : decode cX10_goes 5 = .ok (.aload_n 0, 1) := by decide +kernel
theorem dX10_goes_6 : decode cX10_goes 6 = .ok (.getfield 9, 3) := by decide +kernel
theorem dX10_goes_9 : decode cX10_goes 9 = .ok (.iconst 2, 1) := by decide +kernel
theorem dX10_goes_10 : decode cX10_goes 10 = .ok (.iaload, 1) := by decide +kernel
theorem dX10_goes_11 : decode cX10_goes 11 = .ok (.if_icmp .ge 27, 3) := by decide +kernel
theorem dX10_goes_14 : decode cX10_goes 14 = .ok (.iload_n 1, 1) := by decide +kernel
theorem dX10_goes_15 : decode cX10_goes 15 = .ok (.aload_n 0, 1) := by decide +kernel
theorem dX10_goes_16 : decode cX10_goes 16 = .ok (.iload_n 2, 1) := by decide +kernel
theorem dX10_goes_17 : decode cX10_goes 17 = .ok (.invokevirtual 108, 3) := by decide +kernel
theorem dX10_goes_20 : decode cX10_goes 20 = .ok (.ifCond .eq 9, 3) := by decide +kernel
theorem dX10_goes_23 : decode cX10_goes 23 = .ok (.iconst 1, 1) := by decide +kernel
theorem dX10_goes_24 : decode cX10_goes 24 = .ok (.iload_n 2, 1) := by decide +kernel
theorem dX10_goes_25 : decode cX10_goes 25 = .ok (.ishl, 1) := by decide +kernel
theorem dX10_goes_26 : decode cX10_goes 26 = .ok (.goto 4, 3) := by decide +kernel
theorem dX10_goes_29 : decode cX10_goes 29 = .ok (.iconst 0, 1) := by decide +kernel
theorem dX10_goes_30 : decode cX10_goes 30 = .ok (.ior, 1) := by decide +kernel
theorem dX10_goes_31 : decode cX10_goes 31 = .ok (.istore_n 1, 1) := by decide +kernel
theorem dX10_goes_32 : decode cX10_goes 32 = .ok (.iinc 2 1, 3) := by decide +kernel
theorem dX10_goes_35 : decode cX10_goes 35 = .ok (.goto (-31), 3) := by decide +kernel
theorem dX10_goes_38 : decode cX10_goes 38 = .ok (.iconst 0, 1) := by decide +kernel
theorem dX10_goes_39 : decode cX10_goes 39 = .ok (.istore_n 2, 1) := by decide +kernel
theorem dX10_goes_40 : decode cX10_goes 40 = .ok (.iload_n 2, 1) := by decide +kernel
theorem dX10_goes_41 : decode cX10_goes 41 = .ok (.aload_n 0, 1) := by decide +kernel
theorem dX10_goes_42 : decode cX10_goes 42 = .ok (.getfield 9, 3) := by decide +kernel
theorem dX10_goes_45 : decode cX10_goes 45 = .ok (.iconst 2, 1) := by decide +kernel
theorem dX10_goes_46 : decode cX10_goes 46 = .ok (.iaload, 1) := by decide +kernel
theorem dX10_goes_47 : decode cX10_goes 47 = .ok (.if_icmp .ge 72, 3) := by decide +kernel
theorem dX10_goes_50 : decode cX10_goes 50 = .ok (.aload_n 0, 1) := by decide +kernel
theorem dX10_goes_51 : decode cX10_goes 51 = .ok (.iload_n 2, 1) := by decide +kernel
theorem dX10_goes_52 : decode cX10_goes 52 = .ok (.invokevirtual 62, 3) := by decide +kernel
theorem dX10_goes_55 : decode cX10_goes 55 = .ok (.ifCond .eq 58, 3) := by decide +kernel
theorem dX10_goes_58 : decode cX10_goes 58 = .ok (.iload_n 1, 1) := by decide +kernel
theorem dX10_goes_59 : decode cX10_goes 59 = .ok (.iload_n 2, 1) := by decide +kernel
theorem dX10_goes_60 : decode cX10_goes 60 = .ok (.ishr, 1) := by decide +kernel
theorem dX10_goes_61 : decode cX10_goes 61 = .ok (.iconst 1, 1) := by decide +kernel
theorem dX10_goes_62 : decode cX10_goes 62 = .ok (.iand, 1) := by decide +kernel
theorem dX10_goes_63 : decode cX10_goes 63 = .ok (.ifCond .ne 50, 3) := by decide +kernel
theorem dX10_goes_66 : decode cX10_goes 66 = .ok (.aload_n 0, 1) := by decide +kernel
theorem dX10_goes_67 : decode cX10_goes 67 = .ok (.iload_n 2, 1) := by decide +kernel
theorem dX10_goes_68 : decode cX10_goes 68 = .ok (.iconst 5, 1) := by decide +kernel
theorem dX10_goes_69 : decode cX10_goes 69 = .ok (.aload_n 0, 1) := by decide +kernel
theorem dX10_goes_70 : decode cX10_goes 70 = .ok (.iload_n 2, 1) := by decide +kernel
theorem dX10_goes_71 : decode cX10_goes 71 = .ok (.iconst 5, 1) := by decide +kernel
theorem dX10_goes_72 : decode cX10_goes 72 = .ok (.invokevirtual 58, 3) := by decide +kernel
theorem dX10_goes_75 : decode cX10_goes 75 = .ok (.iconst 1, 1) := by decide +kernel
theorem dX10_goes_76 : decode cX10_goes 76 = .ok (.iadd, 1) := by decide +kernel
theorem dX10_goes_77 : decode cX10_goes 77 = .ok (.iconst 0, 1) := by decide +kernel
theorem dX10_goes_78 : decode cX10_goes 78 = .ok (.bipush 99, 2) := by decide +kernel
theorem dX10_goes_80 : decode cX10_goes 80 = .ok (.invokestatic 177, 3) := by decide +kernel
theorem dX10_goes_83 : decode cX10_goes 83 = .ok (.invokevirtual 84, 3) := by decide +kernel
theorem dX10_goes_86 : decode cX10_goes 86 = .ok (.aload_n 0, 1) := by decide +kernel
theorem dX10_goes_87 : decode cX10_goes 87 = .ok (.iload_n 2, 1) := by decide +kernel
theorem dX10_goes_88 : decode cX10_goes 88 = .ok (.bipush 6, 2) := by decide +kernel
theorem dX10_goes_90 : decode cX10_goes 90 = .ok (.aload_n 0, 1) := by decide +kernel
theorem dX10_goes_91 : decode cX10_goes 91 = .ok (.iload_n 2, 1) := by decide +kernel
theorem dX10_goes_92 : decode cX10_goes 92 = .ok (.iconst 5, 1) := by decide +kernel
theorem dX10_goes_93 : decode cX10_goes 93 = .ok (.invokevirtual 58, 3) := by decide +kernel
theorem dX10_goes_96 : decode cX10_goes 96 = .ok (.aload_n 0, 1) := by decide +kernel
theorem dX10_goes_97 : decode cX10_goes 97 = .ok (.getfield 9, 3) := by decide +kernel
theorem dX10_goes_100 : decode cX10_goes 100 = .ok (.iconst 3, 1) := by decide +kernel
theorem dX10_goes_101 : decode cX10_goes 101 = .ok (.iaload, 1) := by decide +kernel
theorem dX10_goes_102 : decode cX10_goes 102 = .ok (.if_icmp .lt 7, 3) := by decide +kernel
theorem dX10_goes_105 : decode cX10_goes 105 = .ok (.iconst 1, 1) := by decide +kernel
theorem dX10_goes_106 : decode cX10_goes 106 = .ok (.goto 4, 3) := by decide +kernel
theorem dX10_goes_109 : decode cX10_goes 109 = .ok (.iconst 0, 1) := by decide +kernel
theorem dX10_goes_110 : decode cX10_goes 110 = .ok (.invokevirtual 84, 3) := by decide +kernel
theorem dX10_goes_113 : decode cX10_goes 113 = .ok (.iinc 2 1, 3) := by decide +kernel
theorem dX10_goes_116 : decode cX10_goes 116 = .ok (.goto (-76), 3) := by decide +kernel
theorem dX10_goes_119 : decode cX10_goes 119 = .ok (.aload_n 0, 1) := by decide +kernel
theorem dX10_goes_120 : decode cX10_goes 120 = .ok (.getfield 9, 3) := by decide +kernel
theorem dX10_goes_123 : decode cX10_goes 123 = .ok (.iconst 0, 1) := by decide +kernel
theorem dX10_goes_124 : decode cX10_goes 124 = .ok (.dup2, 1) := by decide +kernel
theorem dX10_goes_125 : decode cX10_goes 125 = .ok (.iaload, 1) := by decide +kernel
theorem dX10_goes_126 : decode cX10_goes 126 = .ok (.iconst 1, 1) := by decide +kernel
theorem dX10_goes_127 : decode cX10_goes 127 = .ok (.iadd, 1) := by decide +kernel
theorem dX10_goes_128 : decode cX10_goes 128 = .ok (.iastore, 1) := by decide +kernel
theorem dX10_goes_129 : decode cX10_goes 129 = .ok (.return_, 1) := by decide +kernel
theorem dX10_years_0 : decode cX10_years 0 = .ok (.iload_n 1, 1) := by decide +kernel
theorem dX10_years_1 : decode cX10_years 1 = .ok (.iconst 1, 1) := by decide +kernel
theorem dX10_years_2 : decode cX10_years 2 = .ok (.bipush 60, 2) := by decide +kernel
theorem dX10_years_4 : decode cX10_years 4 = .ok (.invokestatic 54, 3) := by decide +kernel
theorem dX10_years_7 : decode cX10_years 7 = .ok (.ifCond .ne 10, 3) := by decide +kernel
theorem dX10_years_10 : decode cX10_years 10 = .ok (.aload_n 0, 1) := by decide +kernel
theorem dX10_years_11 : decode cX10_years 11 = .ok (.ldc 94, 2) := by decide +kernel
theorem dX10_years_13 : decode cX10_years 13 = .ok (.invokevirtual 95, 3) := by decide +kernel
theorem dX10_years_16 : decode cX10_years 16 = .ok (.ireturn, 1) := by decide +kernel
theorem dX10_years_17 : decode cX10_years 17 = .ok (.aload_n 0, 1) := by decide +kernel
theorem dX10_years_18 : decode cX10_years 18 = .ok (.getfield 9, 3) := by decide +kernel
theorem dX10_years_21 : decode cX10_years 21 = .ok (.iconst 0, 1) := by decide +kernel
theorem dX10_years_22 : decode cX10_years 22 = .ok (.iaload, 1) := by decide +kernel
theorem dX10_years_23 : decode cX10_years 23 = .ok (.iload_n 1, 1) := by decide +kernel
theorem dX10_years_24 : decode cX10_years 24 = .ok (.iadd, 1) := by decide +kernel
theorem dX10_years_25 : decode cX10_years 25 = .ok (.sipush 9999, 3) := by decide +kernel
theorem dX10_years_28 : decode cX10_years 28 = .ok (.if_icmp .le 10, 3) := by decide +kernel
theorem dX10_years_31 : decode cX10_years 31 = .ok (.aload_n 0, 1) := by decide +kernel
theorem dX10_years_32 : decode cX10_years 32 = .ok (.ldc 180, 2) := by decide +kernel
theorem dX10_years_34 : decode cX10_years 34 = .ok (.invokevirtual 95, 3) := by decide +kernel
theorem dX10_years_37 : decode cX10_years 37 = .ok (.ireturn, 1) := by decide +kernel
theorem dX10_years_38 : decode cX10_years 38 = .ok (.iconst 0, 1) := by decide +kernel
theorem dX10_years_39 : decode cX10_years 39 = .ok (.istore_n 2, 1) := by decide +kernel
theorem dX10_years_40 : decode cX10_years 40 = .ok (.iload_n 2, 1) := by decide +kernel
theorem dX10_years_41 : decode cX10_years 41 = .ok (.iload_n 1, 1) := by decide +kernel
theorem dX10_years_42 : decode cX10_years 42 = .ok (.if_icmp .ge 13, 3) := by decide +kernel
theorem dX10_years_45 : decode cX10_years 45 = .ok (.aload_n 0, 1) := by decide +kernel
theorem dX10_years_46 : decode cX10_years 46 = .ok (.invokevirtual 181, 3) := by decide +kernel
theorem dX10_years_49 : decode cX10_years 49 = .ok (.iinc 2 1, 3) := by decide +kernel
theorem dX10_years_52 : decode cX10_years 52 = .ok (.goto (-12), 3) := by decide +kernel
theorem dX10_years_55 : decode cX10_years 55 = .ok (.aload_n 0, 1) := by decide +kernel
theorem dX10_years_56 : decode cX10_years 56 = .ok (.invokevirtual 184, 3) := by decide +kernel
theorem dX10_years_59 : decode cX10_years 59 = .ok (.invokestatic 187, 3) := by decide +kernel
theorem dX10_years_62 : decode cX10_years 62 = .ok (.ireturn, 1) := by decide +kernel
theorem dX10_draw_0 : decode cX10_draw 0 = .ok (.aload_n 0, 1) := by decide +kernel
theorem dX10_draw_1 : decode cX10_draw 1 = .ok (.getfield 9, 3) := by decide +kernel
theorem dX10_draw_4 : decode cX10_draw 4 = .ok (.iconst 1, 1) := by decide +kernel
theorem dX10_draw_5 : decode cX10_draw 5 = .ok (.aload_n 0, 1) := by decide +kernel
theorem dX10_draw_6 : decode cX10_draw 6 = .ok (.getfield 9, 3) := by decide +kernel
theorem dX10_draw_9 : decode cX10_draw 9 = .ok (.iconst 1, 1) := by decide +kernel
theorem dX10_draw_10 : decode cX10_draw 10 = .ok (.iaload, 1) := by decide +kernel
theorem dX10_draw_11 : decode cX10_draw 11 = .ok (.ldc 190, 2) := by decide +kernel
theorem dX10_draw_13 : decode cX10_draw 13 = .ok (.imul, 1) := by decide +kernel
theorem dX10_draw_14 : decode cX10_draw 14 = .ok (.sipush 12345, 3) := by decide +kernel
theorem dX10_draw_17 : decode cX10_draw 17 = .ok (.iadd, 1) := by decide +kernel
theorem dX10_draw_18 : decode cX10_draw 18 = .ok (.iastore, 1) := by decide +kernel
theorem dX10_draw_19 : decode cX10_draw 19 = .ok (.aload_n 0, 1) := by decide +kernel
theorem dX10_draw_20 : decode cX10_draw 20 = .ok (.getfield 9, 3) := by decide +kernel
theorem dX10_draw_23 : decode cX10_draw 23 = .ok (.iconst 1, 1) := by decide +kernel
theorem dX10_draw_24 : decode cX10_draw 24 = .ok (.iaload, 1) := by decide +kernel
theorem dX10_draw_25 : decode cX10_draw 25 = .ok (.bipush 8, 2) := by decide +kernel
theorem dX10_draw_27 : decode cX10_draw 27 = .ok (.iushr, 1) := by decide +kernel
theorem dX10_draw_28 : decode cX10_draw 28 = .ok (.ireturn, 1) := by decide +kernel
theorem dX10_loose_0 : decode cX10_loose 0 = .ok (.iload_n 1, 1) := by decide +kernel
theorem dX10_loose_1 : decode cX10_loose 1 = .ok (.iconst 1, 1) := by decide +kernel
theorem dX10_loose_2 : decode cX10_loose 2 = .ok (.bipush 20, 2) := by decide +kernel
theorem dX10_loose_4 : decode cX10_loose 4 = .ok (.invokestatic 54, 3) := by decide +kernel
theorem dX10_loose_7 : decode cX10_loose 7 = .ok (.ifCond .ne 10, 3) := by decide +kernel
theorem dX10_loose_10 : decode cX10_loose 10 = .ok (.aload_n 0, 1) := by decide +kernel
theorem dX10_loose_11 : decode cX10_loose 11 = .ok (.ldc 94, 2) := by decide +kernel
theorem dX10_loose_13 : decode cX10_loose 13 = .ok (.invokevirtual 95, 3) := by decide +kernel
theorem dX10_loose_16 : decode cX10_loose 16 = .ok (.ireturn, 1) := by decide +kernel
theorem dX10_loose_17 : decode cX10_loose 17 = .ok (.aload_n 0, 1) := by decide +kernel
theorem dX10_loose_18 : decode cX10_loose 18 = .ok (.getfield 9, 3) := by decide +kernel
theorem dX10_loose_21 : decode cX10_loose 21 = .ok (.iconst 0, 1) := by decide +kernel
theorem dX10_loose_22 : decode cX10_loose 22 = .ok (.iaload, 1) := by decide +kernel
theorem dX10_loose_23 : decode cX10_loose 23 = .ok (.iload_n 1, 1) := by decide +kernel
theorem dX10_loose_24 : decode cX10_loose 24 = .ok (.iadd, 1) := by decide +kernel
theorem dX10_loose_25 : decode cX10_loose 25 = .ok (.sipush 9999, 3) := by decide +kernel
theorem dX10_loose_28 : decode cX10_loose 28 = .ok (.if_icmp .le 10, 3) := by decide +kernel
theorem dX10_loose_31 : decode cX10_loose 31 = .ok (.aload_n 0, 1) := by decide +kernel
theorem dX10_loose_32 : decode cX10_loose 32 = .ok (.ldc 180, 2) := by decide +kernel
theorem dX10_loose_34 : decode cX10_loose 34 = .ok (.invokevirtual 95, 3) := by decide +kernel
theorem dX10_loose_37 : decode cX10_loose 37 = .ok (.ireturn, 1) := by decide +kernel
theorem dX10_loose_38 : decode cX10_loose 38 = .ok (.iconst 0, 1) := by decide +kernel
theorem dX10_loose_39 : decode cX10_loose 39 = .ok (.istore_n 2, 1) := by decide +kernel
theorem dX10_loose_40 : decode cX10_loose 40 = .ok (.iload_n 2, 1) := by decide +kernel
theorem dX10_loose_41 : decode cX10_loose 41 = .ok (.iload_n 1, 1) := by decide +kernel
theorem dX10_loose_42 : decode cX10_loose 42 = .ok (.if_icmp .ge 70, 3) := by decide +kernel
theorem dX10_loose_45 : decode cX10_loose 45 = .ok (.aload_n 0, 1) := by decide +kernel
theorem dX10_loose_46 : decode cX10_loose 46 = .ok (.getfield 9, 3) := by decide +kernel
theorem dX10_loose_49 : decode cX10_loose 49 = .ok (.iconst 2, 1) := by decide +kernel
theorem dX10_loose_50 : decode cX10_loose 50 = .ok (.iaload, 1) := by decide +kernel
theorem dX10_loose_51 : decode cX10_loose 51 = .ok (.bipush 12, 2) := by decide +kernel
theorem dX10_loose_53 : decode cX10_loose 53 = .ok (.if_icmp .ge 49, 3) := by decide +kernel
theorem dX10_loose_56 : decode cX10_loose 56 = .ok (.aload_n 0, 1) := by decide +kernel
theorem dX10_loose_57 : decode cX10_loose 57 = .ok (.invokevirtual 191, 3) := by decide +kernel
theorem dX10_loose_60 : decode cX10_loose 60 = .ok (.bipush 7, 2) := by decide +kernel
theorem dX10_loose_62 : decode cX10_loose 62 = .ok (.irem, 1) := by decide +kernel
theorem dX10_loose_63 : decode cX10_loose 63 = .ok (.istore_n 3, 1) := by decide +kernel
theorem dX10_loose_64 : decode cX10_loose 64 = .ok (.aload_n 0, 1) := by decide +kernel
theorem dX10_loose_65 : decode cX10_loose 65 = .ok (.invokevirtual 191, 3) := by decide +kernel
theorem dX10_loose_68 : decode cX10_loose 68 = .ok (.bipush 72, 2) := by decide +kernel
theorem dX10_loose_70 : decode cX10_loose 70 = .ok (.irem, 1) := by decide +kernel
theorem dX10_loose_71 : decode cX10_loose 71 = .ok (.istore 4, 2) := by decide +kernel
theorem dX10_loose_73 : decode cX10_loose 73 = .ok (.aload_n 0, 1) := by decide +kernel
theorem dX10_loose_74 : decode cX10_loose 74 = .ok (.bipush 10, 2) := by decide +kernel
theorem dX10_loose_76 : decode cX10_loose 76 = .ok (.iload_n 3, 1) := by decide +kernel
theorem dX10_loose_77 : decode cX10_loose 77 = .ok (.imul, 1) := by decide +kernel
theorem dX10_loose_78 : decode cX10_loose 78 = .ok (.iconst 1, 1) := by decide +kernel
theorem dX10_loose_79 : decode cX10_loose 79 = .ok (.iload 4, 2) := by decide +kernel
theorem dX10_loose_81 : decode cX10_loose 81 = .ok (.bipush 6, 2) := by decide +kernel
theorem dX10_loose_83 : decode cX10_loose 83 = .ok (.idiv, 1) := by decide +kernel
theorem dX10_loose_84 : decode cX10_loose 84 = .ok (.iadd, 1) := by decide +kernel
theorem dX10_loose_85 : decode cX10_loose 85 = .ok (.iload 4, 2) := by decide +kernel
theorem dX10_loose_87 : decode cX10_loose 87 = .ok (.bipush 6, 2) := by decide +kernel
theorem dX10_loose_89 : decode cX10_loose 89 = .ok (.irem, 1) := by decide +kernel
theorem dX10_loose_90 : decode cX10_loose 90 = .ok (.aload_n 0, 1) := by decide +kernel
theorem dX10_loose_91 : decode cX10_loose 91 = .ok (.invokevirtual 191, 3) := by decide +kernel
theorem dX10_loose_94 : decode cX10_loose 94 = .ok (.bipush 6, 2) := by decide +kernel
theorem dX10_loose_96 : decode cX10_loose 96 = .ok (.irem, 1) := by decide +kernel
theorem dX10_loose_97 : decode cX10_loose 97 = .ok (.invokevirtual 99, 3) := by decide +kernel
theorem dX10_loose_100 : decode cX10_loose 100 = .ok (.istore 5, 2) := by decide +kernel
theorem dX10_loose_102 : decode cX10_loose 102 = .ok (.aload_n 0, 1) := by decide +kernel
theorem dX10_loose_103 : decode cX10_loose 103 = .ok (.invokevirtual 181, 3) := by decide +kernel
theorem dX10_loose_106 : decode cX10_loose 106 = .ok (.iinc 2 1, 3) := by decide +kernel
theorem dX10_loose_109 : decode cX10_loose 109 = .ok (.goto (-69), 3) := by decide +kernel
theorem dX10_loose_112 : decode cX10_loose 112 = .ok (.aload_n 0, 1) := by decide +kernel
theorem dX10_loose_113 : decode cX10_loose 113 = .ok (.invokevirtual 184, 3) := by decide +kernel
theorem dX10_loose_116 : decode cX10_loose 116 = .ok (.invokestatic 187, 3) := by decide +kernel
theorem dX10_loose_119 : decode cX10_loose 119 = .ok (.ireturn, 1) := by decide +kernel
theorem dX10_seed_0 : decode cX10_seed 0 = .ok (.aload_n 0, 1) := by decide +kernel
theorem dX10_seed_1 : decode cX10_seed 1 = .ok (.iconst 1, 1) := by decide +kernel
theorem dX10_seed_2 : decode cX10_seed 2 = .ok (.iload_n 1, 1) := by decide +kernel
theorem dX10_seed_3 : decode cX10_seed 3 = .ok (.invokevirtual 111, 3) := by decide +kernel
theorem dX10_seed_6 : decode cX10_seed 6 = .ok (.ireturn, 1) := by decide +kernel
theorem dX10_longestTalk_0 : decode cX10_longestTalk 0 = .ok (.iconst 0, 1) := by decide +kernel
theorem dX10_longestTalk_1 : decode cX10_longestTalk 1 = .ok (.istore_n 1, 1) := by decide +kernel
theorem dX10_longestTalk_2 : decode cX10_longestTalk 2 = .ok (.iconst 0, 1) := by decide +kernel
theorem dX10_longestTalk_3 : decode cX10_longestTalk 3 = .ok (.istore_n 2, 1) := by decide +kernel
theorem dX10_longestTalk_4 : decode cX10_longestTalk 4 = .ok (.iconst 0, 1) := by decide +kernel
theorem dX10_longestTalk_5 : decode cX10_longestTalk 5 = .ok (.istore_n 3, 1) := by decide +kernel
theorem dX10_longestTalk_6 : decode cX10_longestTalk 6 = .ok (.iload_n 3, 1) := by decide +kernel
theorem dX10_longestTalk_7 : decode cX10_longestTalk 7 = .ok (.aload_n 0, 1) := by decide +kernel
theorem dX10_longestTalk_8 : decode cX10_longestTalk 8 = .ok (.getfield 9, 3) := by decide +kernel
theorem dX10_longestTalk_11 : decode cX10_longestTalk 11 = .ok (.iconst 2, 1) := by decide +kernel
theorem dX10_longestTalk_12 : decode cX10_longestTalk 12 = .ok (.iaload, 1) := by decide +kernel
theorem dX10_longestTalk_13 : decode cX10_longestTalk 13 = .ok (.if_icmp .ge 44, 3) := by decide +kernel
theorem dX10_longestTalk_16 : decode cX10_longestTalk 16 = .ok (.aload_n 0, 1) := by decide +kernel
theorem dX10_longestTalk_17 : decode cX10_longestTalk 17 = .ok (.iload_n 3, 1) := by decide +kernel
theorem dX10_longestTalk_18 : decode cX10_longestTalk 18 = .ok (.invokevirtual 62, 3) := by decide +kernel
theorem dX10_longestTalk_21 : decode cX10_longestTalk 21 = .ok (.ifCond .eq 30, 3) := by decide +kernel
theorem dX10_longestTalk_24 : decode cX10_longestTalk 24 = .ok (.aload_n 0, 1) := by decide +kernel
theorem dX10_longestTalk_25 : decode cX10_longestTalk 25 = .ok (.iload_n 3, 1) := by decide +kernel
theorem dX10_longestTalk_26 : decode cX10_longestTalk 26 = .ok (.invokevirtual 194, 3) := by decide +kernel
theorem dX10_longestTalk_29 : decode cX10_longestTalk 29 = .ok (.ifCond .eq 9, 3) := by decide +kernel
theorem dX10_longestTalk_32 : decode cX10_longestTalk 32 = .ok (.iload_n 2, 1) := by decide +kernel
theorem dX10_longestTalk_33 : decode cX10_longestTalk 33 = .ok (.iconst 1, 1) := by decide +kernel
theorem dX10_longestTalk_34 : decode cX10_longestTalk 34 = .ok (.iadd, 1) := by decide +kernel
theorem dX10_longestTalk_35 : decode cX10_longestTalk 35 = .ok (.goto 4, 3) := by decide +kernel
theorem dX10_longestTalk_38 : decode cX10_longestTalk 38 = .ok (.iconst 1, 1) := by decide +kernel
theorem dX10_longestTalk_39 : decode cX10_longestTalk 39 = .ok (.istore_n 2, 1) := by decide +kernel
theorem dX10_longestTalk_40 : decode cX10_longestTalk 40 = .ok (.iload_n 2, 1) := by decide +kernel
theorem dX10_longestTalk_41 : decode cX10_longestTalk 41 = .ok (.iload_n 1, 1) := by decide +kernel
theorem dX10_longestTalk_42 : decode cX10_longestTalk 42 = .ok (.if_icmp .le 7, 3) := by decide +kernel
theorem dX10_longestTalk_45 : decode cX10_longestTalk 45 = .ok (.iload_n 2, 1) := by decide +kernel
theorem dX10_longestTalk_46 : decode cX10_longestTalk 46 = .ok (.goto 4, 3) := by decide +kernel
theorem dX10_longestTalk_49 : decode cX10_longestTalk 49 = .ok (.iload_n 1, 1) := by decide +kernel
theorem dX10_longestTalk_50 : decode cX10_longestTalk 50 = .ok (.istore_n 1, 1) := by decide +kernel
theorem dX10_longestTalk_51 : decode cX10_longestTalk 51 = .ok (.iinc 3 1, 3) := by decide +kernel
theorem dX10_longestTalk_54 : decode cX10_longestTalk 54 = .ok (.goto (-48), 3) := by decide +kernel
theorem dX10_longestTalk_57 : decode cX10_longestTalk 57 = .ok (.iload_n 1, 1) := by decide +kernel
theorem dX10_longestTalk_58 : decode cX10_longestTalk 58 = .ok (.ireturn, 1) := by decide +kernel
theorem dX10_answersSeen_0 : decode cX10_answersSeen 0 = .ok (.iconst 0, 1) := by decide +kernel
theorem dX10_answersSeen_1 : decode cX10_answersSeen 1 = .ok (.istore_n 1, 1) := by decide +kernel
theorem dX10_answersSeen_2 : decode cX10_answersSeen 2 = .ok (.iconst 0, 1) := by decide +kernel
theorem dX10_answersSeen_3 : decode cX10_answersSeen 3 = .ok (.istore_n 2, 1) := by decide +kernel
theorem dX10_answersSeen_4 : decode cX10_answersSeen 4 = .ok (.iload_n 2, 1) := by decide +kernel
theorem dX10_answersSeen_5 : decode cX10_answersSeen 5 = .ok (.aload_n 0, 1) := by decide +kernel
theorem dX10_answersSeen_6 : decode cX10_answersSeen 6 = .ok (.getfield 9, 3) := by decide +kernel
theorem dX10_answersSeen_9 : decode cX10_answersSeen 9 = .ok (.iconst 2, 1) := by decide +kernel
theorem dX10_answersSeen_10 : decode cX10_answersSeen 10 = .ok (.iaload, 1) := by decide +kernel
theorem dX10_answersSeen_11 : decode cX10_answersSeen 11 = .ok (.if_icmp .ge 25, 3) := by decide +kernel
theorem dX10_answersSeen_14 : decode cX10_answersSeen 14 = .ok (.iload_n 1, 1) := by decide +kernel
theorem dX10_answersSeen_15 : decode cX10_answersSeen 15 = .ok (.aload_n 0, 1) := by decide +kernel
theorem dX10_answersSeen_16 : decode cX10_answersSeen 16 = .ok (.iload_n 2, 1) := by decide +kernel
theorem dX10_answersSeen_17 : decode cX10_answersSeen 17 = .ok (.invokevirtual 194, 3) := by decide +kernel
theorem dX10_answersSeen_20 : decode cX10_answersSeen 20 = .ok (.ifCond .eq 7, 3) := by decide +kernel
theorem dX10_answersSeen_23 : decode cX10_answersSeen 23 = .ok (.iconst 1, 1) := by decide +kernel
theorem dX10_answersSeen_24 : decode cX10_answersSeen 24 = .ok (.goto 4, 3) := by decide +kernel
theorem dX10_answersSeen_27 : decode cX10_answersSeen 27 = .ok (.iconst 0, 1) := by decide +kernel
theorem dX10_answersSeen_28 : decode cX10_answersSeen 28 = .ok (.iadd, 1) := by decide +kernel
theorem dX10_answersSeen_29 : decode cX10_answersSeen 29 = .ok (.istore_n 1, 1) := by decide +kernel
theorem dX10_answersSeen_30 : decode cX10_answersSeen 30 = .ok (.iinc 2 1, 3) := by decide +kernel
theorem dX10_answersSeen_33 : decode cX10_answersSeen 33 = .ok (.goto (-29), 3) := by decide +kernel
theorem dX10_answersSeen_36 : decode cX10_answersSeen 36 = .ok (.iload_n 1, 1) := by decide +kernel
theorem dX10_answersSeen_37 : decode cX10_answersSeen 37 = .ok (.ireturn, 1) := by decide +kernel
theorem dX10_talk_0 : decode cX10_talk 0 = .ok (.iload_n 1, 1) := by decide +kernel
theorem dX10_talk_1 : decode cX10_talk 1 = .ok (.tableswitch 45 0 2 #[27, 32, 37], 27) := by decide +kernel
theorem dX10_talk_28 : decode cX10_talk 28 = .ok (.aload_n 0, 1) := by decide +kernel
theorem dX10_talk_29 : decode cX10_talk 29 = .ok (.invokevirtual 197, 3) := by decide +kernel
theorem dX10_talk_32 : decode cX10_talk 32 = .ok (.ireturn, 1) := by decide +kernel
theorem dX10_talk_33 : decode cX10_talk 33 = .ok (.aload_n 0, 1) := by decide +kernel
theorem dX10_talk_34 : decode cX10_talk 34 = .ok (.invokevirtual 200, 3) := by decide +kernel
theorem dX10_talk_37 : decode cX10_talk 37 = .ok (.ireturn, 1) := by decide +kernel
theorem dX10_talk_38 : decode cX10_talk 38 = .ok (.aload_n 0, 1) := by decide +kernel
theorem dX10_talk_39 : decode cX10_talk 39 = .ok (.invokevirtual 184, 3) := by decide +kernel
theorem dX10_talk_42 : decode cX10_talk 42 = .ok (.invokestatic 187, 3) := by decide +kernel
theorem dX10_talk_45 : decode cX10_talk 45 = .ok (.ireturn, 1) := by decide +kernel
theorem dX10_talk_46 : decode cX10_talk 46 = .ok (.aload_n 0, 1) := by decide +kernel
theorem dX10_talk_47 : decode cX10_talk 47 = .ok (.ldc 94, 2) := by decide +kernel
theorem dX10_talk_49 : decode cX10_talk 49 = .ok (.invokevirtual 95, 3) := by decide +kernel
theorem dX10_talk_52 : decode cX10_talk 52 = .ok (.ireturn, 1) := by decide +kernel
theorem dX10_meaning_0 : decode cX10_meaning 0 = .ok (.iload_n 1, 1) := by decide +kernel
theorem dX10_meaning_1 : decode cX10_meaning 1 = .ok (.iconst (-1), 1) := by decide +kernel
theorem dX10_meaning_2 : decode cX10_meaning 2 = .ok (.iconst 5, 1) := by decide +kernel
theorem dX10_meaning_3 : decode cX10_meaning 3 = .ok (.invokestatic 54, 3) := by decide +kernel
theorem dX10_meaning_6 : decode cX10_meaning 6 = .ok (.ifCond .ne 10, 3) := by decide +kernel
theorem dX10_meaning_9 : decode cX10_meaning 9 = .ok (.aload_n 0, 1) := by decide +kernel
theorem dX10_meaning_10 : decode cX10_meaning 10 = .ok (.ldc 94, 2) := by decide +kernel
theorem dX10_meaning_12 : decode cX10_meaning 12 = .ok (.invokevirtual 95, 3) := by decide +kernel
theorem dX10_meaning_15 : decode cX10_meaning 15 = .ok (.ireturn, 1) := by decide +kernel
theorem dX10_meaning_16 : decode cX10_meaning 16 = .ok (.iconst 0, 1) := by decide +kernel
theorem dX10_meaning_17 : decode cX10_meaning 17 = .ok (.istore_n 2, 1) := by decide +kernel
theorem dX10_meaning_18 : decode cX10_meaning 18 = .ok (.iconst 0, 1) := by decide +kernel
theorem dX10_meaning_19 : decode cX10_meaning 19 = .ok (.istore_n 3, 1) := by decide +kernel
theorem dX10_meaning_20 : decode cX10_meaning 20 = .ok (.iload_n 3, 1) := by decide +kernel
theorem dX10_meaning_21 : decode cX10_meaning 21 = .ok (.aload_n 0, 1) := by decide +kernel
theorem dX10_meaning_22 : decode cX10_meaning 22 = .ok (.getfield 9, 3) := by decide +kernel
theorem dX10_meaning_25 : decode cX10_meaning 25 = .ok (.iconst 2, 1) := by decide +kernel
theorem dX10_meaning_26 : decode cX10_meaning 26 = .ok (.iaload, 1) := by decide +kernel
theorem dX10_meaning_27 : decode cX10_meaning 27 = .ok (.if_icmp .ge 55, 3) := by decide +kernel
theorem dX10_meaning_30 : decode cX10_meaning 30 = .ok (.aload_n 0, 1) := by decide +kernel
theorem dX10_meaning_31 : decode cX10_meaning 31 = .ok (.iload_n 3, 1) := by decide +kernel
theorem dX10_meaning_32 : decode cX10_meaning 32 = .ok (.invokevirtual 194, 3) := by decide +kernel
theorem dX10_meaning_35 : decode cX10_meaning 35 = .ok (.ifCond .eq 21, 3) := by decide +kernel
theorem dX10_meaning_38 : decode cX10_meaning 38 = .ok (.iload_n 1, 1) := by decide +kernel
theorem dX10_meaning_39 : decode cX10_meaning 39 = .ok (.ifCond .lt 13, 3) := by decide +kernel
theorem dX10_meaning_42 : decode cX10_meaning 42 = .ok (.aload_n 0, 1) := by decide +kernel
theorem dX10_meaning_43 : decode cX10_meaning 43 = .ok (.iload_n 3, 1) := by decide +kernel
theorem dX10_meaning_44 : decode cX10_meaning 44 = .ok (.iconst 4, 1) := by decide +kernel
theorem dX10_meaning_45 : decode cX10_meaning 45 = .ok (.invokevirtual 58, 3) := by decide +kernel
theorem dX10_meaning_48 : decode cX10_meaning 48 = .ok (.iload_n 1, 1) := by decide +kernel
theorem dX10_meaning_49 : decode cX10_meaning 49 = .ok (.if_icmp .ne 7, 3) := by decide +kernel
theorem dX10_meaning_52 : decode cX10_meaning 52 = .ok (.iconst 1, 1) := by decide +kernel
theorem dX10_meaning_53 : decode cX10_meaning 53 = .ok (.goto 4, 3) := by decide +kernel
theorem dX10_meaning_56 : decode cX10_meaning 56 = .ok (.iconst 0, 1) := by decide +kernel
theorem dX10_meaning_57 : decode cX10_meaning 57 = .ok (.istore 4, 2) := by decide +kernel
theorem dX10_meaning_59 : decode cX10_meaning 59 = .ok (.iload_n 2, 1) := by decide +kernel
theorem dX10_meaning_60 : decode cX10_meaning 60 = .ok (.iload 4, 2) := by decide +kernel
theorem dX10_meaning_62 : decode cX10_meaning 62 = .ok (.ifCond .eq 11, 3) := by decide +kernel
theorem dX10_meaning_65 : decode cX10_meaning 65 = .ok (.aload_n 0, 1) := by decide +kernel
theorem dX10_meaning_66 : decode cX10_meaning 66 = .ok (.iload_n 3, 1) := by decide +kernel
theorem dX10_meaning_67 : decode cX10_meaning 67 = .ok (.invokevirtual 105, 3) := by decide +kernel
theorem dX10_meaning_70 : decode cX10_meaning 70 = .ok (.goto 4, 3) := by decide +kernel
theorem dX10_meaning_73 : decode cX10_meaning 73 = .ok (.iconst 0, 1) := by decide +kernel
theorem dX10_meaning_74 : decode cX10_meaning 74 = .ok (.iadd, 1) := by decide +kernel
theorem dX10_meaning_75 : decode cX10_meaning 75 = .ok (.istore_n 2, 1) := by decide +kernel
theorem dX10_meaning_76 : decode cX10_meaning 76 = .ok (.iinc 3 1, 3) := by decide +kernel
theorem dX10_meaning_79 : decode cX10_meaning 79 = .ok (.goto (-59), 3) := by decide +kernel
theorem dX10_meaning_82 : decode cX10_meaning 82 = .ok (.iload_n 2, 1) := by decide +kernel
theorem dX10_meaning_83 : decode cX10_meaning 83 = .ok (.ireturn, 1) := by decide +kernel
theorem dX10_then_0 : decode cX10_then 0 = .ok (.iload_n 1, 1) := by decide +kernel
theorem dX10_then_1 : decode cX10_then 1 = .ok (.iconst 0, 1) := by decide +kernel
theorem dX10_then_2 : decode cX10_then 2 = .ok (.bipush 60, 2) := by decide +kernel
theorem dX10_then_4 : decode cX10_then 4 = .ok (.invokestatic 54, 3) := by decide +kernel
theorem dX10_then_7 : decode cX10_then 7 = .ok (.ifCond .eq 12, 3) := by decide +kernel
theorem dX10_then_10 : decode cX10_then 10 = .ok (.iload_n 2, 1) := by decide +kernel
theorem dX10_then_11 : decode cX10_then 11 = .ok (.iconst 0, 1) := by decide +kernel
theorem dX10_then_12 : decode cX10_then 12 = .ok (.iconst 1, 1) := by decide +kernel
theorem dX10_then_13 : decode cX10_then 13 = .ok (.invokestatic 54, 3) := by decide +kernel
theorem dX10_then_16 : decode cX10_then 16 = .ok (.ifCond .ne 10, 3) := by decide +kernel
theorem dX10_then_19 : decode cX10_then 19 = .ok (.aload_n 0, 1) := by decide +kernel
theorem dX10_then_20 : decode cX10_then 20 = .ok (.ldc 94, 2) := by decide +kernel
theorem dX10_then_22 : decode cX10_then 22 = .ok (.invokevirtual 95, 3) := by decide +kernel
theorem dX10_then_25 : decode cX10_then 25 = .ok (.ireturn, 1) := by decide +kernel
theorem dX10_then_26 : decode cX10_then 26 = .ok (.aload_n 0, 1) := by decide +kernel
theorem dX10_then_27 : decode cX10_then 27 = .ok (.invokevirtual 203, 3) := by decide +kernel
theorem dX10_then_30 : decode cX10_then 30 = .ok (.iconst 0, 1) := by decide +kernel
theorem dX10_then_31 : decode cX10_then 31 = .ok (.istore_n 3, 1) := by decide +kernel
theorem dX10_then_32 : decode cX10_then 32 = .ok (.iload_n 3, 1) := by decide +kernel
theorem dX10_then_33 : decode cX10_then 33 = .ok (.iload_n 1, 1) := by decide +kernel
theorem dX10_then_34 : decode cX10_then 34 = .ok (.if_icmp .ge 13, 3) := by decide +kernel
theorem dX10_then_37 : decode cX10_then 37 = .ok (.aload_n 0, 1) := by decide +kernel
theorem dX10_then_38 : decode cX10_then 38 = .ok (.invokevirtual 181, 3) := by decide +kernel
theorem dX10_then_41 : decode cX10_then 41 = .ok (.iinc 3 1, 3) := by decide +kernel
theorem dX10_then_44 : decode cX10_then 44 = .ok (.goto (-12), 3) := by decide +kernel
theorem dX10_then_47 : decode cX10_then 47 = .ok (.aload_n 0, 1) := by decide +kernel
theorem dX10_then_48 : decode cX10_then 48 = .ok (.invokevirtual 184, 3) := by decide +kernel
theorem dX10_then_51 : decode cX10_then 51 = .ok (.istore_n 3, 1) := by decide +kernel
theorem dX10_then_52 : decode cX10_then 52 = .ok (.aload_n 0, 1) := by decide +kernel
theorem dX10_then_53 : decode cX10_then 53 = .ok (.invokevirtual 206, 3) := by decide +kernel
theorem dX10_then_56 : decode cX10_then 56 = .ok (.iload_n 2, 1) := by decide +kernel
theorem dX10_then_57 : decode cX10_then 57 = .ok (.ifCond .ne 10, 3) := by decide +kernel
theorem dX10_then_60 : decode cX10_then 60 = .ok (.iload_n 3, 1) := by decide +kernel
theorem dX10_then_61 : decode cX10_then 61 = .ok (.invokestatic 187, 3) := by decide +kernel
theorem dX10_then_64 : decode cX10_then 64 = .ok (.goto 4, 3) := by decide +kernel
theorem dX10_then_67 : decode cX10_then 67 = .ok (.iload_n 3, 1) := by decide +kernel
theorem dX10_then_68 : decode cX10_then 68 = .ok (.ireturn, 1) := by decide +kernel
theorem dX10_isTalk_0 : decode cX10_isTalk 0 = .ok (.iconst (-1), 1) := by decide +kernel
theorem dX10_isTalk_1 : decode cX10_isTalk 1 = .ok (.istore_n 2, 1) := by decide +kernel
theorem dX10_isTalk_2 : decode cX10_isTalk 2 = .ok (.iconst 1, 1) := by decide +kernel
theorem dX10_isTalk_3 : decode cX10_isTalk 3 = .ok (.istore_n 3, 1) := by decide +kernel
theorem dX10_isTalk_4 : decode cX10_isTalk 4 = .ok (.iconst 0, 1) := by decide +kernel
theorem dX10_isTalk_5 : decode cX10_isTalk 5 = .ok (.istore 4, 2) := by decide +kernel
theorem dX10_isTalk_7 : decode cX10_isTalk 7 = .ok (.iload 4, 2) := by decide +kernel
theorem dX10_isTalk_9 : decode cX10_isTalk 9 = .ok (.aload_n 0, 1) := by decide +kernel
theorem dX10_isTalk_10 : decode cX10_isTalk 10 = .ok (.getfield 9, 3) := by decide +kernel
theorem dX10_isTalk_13 : decode cX10_isTalk 13 = .ok (.iconst 2, 1) := by decide +kernel
theorem dX10_isTalk_14 : decode cX10_isTalk 14 = .ok (.iaload, 1) := by decide +kernel
theorem dX10_isTalk_15 : decode cX10_isTalk 15 = .ok (.if_icmp .ge 46, 3) := by decide +kernel
theorem dX10_isTalk_18 : decode cX10_isTalk 18 = .ok (.iload_n 3, 1) := by decide +kernel
theorem dX10_isTalk_19 : decode cX10_isTalk 19 = .ok (.ifCond .eq 42, 3) := by decide +kernel
theorem dX10_isTalk_22 : decode cX10_isTalk 22 = .ok (.iload_n 1, 1) := by decide +kernel
theorem dX10_isTalk_23 : decode cX10_isTalk 23 = .ok (.iload 4, 2) := by decide +kernel
theorem dX10_isTalk_25 : decode cX10_isTalk 25 = .ok (.ishr, 1) := by decide +kernel
theorem dX10_isTalk_26 : decode cX10_isTalk 26 = .ok (.iconst 1, 1) := by decide +kernel
theorem dX10_isTalk_27 : decode cX10_isTalk 27 = .ok (.iand, 1) := by decide +kernel
theorem dX10_isTalk_28 : decode cX10_isTalk 28 = .ok (.iconst 1, 1) := by decide +kernel
theorem dX10_isTalk_29 : decode cX10_isTalk 29 = .ok (.if_icmp .ne 26, 3) := by decide +kernel
theorem dX10_isTalk_32 : decode cX10_isTalk 32 = .ok (.iload_n 2, 1) := by decide +kernel
theorem dX10_isTalk_33 : decode cX10_isTalk 33 = .ok (.ifCond .lt 13, 3) := by decide +kernel
theorem dX10_isTalk_36 : decode cX10_isTalk 36 = .ok (.aload_n 0, 1) := by decide +kernel
theorem dX10_isTalk_37 : decode cX10_isTalk 37 = .ok (.iload 4, 2) := by decide +kernel
theorem dX10_isTalk_39 : decode cX10_isTalk 39 = .ok (.iload_n 2, 1) := by decide +kernel
theorem dX10_isTalk_40 : decode cX10_isTalk 40 = .ok (.invokevirtual 70, 3) := by decide +kernel
theorem dX10_isTalk_43 : decode cX10_isTalk 43 = .ok (.ifCond .eq 7, 3) := by decide +kernel
theorem dX10_isTalk_46 : decode cX10_isTalk 46 = .ok (.iconst 1, 1) := by decide +kernel
theorem dX10_isTalk_47 : decode cX10_isTalk 47 = .ok (.goto 4, 3) := by decide +kernel
theorem dX10_isTalk_50 : decode cX10_isTalk 50 = .ok (.iconst 0, 1) := by decide +kernel
theorem dX10_isTalk_51 : decode cX10_isTalk 51 = .ok (.istore_n 3, 1) := by decide +kernel
theorem dX10_isTalk_52 : decode cX10_isTalk 52 = .ok (.iload 4, 2) := by decide +kernel
theorem dX10_isTalk_54 : decode cX10_isTalk 54 = .ok (.istore_n 2, 1) := by decide +kernel
theorem dX10_isTalk_55 : decode cX10_isTalk 55 = .ok (.iinc 4 1, 3) := by decide +kernel
theorem dX10_isTalk_58 : decode cX10_isTalk 58 = .ok (.goto (-51), 3) := by decide +kernel
theorem dX10_isTalk_61 : decode cX10_isTalk 61 = .ok (.iload_n 3, 1) := by decide +kernel
theorem dX10_isTalk_62 : decode cX10_isTalk 62 = .ok (.ireturn, 1) := by decide +kernel
theorem dX10_fewest_0 : decode cX10_fewest 0 = .ok (.iload_n 1, 1) := by decide +kernel
theorem dX10_fewest_1 : decode cX10_fewest 1 = .ok (.iconst 0, 1) := by decide +kernel
theorem dX10_fewest_2 : decode cX10_fewest 2 = .ok (.iconst 1, 1) := by decide +kernel
theorem dX10_fewest_3 : decode cX10_fewest 3 = .ok (.invokestatic 54, 3) := by decide +kernel
theorem dX10_fewest_6 : decode cX10_fewest 6 = .ok (.ifCond .ne 10, 3) := by decide +kernel
theorem dX10_fewest_9 : decode cX10_fewest 9 = .ok (.aload_n 0, 1) := by decide +kernel
theorem dX10_fewest_10 : decode cX10_fewest 10 = .ok (.ldc 94, 2) := by decide +kernel
theorem dX10_fewest_12 : decode cX10_fewest 12 = .ok (.invokevirtual 95, 3) := by decide +kernel
theorem dX10_fewest_15 : decode cX10_fewest 15 = .ok (.ireturn, 1) := by decide +kernel
theorem dX10_fewest_16 : decode cX10_fewest 16 = .ok (.aload_n 0, 1) := by decide +kernel
theorem dX10_fewest_17 : decode cX10_fewest 17 = .ok (.invokevirtual 184, 3) := by decide +kernel
theorem dX10_fewest_20 : decode cX10_fewest 20 = .ok (.istore_n 2, 1) := by decide +kernel
theorem dX10_fewest_21 : decode cX10_fewest 21 = .ok (.iload_n 2, 1) := by decide +kernel
theorem dX10_fewest_22 : decode cX10_fewest 22 = .ok (.istore_n 3, 1) := by decide +kernel
theorem dX10_fewest_23 : decode cX10_fewest 23 = .ok (.iload_n 2, 1) := by decide +kernel
theorem dX10_fewest_24 : decode cX10_fewest 24 = .ok (.istore 4, 2) := by decide +kernel
theorem dX10_fewest_26 : decode cX10_fewest 26 = .ok (.iload 4, 2) := by decide +kernel
theorem dX10_fewest_28 : decode cX10_fewest 28 = .ok (.ifCond .lt 50, 3) := by decide +kernel
theorem dX10_fewest_31 : decode cX10_fewest 31 = .ok (.iload 4, 2) := by decide +kernel
theorem dX10_fewest_33 : decode cX10_fewest 33 = .ok (.iload_n 2, 1) := by decide +kernel
theorem dX10_fewest_34 : decode cX10_fewest 34 = .ok (.iconst (-1), 1) := by decide +kernel
theorem dX10_fewest_35 : decode cX10_fewest 35 = .ok (.ixor, 1) := by decide +kernel
theorem dX10_fewest_36 : decode cX10_fewest 36 = .ok (.iand, 1) := by decide +kernel
theorem dX10_fewest_37 : decode cX10_fewest 37 = .ok (.ifCond .ne 35, 3) := by decide +kernel
theorem dX10_fewest_40 : decode cX10_fewest 40 = .ok (.iload 4, 2) := by decide +kernel
theorem dX10_fewest_42 : decode cX10_fewest 42 = .ok (.invokestatic 187, 3) := by decide +kernel
theorem dX10_fewest_45 : decode cX10_fewest 45 = .ok (.iload_n 3, 1) := by decide +kernel
theorem dX10_fewest_46 : decode cX10_fewest 46 = .ok (.invokestatic 187, 3) := by decide +kernel
theorem dX10_fewest_49 : decode cX10_fewest 49 = .ok (.if_icmp .gt 23, 3) := by decide +kernel
theorem dX10_fewest_52 : decode cX10_fewest 52 = .ok (.aload_n 0, 1) := by decide +kernel
theorem dX10_fewest_53 : decode cX10_fewest 53 = .ok (.iload_n 2, 1) := by decide +kernel
theorem dX10_fewest_54 : decode cX10_fewest 54 = .ok (.iload 4, 2) := by decide +kernel
theorem dX10_fewest_56 : decode cX10_fewest 56 = .ok (.iconst (-1), 1) := by decide +kernel
theorem dX10_fewest_57 : decode cX10_fewest 57 = .ok (.ixor, 1) := by decide +kernel
theorem dX10_fewest_58 : decode cX10_fewest 58 = .ok (.iand, 1) := by decide +kernel
theorem dX10_fewest_59 : decode cX10_fewest 59 = .ok (.invokevirtual 209, 3) := by decide +kernel
theorem dX10_fewest_62 : decode cX10_fewest 62 = .ok (.ifCond .eq 8, 3) := by decide +kernel
theorem dX10_fewest_65 : decode cX10_fewest 65 = .ok (.iload 4, 2) := by decide +kernel
theorem dX10_fewest_67 : decode cX10_fewest 67 = .ok (.goto 4, 3) := by decide +kernel
theorem dX10_fewest_70 : decode cX10_fewest 70 = .ok (.iload_n 3, 1) := by decide +kernel
theorem dX10_fewest_71 : decode cX10_fewest 71 = .ok (.istore_n 3, 1) := by decide +kernel
theorem dX10_fewest_72 : decode cX10_fewest 72 = .ok (.iinc 4 (-1), 3) := by decide +kernel
theorem dX10_fewest_75 : decode cX10_fewest 75 = .ok (.goto (-49), 3) := by decide +kernel
theorem dX10_fewest_78 : decode cX10_fewest 78 = .ok (.iload_n 1, 1) := by decide +kernel
theorem dX10_fewest_79 : decode cX10_fewest 79 = .ok (.ifCond .ne 10, 3) := by decide +kernel
theorem dX10_fewest_82 : decode cX10_fewest 82 = .ok (.iload_n 3, 1) := by decide +kernel
theorem dX10_fewest_83 : decode cX10_fewest 83 = .ok (.invokestatic 187, 3) := by decide +kernel
theorem dX10_fewest_86 : decode cX10_fewest 86 = .ok (.goto 4, 3) := by decide +kernel
theorem dX10_fewest_89 : decode cX10_fewest 89 = .ok (.iload_n 3, 1) := by decide +kernel
theorem dX10_fewest_90 : decode cX10_fewest 90 = .ok (.ireturn, 1) := by decide +kernel
theorem dX10_stepCost_0 : decode cX10_stepCost 0 = .ok (.iload_n 1, 1) := by decide +kernel
theorem dX10_stepCost_1 : decode cX10_stepCost 1 = .ok (.bipush 6, 2) := by decide +kernel
theorem dX10_stepCost_3 : decode cX10_stepCost 3 = .ok (.idiv, 1) := by decide +kernel
theorem dX10_stepCost_4 : decode cX10_stepCost 4 = .ok (.iload_n 2, 1) := by decide +kernel
theorem dX10_stepCost_5 : decode cX10_stepCost 5 = .ok (.bipush 6, 2) := by decide +kernel
theorem dX10_stepCost_7 : decode cX10_stepCost 7 = .ok (.idiv, 1) := by decide +kernel
theorem dX10_stepCost_8 : decode cX10_stepCost 8 = .ok (.isub, 1) := by decide +kernel
theorem dX10_stepCost_9 : decode cX10_stepCost 9 = .ok (.istore_n 3, 1) := by decide +kernel
theorem dX10_stepCost_10 : decode cX10_stepCost 10 = .ok (.iload_n 1, 1) := by decide +kernel
theorem dX10_stepCost_11 : decode cX10_stepCost 11 = .ok (.bipush 6, 2) := by decide +kernel
theorem dX10_stepCost_13 : decode cX10_stepCost 13 = .ok (.irem, 1) := by decide +kernel
theorem dX10_stepCost_14 : decode cX10_stepCost 14 = .ok (.iload_n 2, 1) := by decide +kernel
theorem dX10_stepCost_15 : decode cX10_stepCost 15 = .ok (.bipush 6, 2) := by decide +kernel
theorem dX10_stepCost_17 : decode cX10_stepCost 17 = .ok (.irem, 1) := by decide +kernel
theorem dX10_stepCost_18 : decode cX10_stepCost 18 = .ok (.isub, 1) := by decide +kernel
theorem dX10_stepCost_19 : decode cX10_stepCost 19 = .ok (.istore 4, 2) := by decide +kernel
theorem dX10_stepCost_21 : decode cX10_stepCost 21 = .ok (.iload_n 3, 1) := by decide +kernel
theorem dX10_stepCost_22 : decode cX10_stepCost 22 = .ok (.ifCond .ne 7, 3) := by decide +kernel
theorem dX10_stepCost_25 : decode cX10_stepCost 25 = .ok (.iconst 1, 1) := by decide +kernel
theorem dX10_stepCost_26 : decode cX10_stepCost 26 = .ok (.goto 4, 3) := by decide +kernel
theorem dX10_stepCost_29 : decode cX10_stepCost 29 = .ok (.iconst 0, 1) := by decide +kernel
theorem dX10_stepCost_30 : decode cX10_stepCost 30 = .ok (.iload 4, 2) := by decide +kernel
theorem dX10_stepCost_32 : decode cX10_stepCost 32 = .ok (.ifCond .ne 7, 3) := by decide +kernel
theorem dX10_stepCost_35 : decode cX10_stepCost 35 = .ok (.iconst 1, 1) := by decide +kernel
theorem dX10_stepCost_36 : decode cX10_stepCost 36 = .ok (.goto 4, 3) := by decide +kernel
theorem dX10_stepCost_39 : decode cX10_stepCost 39 = .ok (.iconst 0, 1) := by decide +kernel
theorem dX10_stepCost_40 : decode cX10_stepCost 40 = .ok (.if_icmp .eq 7, 3) := by decide +kernel
theorem dX10_stepCost_43 : decode cX10_stepCost 43 = .ok (.iconst 1, 1) := by decide +kernel
theorem dX10_stepCost_44 : decode cX10_stepCost 44 = .ok (.goto 4, 3) := by decide +kernel
theorem dX10_stepCost_47 : decode cX10_stepCost 47 = .ok (.iconst 0, 1) := by decide +kernel
theorem dX10_stepCost_48 : decode cX10_stepCost 48 = .ok (.istore 5, 2) := by decide +kernel
theorem dX10_stepCost_50 : decode cX10_stepCost 50 = .ok (.iload 5, 2) := by decide +kernel
theorem dX10_stepCost_52 : decode cX10_stepCost 52 = .ok (.ifCond .eq 40, 3) := by decide +kernel
theorem dX10_stepCost_55 : decode cX10_stepCost 55 = .ok (.aload_n 0, 1) := by decide +kernel
theorem dX10_stepCost_56 : decode cX10_stepCost 56 = .ok (.iconst 0, 1) := by decide +kernel
theorem dX10_stepCost_57 : decode cX10_stepCost 57 = .ok (.iload_n 3, 1) := by decide +kernel
theorem dX10_stepCost_58 : decode cX10_stepCost 58 = .ok (.ifCond .ge 8, 3) := by decide +kernel
theorem dX10_stepCost_61 : decode cX10_stepCost 61 = .ok (.iload_n 3, 1) := by decide +kernel
theorem dX10_stepCost_62 : decode cX10_stepCost 62 = .ok (.ineg, 1) := by decide +kernel
theorem dX10_stepCost_63 : decode cX10_stepCost 63 = .ok (.goto 4, 3) := by decide +kernel
theorem dX10_stepCost_66 : decode cX10_stepCost 66 = .ok (.iload_n 3, 1) := by decide +kernel
theorem dX10_stepCost_67 : decode cX10_stepCost 67 = .ok (.iload 4, 2) := by decide +kernel
theorem dX10_stepCost_69 : decode cX10_stepCost 69 = .ok (.ifCond .ge 9, 3) := by decide +kernel
theorem dX10_stepCost_72 : decode cX10_stepCost 72 = .ok (.iload 4, 2) := by decide +kernel
theorem dX10_stepCost_74 : decode cX10_stepCost 74 = .ok (.ineg, 1) := by decide +kernel
theorem dX10_stepCost_75 : decode cX10_stepCost 75 = .ok (.goto 5, 3) := by decide +kernel
theorem dX10_stepCost_78 : decode cX10_stepCost 78 = .ok (.iload 4, 2) := by decide +kernel
theorem dX10_stepCost_80 : decode cX10_stepCost 80 = .ok (.aload_n 0, 1) := by decide +kernel
theorem dX10_stepCost_81 : decode cX10_stepCost 81 = .ok (.getfield 9, 3) := by decide +kernel
theorem dX10_stepCost_84 : decode cX10_stepCost 84 = .ok (.iconst 3, 1) := by decide +kernel
theorem dX10_stepCost_85 : decode cX10_stepCost 85 = .ok (.iaload, 1) := by decide +kernel
theorem dX10_stepCost_86 : decode cX10_stepCost 86 = .ok (.invokevirtual 80, 3) := by decide +kernel
theorem dX10_stepCost_89 : decode cX10_stepCost 89 = .ok (.goto 4, 3) := by decide +kernel
theorem dX10_stepCost_92 : decode cX10_stepCost 92 = .ok (.iconst (-1), 1) := by decide +kernel
theorem dX10_stepCost_93 : decode cX10_stepCost 93 = .ok (.ireturn, 1) := by decide +kernel
theorem dX10_findCosts_0 : decode cX10_findCosts 0 = .ok (.iconst 0, 1) := by decide +kernel
theorem dX10_findCosts_1 : decode cX10_findCosts 1 = .ok (.istore_n 2, 1) := by decide +kernel
theorem dX10_findCosts_2 : decode cX10_findCosts 2 = .ok (.iload_n 2, 1) := by decide +kernel
theorem dX10_findCosts_3 : decode cX10_findCosts 3 = .ok (.bipush 72, 2) := by decide +kernel
theorem dX10_findCosts_5 : decode cX10_findCosts 5 = .ok (.if_icmp .ge 27, 3) := by decide +kernel
theorem dX10_findCosts_8 : decode cX10_findCosts 8 = .ok (.aload_n 0, 1) := by decide +kernel
theorem dX10_findCosts_9 : decode cX10_findCosts 9 = .ok (.getfield 43, 3) := by decide +kernel
theorem dX10_findCosts_12 : decode cX10_findCosts 12 = .ok (.iload_n 2, 1) := by decide +kernel
theorem dX10_findCosts_13 : decode cX10_findCosts 13 = .ok (.iload_n 2, 1) := by decide +kernel
theorem dX10_findCosts_14 : decode cX10_findCosts 14 = .ok (.iload_n 1, 1) := by decide +kernel
theorem dX10_findCosts_15 : decode cX10_findCosts 15 = .ok (.if_icmp .ne 7, 3) := by decide +kernel
theorem dX10_findCosts_18 : decode cX10_findCosts 18 = .ok (.iconst 0, 1) := by decide +kernel
theorem dX10_findCosts_19 : decode cX10_findCosts 19 = .ok (.goto 6, 3) := by decide +kernel
theorem dX10_findCosts_22 : decode cX10_findCosts 22 = .ok (.sipush 9999, 3) := by decide +kernel
theorem dX10_findCosts_25 : decode cX10_findCosts 25 = .ok (.iastore, 1) := by decide +kernel
theorem dX10_findCosts_26 : decode cX10_findCosts 26 = .ok (.iinc 2 1, 3) := by decide +kernel
theorem dX10_findCosts_29 : decode cX10_findCosts 29 = .ok (.goto (-27), 3) := by decide +kernel
theorem dX10_findCosts_32 : decode cX10_findCosts 32 = .ok (.iconst 1, 1) := by decide +kernel
theorem dX10_findCosts_33 : decode cX10_findCosts 33 = .ok (.istore_n 2, 1) := by decide +kernel
theorem dX10_findCosts_34 : decode cX10_findCosts 34 = .ok (.iload_n 2, 1) := by decide +kernel
theorem dX10_findCosts_35 : decode cX10_findCosts 35 = .ok (.ifCond .eq 109, 3) := by decide +kernel
theorem dX10_findCosts_38 : decode cX10_findCosts 38 = .ok (.iconst 0, 1) := by decide +kernel
theorem dX10_findCosts_39 : decode cX10_findCosts 39 = .ok (.istore_n 2, 1) := by decide +kernel
theorem dX10_findCosts_40 : decode cX10_findCosts 40 = .ok (.iconst 0, 1) := by decide +kernel
theorem dX10_findCosts_41 : decode cX10_findCosts 41 = .ok (.istore_n 3, 1) := by decide +kernel
theorem dX10_findCosts_42 : decode cX10_findCosts 42 = .ok (.iload_n 3, 1) := by decide +kernel
theorem dX10_findCosts_43 : decode cX10_findCosts 43 = .ok (.bipush 72, 2) := by decide +kernel
theorem dX10_findCosts_45 : decode cX10_findCosts 45 = .ok (.if_icmp .ge 96, 3) := by decide +kernel
theorem dX10_findCosts_48 : decode cX10_findCosts 48 = .ok (.iconst 0, 1) := by decide +kernel
theorem dX10_findCosts_49 : decode cX10_findCosts 49 = .ok (.istore 4, 2) := by decide +kernel
theorem dX10_findCosts_51 : decode cX10_findCosts 51 = .ok (.iload 4, 2) := by decide +kernel
theorem dX10_findCosts_53 : decode cX10_findCosts 53 = .ok (.bipush 72, 2) := by decide +kernel
theorem dX10_findCosts_55 : decode cX10_findCosts 55 = .ok (.if_icmp .ge 80, 3) := by decide +kernel
theorem dX10_findCosts_58 : decode cX10_findCosts 58 = .ok (.aload_n 0, 1) := by decide +kernel
theorem dX10_findCosts_59 : decode cX10_findCosts 59 = .ok (.getfield 43, 3) := by decide +kernel
theorem dX10_findCosts_62 : decode cX10_findCosts 62 = .ok (.iload 4, 2) := by decide +kernel
theorem dX10_findCosts_64 : decode cX10_findCosts 64 = .ok (.iaload, 1) := by decide +kernel
theorem dX10_findCosts_65 : decode cX10_findCosts 65 = .ok (.aload_n 0, 1) := by decide +kernel
theorem dX10_findCosts_66 : decode cX10_findCosts 66 = .ok (.getfield 43, 3) := by decide +kernel
theorem dX10_findCosts_69 : decode cX10_findCosts 69 = .ok (.iload_n 3, 1) := by decide +kernel
theorem dX10_findCosts_70 : decode cX10_findCosts 70 = .ok (.iaload, 1) := by decide +kernel
theorem dX10_findCosts_71 : decode cX10_findCosts 71 = .ok (.if_icmp .ge 13, 3) := by decide +kernel
theorem dX10_findCosts_74 : decode cX10_findCosts 74 = .ok (.aload_n 0, 1) := by decide +kernel
theorem dX10_findCosts_75 : decode cX10_findCosts 75 = .ok (.iload_n 3, 1) := by decide +kernel
theorem dX10_findCosts_76 : decode cX10_findCosts 76 = .ok (.iload 4, 2) := by decide +kernel
theorem dX10_findCosts_78 : decode cX10_findCosts 78 = .ok (.invokevirtual 212, 3) := by decide +kernel
theorem dX10_findCosts_81 : decode cX10_findCosts 81 = .ok (.goto 4, 3) := by decide +kernel
theorem dX10_findCosts_84 : decode cX10_findCosts 84 = .ok (.iconst (-1), 1) := by decide +kernel
theorem dX10_findCosts_85 : decode cX10_findCosts 85 = .ok (.istore 5, 2) := by decide +kernel
theorem dX10_findCosts_87 : decode cX10_findCosts 87 = .ok (.iload 5, 2) := by decide +kernel
theorem dX10_findCosts_89 : decode cX10_findCosts 89 = .ok (.ifCond .le 40, 3) := by decide +kernel
theorem dX10_findCosts_92 : decode cX10_findCosts 92 = .ok (.aload_n 0, 1) := by decide +kernel
theorem dX10_findCosts_93 : decode cX10_findCosts 93 = .ok (.getfield 43, 3) := by decide +kernel
theorem dX10_findCosts_96 : decode cX10_findCosts 96 = .ok (.iload 4, 2) := by decide +kernel
theorem dX10_findCosts_98 : decode cX10_findCosts 98 = .ok (.iaload, 1) := by decide +kernel
theorem dX10_findCosts_99 : decode cX10_findCosts 99 = .ok (.iload 5, 2) := by decide +kernel
theorem dX10_findCosts_101 : decode cX10_findCosts 101 = .ok (.iadd, 1) := by decide +kernel
theorem dX10_findCosts_102 : decode cX10_findCosts 102 = .ok (.aload_n 0, 1) := by decide +kernel
theorem dX10_findCosts_103 : decode cX10_findCosts 103 = .ok (.getfield 43, 3) := by decide +kernel
theorem dX10_findCosts_106 : decode cX10_findCosts 106 = .ok (.iload_n 3, 1) := by decide +kernel
theorem dX10_findCosts_107 : decode cX10_findCosts 107 = .ok (.iaload, 1) := by decide +kernel
theorem dX10_findCosts_108 : decode cX10_findCosts 108 = .ok (.if_icmp .ge 21, 3) := by decide +kernel
theorem dX10_findCosts_111 : decode cX10_findCosts 111 = .ok (.aload_n 0, 1) := by decide +kernel
theorem dX10_findCosts_112 : decode cX10_findCosts 112 = .ok (.getfield 43, 3) := by decide +kernel
theorem dX10_findCosts_115 : decode cX10_findCosts 115 = .ok (.iload_n 3, 1) := by decide +kernel
theorem dX10_findCosts_116 : decode cX10_findCosts 116 = .ok (.aload_n 0, 1) := by decide +kernel
theorem dX10_findCosts_117 : decode cX10_findCosts 117 = .ok (.getfield 43, 3) := by decide +kernel
theorem dX10_findCosts_120 : decode cX10_findCosts 120 = .ok (.iload 4, 2) := by decide +kernel
theorem dX10_findCosts_122 : decode cX10_findCosts 122 = .ok (.iaload, 1) := by decide +kernel
theorem dX10_findCosts_123 : decode cX10_findCosts 123 = .ok (.iload 5, 2) := by decide +kernel
theorem dX10_findCosts_125 : decode cX10_findCosts 125 = .ok (.iadd, 1) := by decide +kernel
theorem dX10_findCosts_126 : decode cX10_findCosts 126 = .ok (.iastore, 1) := by decide +kernel
theorem dX10_findCosts_127 : decode cX10_findCosts 127 = .ok (.iconst 1, 1) := by decide +kernel
theorem dX10_findCosts_128 : decode cX10_findCosts 128 = .ok (.istore_n 2, 1) := by decide +kernel
theorem dX10_findCosts_129 : decode cX10_findCosts 129 = .ok (.iinc 4 1, 3) := by decide +kernel
theorem dX10_findCosts_132 : decode cX10_findCosts 132 = .ok (.goto (-81), 3) := by decide +kernel
theorem dX10_findCosts_135 : decode cX10_findCosts 135 = .ok (.iinc 3 1, 3) := by decide +kernel
theorem dX10_findCosts_138 : decode cX10_findCosts 138 = .ok (.goto (-96), 3) := by decide +kernel
theorem dX10_findCosts_141 : decode cX10_findCosts 141 = .ok (.goto (-107), 3) := by decide +kernel
theorem dX10_findCosts_144 : decode cX10_findCosts 144 = .ok (.return_, 1) := by decide +kernel
theorem dX10_lastSeen_0 : decode cX10_lastSeen 0 = .ok (.aload_n 0, 1) := by decide +kernel
theorem dX10_lastSeen_1 : decode cX10_lastSeen 1 = .ok (.aload_n 0, 1) := by decide +kernel
theorem dX10_lastSeen_2 : decode cX10_lastSeen 2 = .ok (.getfield 9, 3) := by decide +kernel
theorem dX10_lastSeen_5 : decode cX10_lastSeen 5 = .ok (.iconst 2, 1) := by decide +kernel
theorem dX10_lastSeen_6 : decode cX10_lastSeen 6 = .ok (.iaload, 1) := by decide +kernel
theorem dX10_lastSeen_7 : decode cX10_lastSeen 7 = .ok (.invokevirtual 74, 3) := by decide +kernel
theorem dX10_lastSeen_10 : decode cX10_lastSeen 10 = .ok (.ireturn, 1) := by decide +kernel
theorem dX10_reply_0 : decode cX10_reply 0 = .ok (.iload_n 1, 1) := by decide +kernel
theorem dX10_reply_1 : decode cX10_reply 1 = .ok (.invokestatic 91, 3) := by decide +kernel
theorem dX10_reply_4 : decode cX10_reply 4 = .ok (.ifCond .eq 12, 3) := by decide +kernel
theorem dX10_reply_7 : decode cX10_reply 7 = .ok (.iload_n 2, 1) := by decide +kernel
theorem dX10_reply_8 : decode cX10_reply 8 = .ok (.iconst 0, 1) := by decide +kernel
theorem dX10_reply_9 : decode cX10_reply 9 = .ok (.iconst 1, 1) := by decide +kernel
theorem dX10_reply_10 : decode cX10_reply 10 = .ok (.invokestatic 54, 3) := by decide +kernel
theorem dX10_reply_13 : decode cX10_reply 13 = .ok (.ifCond .ne 10, 3) := by decide +kernel
theorem dX10_reply_16 : decode cX10_reply 16 = .ok (.aload_n 0, 1) := by decide +kernel
theorem dX10_reply_17 : decode cX10_reply 17 = .ok (.ldc 94, 2) := by decide +kernel
theorem dX10_reply_19 : decode cX10_reply 19 = .ok (.invokevirtual 95, 3) := by decide +kernel
theorem dX10_reply_22 : decode cX10_reply 22 = .ok (.ireturn, 1) := by decide +kernel
theorem dX10_reply_23 : decode cX10_reply 23 = .ok (.aload_n 0, 1) := by decide +kernel
theorem dX10_reply_24 : decode cX10_reply 24 = .ok (.invokevirtual 215, 3) := by decide +kernel
theorem dX10_reply_27 : decode cX10_reply 27 = .ok (.istore_n 3, 1) := by decide +kernel
theorem dX10_reply_28 : decode cX10_reply 28 = .ok (.iload_n 3, 1) := by decide +kernel
theorem dX10_reply_29 : decode cX10_reply 29 = .ok (.ifCond .ge 10, 3) := by decide +kernel
theorem dX10_reply_32 : decode cX10_reply 32 = .ok (.aload_n 0, 1) := by decide +kernel
theorem dX10_reply_33 : decode cX10_reply 33 = .ok (.ldc 180, 2) := by decide +kernel
theorem dX10_reply_35 : decode cX10_reply 35 = .ok (.invokevirtual 95, 3) := by decide +kernel
theorem dX10_reply_38 : decode cX10_reply 38 = .ok (.ireturn, 1) := by decide +kernel
theorem dX10_reply_39 : decode cX10_reply 39 = .ok (.bipush 6, 2) := by decide +kernel
theorem dX10_reply_41 : decode cX10_reply 41 = .ok (.aload_n 0, 1) := by decide +kernel
theorem dX10_reply_42 : decode cX10_reply 42 = .ok (.iload_n 3, 1) := by decide +kernel
theorem dX10_reply_43 : decode cX10_reply 43 = .ok (.iconst 2, 1) := by decide +kernel
theorem dX10_reply_44 : decode cX10_reply 44 = .ok (.invokevirtual 58, 3) := by decide +kernel
theorem dX10_reply_47 : decode cX10_reply 47 = .ok (.iconst 1, 1) := by decide +kernel
theorem dX10_reply_48 : decode cX10_reply 48 = .ok (.isub, 1) := by decide +kernel
theorem dX10_reply_49 : decode cX10_reply 49 = .ok (.imul, 1) := by decide +kernel
theorem dX10_reply_50 : decode cX10_reply 50 = .ok (.aload_n 0, 1) := by decide +kernel
theorem dX10_reply_51 : decode cX10_reply 51 = .ok (.iload_n 3, 1) := by decide +kernel
theorem dX10_reply_52 : decode cX10_reply 52 = .ok (.iconst 3, 1) := by decide +kernel
theorem dX10_reply_53 : decode cX10_reply 53 = .ok (.invokevirtual 58, 3) := by decide +kernel
theorem dX10_reply_56 : decode cX10_reply 56 = .ok (.iadd, 1) := by decide +kernel
theorem dX10_reply_57 : decode cX10_reply 57 = .ok (.istore 4, 2) := by decide +kernel
theorem dX10_reply_59 : decode cX10_reply 59 = .ok (.aload_n 0, 1) := by decide +kernel
theorem dX10_reply_60 : decode cX10_reply 60 = .ok (.bipush 6, 2) := by decide +kernel
theorem dX10_reply_62 : decode cX10_reply 62 = .ok (.iload_n 1, 1) := by decide +kernel
theorem dX10_reply_63 : decode cX10_reply 63 = .ok (.bipush 10, 2) := by decide +kernel
theorem dX10_reply_65 : decode cX10_reply 65 = .ok (.idiv, 1) := by decide +kernel
theorem dX10_reply_66 : decode cX10_reply 66 = .ok (.iconst 1, 1) := by decide +kernel
theorem dX10_reply_67 : decode cX10_reply 67 = .ok (.isub, 1) := by decide +kernel
theorem dX10_reply_68 : decode cX10_reply 68 = .ok (.imul, 1) := by decide +kernel
theorem dX10_reply_69 : decode cX10_reply 69 = .ok (.iload_n 1, 1) := by decide +kernel
theorem dX10_reply_70 : decode cX10_reply 70 = .ok (.bipush 10, 2) := by decide +kernel
theorem dX10_reply_72 : decode cX10_reply 72 = .ok (.irem, 1) := by decide +kernel
theorem dX10_reply_73 : decode cX10_reply 73 = .ok (.iadd, 1) := by decide +kernel
theorem dX10_reply_74 : decode cX10_reply 74 = .ok (.invokevirtual 218, 3) := by decide +kernel
theorem dX10_reply_77 : decode cX10_reply 77 = .ok (.iload_n 2, 1) := by decide +kernel
theorem dX10_reply_78 : decode cX10_reply 78 = .ok (.ifCond .ne 11, 3) := by decide +kernel
theorem dX10_reply_81 : decode cX10_reply 81 = .ok (.aload_n 0, 1) := by decide +kernel
theorem dX10_reply_82 : decode cX10_reply 82 = .ok (.getfield 43, 3) := by decide +kernel
theorem dX10_reply_85 : decode cX10_reply 85 = .ok (.iload 4, 2) := by decide +kernel
theorem dX10_reply_87 : decode cX10_reply 87 = .ok (.iaload, 1) := by decide +kernel
theorem dX10_reply_88 : decode cX10_reply 88 = .ok (.ireturn, 1) := by decide +kernel
theorem dX10_reply_89 : decode cX10_reply 89 = .ok (.iconst 0, 1) := by decide +kernel
theorem dX10_reply_90 : decode cX10_reply 90 = .ok (.istore 5, 2) := by decide +kernel
theorem dX10_reply_92 : decode cX10_reply 92 = .ok (.iload 5, 2) := by decide +kernel
theorem dX10_reply_94 : decode cX10_reply 94 = .ok (.bipush 72, 2) := by decide +kernel
theorem dX10_reply_96 : decode cX10_reply 96 = .ok (.if_icmp .ge 71, 3) := by decide +kernel
theorem dX10_reply_99 : decode cX10_reply 99 = .ok (.aload_n 0, 1) := by decide +kernel
theorem dX10_reply_100 : decode cX10_reply 100 = .ok (.getfield 43, 3) := by decide +kernel
theorem dX10_reply_103 : decode cX10_reply 103 = .ok (.iload 4, 2) := by decide +kernel
theorem dX10_reply_105 : decode cX10_reply 105 = .ok (.iaload, 1) := by decide +kernel
theorem dX10_reply_106 : decode cX10_reply 106 = .ok (.ifCond .le 61, 3) := by decide +kernel
theorem dX10_reply_109 : decode cX10_reply 109 = .ok (.aload_n 0, 1) := by decide +kernel
theorem dX10_reply_110 : decode cX10_reply 110 = .ok (.iload 4, 2) := by decide +kernel
theorem dX10_reply_112 : decode cX10_reply 112 = .ok (.iload 5, 2) := by decide +kernel
theorem dX10_reply_114 : decode cX10_reply 114 = .ok (.invokevirtual 212, 3) := by decide +kernel
theorem dX10_reply_117 : decode cX10_reply 117 = .ok (.istore 6, 2) := by decide +kernel
theorem dX10_reply_119 : decode cX10_reply 119 = .ok (.iload 6, 2) := by decide +kernel
theorem dX10_reply_121 : decode cX10_reply 121 = .ok (.ifCond .le 40, 3) := by decide +kernel
theorem dX10_reply_124 : decode cX10_reply 124 = .ok (.aload_n 0, 1) := by decide +kernel
theorem dX10_reply_125 : decode cX10_reply 125 = .ok (.getfield 43, 3) := by decide +kernel
theorem dX10_reply_128 : decode cX10_reply 128 = .ok (.iload 5, 2) := by decide +kernel
theorem dX10_reply_130 : decode cX10_reply 130 = .ok (.iaload, 1) := by decide +kernel
theorem dX10_reply_131 : decode cX10_reply 131 = .ok (.iload 6, 2) := by decide +kernel
theorem dX10_reply_133 : decode cX10_reply 133 = .ok (.iadd, 1) := by decide +kernel
theorem dX10_reply_134 : decode cX10_reply 134 = .ok (.aload_n 0, 1) := by decide +kernel
theorem dX10_reply_135 : decode cX10_reply 135 = .ok (.getfield 43, 3) := by decide +kernel
theorem dX10_reply_138 : decode cX10_reply 138 = .ok (.iload 4, 2) := by decide +kernel
theorem dX10_reply_140 : decode cX10_reply 140 = .ok (.iaload, 1) := by decide +kernel
theorem dX10_reply_141 : decode cX10_reply 141 = .ok (.if_icmp .ne 20, 3) := by decide +kernel
theorem dX10_reply_144 : decode cX10_reply 144 = .ok (.bipush 10, 2) := by decide +kernel
theorem dX10_reply_146 : decode cX10_reply 146 = .ok (.iconst 1, 1) := by decide +kernel
theorem dX10_reply_147 : decode cX10_reply 147 = .ok (.iload 5, 2) := by decide +kernel
theorem dX10_reply_149 : decode cX10_reply 149 = .ok (.bipush 6, 2) := by decide +kernel
theorem dX10_reply_151 : decode cX10_reply 151 = .ok (.idiv, 1) := by decide +kernel
theorem dX10_reply_152 : decode cX10_reply 152 = .ok (.iadd, 1) := by decide +kernel
theorem dX10_reply_153 : decode cX10_reply 153 = .ok (.imul, 1) := by decide +kernel
theorem dX10_reply_154 : decode cX10_reply 154 = .ok (.iload 5, 2) := by decide +kernel
theorem dX10_reply_156 : decode cX10_reply 156 = .ok (.bipush 6, 2) := by decide +kernel
theorem dX10_reply_158 : decode cX10_reply 158 = .ok (.irem, 1) := by decide +kernel
theorem dX10_reply_159 : decode cX10_reply 159 = .ok (.iadd, 1) := by decide +kernel
theorem dX10_reply_160 : decode cX10_reply 160 = .ok (.ireturn, 1) := by decide +kernel
theorem dX10_reply_161 : decode cX10_reply 161 = .ok (.iinc 5 1, 3) := by decide +kernel
theorem dX10_reply_164 : decode cX10_reply 164 = .ok (.goto (-72), 3) := by decide +kernel
theorem dX10_reply_167 : decode cX10_reply 167 = .ok (.iconst (-1), 1) := by decide +kernel
theorem dX10_reply_168 : decode cX10_reply 168 = .ok (.ireturn, 1) := by decide +kernel
theorem dX10_odds_0 : decode cX10_odds 0 = .ok (.iload_n 1, 1) := by decide +kernel
theorem dX10_odds_1 : decode cX10_odds 1 = .ok (.invokestatic 88, 3) := by decide +kernel
theorem dX10_odds_4 : decode cX10_odds 4 = .ok (.ifCond .eq 21, 3) := by decide +kernel
theorem dX10_odds_7 : decode cX10_odds 7 = .ok (.iload_n 2, 1) := by decide +kernel
theorem dX10_odds_8 : decode cX10_odds 8 = .ok (.iconst 0, 1) := by decide +kernel
theorem dX10_odds_9 : decode cX10_odds 9 = .ok (.iconst 5, 1) := by decide +kernel
theorem dX10_odds_10 : decode cX10_odds 10 = .ok (.invokestatic 54, 3) := by decide +kernel
theorem dX10_odds_13 : decode cX10_odds 13 = .ok (.ifCond .eq 12, 3) := by decide +kernel
theorem dX10_odds_16 : decode cX10_odds 16 = .ok (.iload_n 3, 1) := by decide +kernel
theorem dX10_odds_17 : decode cX10_odds 17 = .ok (.iconst 0, 1) := by decide +kernel
theorem dX10_odds_18 : decode cX10_odds 18 = .ok (.iconst 1, 1) := by decide +kernel
theorem dX10_odds_19 : decode cX10_odds 19 = .ok (.invokestatic 54, 3) := by decide +kernel
theorem dX10_odds_22 : decode cX10_odds 22 = .ok (.ifCond .ne 10, 3) := by decide +kernel
theorem dX10_odds_25 : decode cX10_odds 25 = .ok (.aload_n 0, 1) := by decide +kernel
theorem dX10_odds_26 : decode cX10_odds 26 = .ok (.ldc 94, 2) := by decide +kernel
theorem dX10_odds_28 : decode cX10_odds 28 = .ok (.invokevirtual 95, 3) := by decide +kernel
theorem dX10_odds_31 : decode cX10_odds 31 = .ok (.ireturn, 1) := by decide +kernel
theorem dX10_odds_32 : decode cX10_odds 32 = .ok (.aload_n 0, 1) := by decide +kernel
theorem dX10_odds_33 : decode cX10_odds 33 = .ok (.invokevirtual 215, 3) := by decide +kernel
theorem dX10_odds_36 : decode cX10_odds 36 = .ok (.istore 4, 2) := by decide +kernel
theorem dX10_odds_38 : decode cX10_odds 38 = .ok (.iload 4, 2) := by decide +kernel
theorem dX10_odds_40 : decode cX10_odds 40 = .ok (.ifCond .lt 14, 3) := by decide +kernel
theorem dX10_odds_43 : decode cX10_odds 43 = .ok (.aload_n 0, 1) := by decide +kernel
theorem dX10_odds_44 : decode cX10_odds 44 = .ok (.getfield 9, 3) := by decide +kernel
theorem dX10_odds_47 : decode cX10_odds 47 = .ok (.iconst 2, 1) := by decide +kernel
theorem dX10_odds_48 : decode cX10_odds 48 = .ok (.iaload, 1) := by decide +kernel
theorem dX10_odds_49 : decode cX10_odds 49 = .ok (.bipush 12, 2) := by decide +kernel
theorem dX10_odds_51 : decode cX10_odds 51 = .ok (.if_icmp .ne 10, 3) := by decide +kernel
theorem dX10_odds_54 : decode cX10_odds 54 = .ok (.aload_n 0, 1) := by decide +kernel
theorem dX10_odds_55 : decode cX10_odds 55 = .ok (.ldc 180, 2) := by decide +kernel
theorem dX10_odds_57 : decode cX10_odds 57 = .ok (.invokevirtual 95, 3) := by decide +kernel
theorem dX10_odds_60 : decode cX10_odds 60 = .ok (.ireturn, 1) := by decide +kernel
theorem dX10_odds_61 : decode cX10_odds 61 = .ok (.iconst 0, 1) := by decide +kernel
theorem dX10_odds_62 : decode cX10_odds 62 = .ok (.istore 5, 2) := by decide +kernel
theorem dX10_odds_64 : decode cX10_odds 64 = .ok (.iconst 0, 1) := by decide +kernel
theorem dX10_odds_65 : decode cX10_odds 65 = .ok (.istore 6, 2) := by decide +kernel
theorem dX10_odds_67 : decode cX10_odds 67 = .ok (.iload 6, 2) := by decide +kernel
theorem dX10_odds_69 : decode cX10_odds 69 = .ok (.bipush 72, 2) := by decide +kernel
theorem dX10_odds_71 : decode cX10_odds 71 = .ok (.if_icmp .ge 60, 3) := by decide +kernel
theorem dX10_odds_74 : decode cX10_odds 74 = .ok (.aload_n 0, 1) := by decide +kernel
theorem dX10_odds_75 : decode cX10_odds 75 = .ok (.iload_n 1, 1) := by decide +kernel
theorem dX10_odds_76 : decode cX10_odds 76 = .ok (.iconst 1, 1) := by decide +kernel
theorem dX10_odds_77 : decode cX10_odds 77 = .ok (.iload 6, 2) := by decide +kernel
theorem dX10_odds_79 : decode cX10_odds 79 = .ok (.bipush 6, 2) := by decide +kernel
theorem dX10_odds_81 : decode cX10_odds 81 = .ok (.idiv, 1) := by decide +kernel
theorem dX10_odds_82 : decode cX10_odds 82 = .ok (.iadd, 1) := by decide +kernel
theorem dX10_odds_83 : decode cX10_odds 83 = .ok (.iload 6, 2) := by decide +kernel
theorem dX10_odds_85 : decode cX10_odds 85 = .ok (.bipush 6, 2) := by decide +kernel
theorem dX10_odds_87 : decode cX10_odds 87 = .ok (.irem, 1) := by decide +kernel
theorem dX10_odds_88 : decode cX10_odds 88 = .ok (.iload_n 2, 1) := by decide +kernel
theorem dX10_odds_89 : decode cX10_odds 89 = .ok (.invokevirtual 99, 3) := by decide +kernel
theorem dX10_odds_92 : decode cX10_odds 92 = .ok (.istore 7, 2) := by decide +kernel
theorem dX10_odds_94 : decode cX10_odds 94 = .ok (.iload 5, 2) := by decide +kernel
theorem dX10_odds_96 : decode cX10_odds 96 = .ok (.aload_n 0, 1) := by decide +kernel
theorem dX10_odds_97 : decode cX10_odds 97 = .ok (.iload 7, 2) := by decide +kernel
theorem dX10_odds_99 : decode cX10_odds 99 = .ok (.iload 4, 2) := by decide +kernel
theorem dX10_odds_101 : decode cX10_odds 101 = .ok (.invokevirtual 70, 3) := by decide +kernel
theorem dX10_odds_104 : decode cX10_odds 104 = .ok (.ifCond .eq 7, 3) := by decide +kernel
theorem dX10_odds_107 : decode cX10_odds 107 = .ok (.iconst 1, 1) := by decide +kernel
theorem dX10_odds_108 : decode cX10_odds 108 = .ok (.goto 4, 3) := by decide +kernel
theorem dX10_odds_111 : decode cX10_odds 111 = .ok (.iconst 0, 1) := by decide +kernel
theorem dX10_odds_112 : decode cX10_odds 112 = .ok (.iadd, 1) := by decide +kernel
theorem dX10_odds_113 : decode cX10_odds 113 = .ok (.istore 5, 2) := by decide +kernel
theorem dX10_odds_115 : decode cX10_odds 115 = .ok (.aload_n 0, 1) := by decide +kernel
theorem dX10_odds_116 : decode cX10_odds 116 = .ok (.getfield 9, 3) := by decide +kernel
theorem dX10_odds_119 : decode cX10_odds 119 = .ok (.iconst 2, 1) := by decide +kernel
theorem dX10_odds_120 : decode cX10_odds 120 = .ok (.dup2, 1) := by decide +kernel
theorem dX10_odds_121 : decode cX10_odds 121 = .ok (.iaload, 1) := by decide +kernel
theorem dX10_odds_122 : decode cX10_odds 122 = .ok (.iconst 1, 1) := by decide +kernel
theorem dX10_odds_123 : decode cX10_odds 123 = .ok (.isub, 1) := by decide +kernel
theorem dX10_odds_124 : decode cX10_odds 124 = .ok (.iastore, 1) := by decide +kernel
theorem dX10_odds_125 : decode cX10_odds 125 = .ok (.iinc 6 1, 3) := by decide +kernel
theorem dX10_odds_128 : decode cX10_odds 128 = .ok (.goto (-61), 3) := by decide +kernel
theorem dX10_odds_131 : decode cX10_odds 131 = .ok (.bipush 72, 2) := by decide +kernel
theorem dX10_odds_133 : decode cX10_odds 133 = .ok (.istore 6, 2) := by decide +kernel
theorem dX10_odds_135 : decode cX10_odds 135 = .ok (.bipush 72, 2) := by decide +kernel
theorem dX10_odds_137 : decode cX10_odds 137 = .ok (.istore 7, 2) := by decide +kernel
theorem dX10_odds_139 : decode cX10_odds 139 = .ok (.iload 7, 2) := by decide +kernel
theorem dX10_odds_141 : decode cX10_odds 141 = .ok (.iconst 1, 1) := by decide +kernel
theorem dX10_odds_142 : decode cX10_odds 142 = .ok (.if_icmp .le 39, 3) := by decide +kernel
theorem dX10_odds_145 : decode cX10_odds 145 = .ok (.iload 5, 2) := by decide +kernel
theorem dX10_odds_147 : decode cX10_odds 147 = .ok (.iload 7, 2) := by decide +kernel
theorem dX10_odds_149 : decode cX10_odds 149 = .ok (.irem, 1) := by decide +kernel
theorem dX10_odds_150 : decode cX10_odds 150 = .ok (.ifCond .ne 25, 3) := by decide +kernel
theorem dX10_odds_153 : decode cX10_odds 153 = .ok (.iload 6, 2) := by decide +kernel
theorem dX10_odds_155 : decode cX10_odds 155 = .ok (.iload 7, 2) := by decide +kernel
theorem dX10_odds_157 : decode cX10_odds 157 = .ok (.irem, 1) := by decide +kernel
theorem dX10_odds_158 : decode cX10_odds 158 = .ok (.ifCond .ne 17, 3) := by decide +kernel
theorem dX10_odds_161 : decode cX10_odds 161 = .ok (.iload 5, 2) := by decide +kernel
theorem dX10_odds_163 : decode cX10_odds 163 = .ok (.iload 7, 2) := by decide +kernel
theorem dX10_odds_165 : decode cX10_odds 165 = .ok (.idiv, 1) := by decide +kernel
theorem dX10_odds_166 : decode cX10_odds 166 = .ok (.istore 5, 2) := by decide +kernel
theorem dX10_odds_168 : decode cX10_odds 168 = .ok (.iload 6, 2) := by decide +kernel
theorem dX10_odds_170 : decode cX10_odds 170 = .ok (.iload 7, 2) := by decide +kernel
theorem dX10_odds_172 : decode cX10_odds 172 = .ok (.idiv, 1) := by decide +kernel
theorem dX10_odds_173 : decode cX10_odds 173 = .ok (.istore 6, 2) := by decide +kernel
theorem dX10_odds_175 : decode cX10_odds 175 = .ok (.iinc 7 (-1), 3) := by decide +kernel
theorem dX10_odds_178 : decode cX10_odds 178 = .ok (.goto (-39), 3) := by decide +kernel
theorem dX10_odds_181 : decode cX10_odds 181 = .ok (.iload_n 3, 1) := by decide +kernel
theorem dX10_odds_182 : decode cX10_odds 182 = .ok (.ifCond .ne 8, 3) := by decide +kernel
theorem dX10_odds_185 : decode cX10_odds 185 = .ok (.iload 5, 2) := by decide +kernel
theorem dX10_odds_187 : decode cX10_odds 187 = .ok (.goto 5, 3) := by decide +kernel
theorem dX10_odds_190 : decode cX10_odds 190 = .ok (.iload 6, 2) := by decide +kernel
theorem dX10_odds_192 : decode cX10_odds 192 = .ok (.ireturn, 1) := by decide +kernel
theorem dX10_isSo_0 : decode cX10_isSo 0 = .ok (.iconst 0, 1) := by decide +kernel
theorem dX10_isSo_1 : decode cX10_isSo 1 = .ok (.istore_n 2, 1) := by decide +kernel
theorem dX10_isSo_2 : decode cX10_isSo 2 = .ok (.iconst 1, 1) := by decide +kernel
theorem dX10_isSo_3 : decode cX10_isSo 3 = .ok (.istore_n 3, 1) := by decide +kernel
theorem dX10_isSo_4 : decode cX10_isSo 4 = .ok (.iconst 0, 1) := by decide +kernel
theorem dX10_isSo_5 : decode cX10_isSo 5 = .ok (.istore 4, 2) := by decide +kernel
theorem dX10_isSo_7 : decode cX10_isSo 7 = .ok (.iload 4, 2) := by decide +kernel
theorem dX10_isSo_9 : decode cX10_isSo 9 = .ok (.aload_n 0, 1) := by decide +kernel
theorem dX10_isSo_10 : decode cX10_isSo 10 = .ok (.getfield 9, 3) := by decide +kernel
theorem dX10_isSo_13 : decode cX10_isSo 13 = .ok (.iconst 2, 1) := by decide +kernel
theorem dX10_isSo_14 : decode cX10_isSo 14 = .ok (.iaload, 1) := by decide +kernel
theorem dX10_isSo_15 : decode cX10_isSo 15 = .ok (.if_icmp .ge 62, 3) := by decide +kernel
theorem dX10_isSo_18 : decode cX10_isSo 18 = .ok (.aload_n 0, 1) := by decide +kernel
theorem dX10_isSo_19 : decode cX10_isSo 19 = .ok (.iload 4, 2) := by decide +kernel
theorem dX10_isSo_21 : decode cX10_isSo 21 = .ok (.invokevirtual 62, 3) := by decide +kernel
theorem dX10_isSo_24 : decode cX10_isSo 24 = .ok (.ifCond .eq 47, 3) := by decide +kernel
theorem dX10_isSo_27 : decode cX10_isSo 27 = .ok (.iload_n 3, 1) := by decide +kernel
theorem dX10_isSo_28 : decode cX10_isSo 28 = .ok (.ifCond .eq 38, 3) := by decide +kernel
theorem dX10_isSo_31 : decode cX10_isSo 31 = .ok (.iload_n 2, 1) := by decide +kernel
theorem dX10_isSo_32 : decode cX10_isSo 32 = .ok (.aload_n 0, 1) := by decide +kernel
theorem dX10_isSo_33 : decode cX10_isSo 33 = .ok (.getfield 25, 3) := by decide +kernel
theorem dX10_isSo_36 : decode cX10_isSo 36 = .ok (.iload_n 1, 1) := by decide +kernel
theorem dX10_isSo_37 : decode cX10_isSo 37 = .ok (.iaload, 1) := by decide +kernel
theorem dX10_isSo_38 : decode cX10_isSo 38 = .ok (.if_icmp .ge 28, 3) := by decide +kernel
theorem dX10_isSo_41 : decode cX10_isSo 41 = .ok (.aload_n 0, 1) := by decide +kernel
theorem dX10_isSo_42 : decode cX10_isSo 42 = .ok (.getfield 28, 3) := by decide +kernel
theorem dX10_isSo_45 : decode cX10_isSo 45 = .ok (.bipush 24, 2) := by decide +kernel
theorem dX10_isSo_47 : decode cX10_isSo 47 = .ok (.iload_n 1, 1) := by decide +kernel
theorem dX10_isSo_48 : decode cX10_isSo 48 = .ok (.imul, 1) := by decide +kernel
theorem dX10_isSo_49 : decode cX10_isSo 49 = .ok (.iload_n 2, 1) := by decide +kernel
theorem dX10_isSo_50 : decode cX10_isSo 50 = .ok (.iadd, 1) := by decide +kernel
theorem dX10_isSo_51 : decode cX10_isSo 51 = .ok (.iaload, 1) := by decide +kernel
theorem dX10_isSo_52 : decode cX10_isSo 52 = .ok (.aload_n 0, 1) := by decide +kernel
theorem dX10_isSo_53 : decode cX10_isSo 53 = .ok (.iload 4, 2) := by decide +kernel
theorem dX10_isSo_55 : decode cX10_isSo 55 = .ok (.iconst 2, 1) := by decide +kernel
theorem dX10_isSo_56 : decode cX10_isSo 56 = .ok (.invokevirtual 58, 3) := by decide +kernel
theorem dX10_isSo_59 : decode cX10_isSo 59 = .ok (.if_icmp .ne 7, 3) := by decide +kernel
theorem dX10_isSo_62 : decode cX10_isSo 62 = .ok (.iconst 1, 1) := by decide +kernel
theorem dX10_isSo_63 : decode cX10_isSo 63 = .ok (.goto 4, 3) := by decide +kernel
theorem dX10_isSo_66 : decode cX10_isSo 66 = .ok (.iconst 0, 1) := by decide +kernel
theorem dX10_isSo_67 : decode cX10_isSo 67 = .ok (.istore_n 3, 1) := by decide +kernel
theorem dX10_isSo_68 : decode cX10_isSo 68 = .ok (.iinc 2 1, 3) := by decide +kernel
theorem dX10_isSo_71 : decode cX10_isSo 71 = .ok (.iinc 4 1, 3) := by decide +kernel
theorem dX10_isSo_74 : decode cX10_isSo 74 = .ok (.goto (-67), 3) := by decide +kernel
theorem dX10_isSo_77 : decode cX10_isSo 77 = .ok (.iload_n 3, 1) := by decide +kernel
theorem dX10_isSo_78 : decode cX10_isSo 78 = .ok (.ifCond .eq 17, 3) := by decide +kernel
theorem dX10_isSo_81 : decode cX10_isSo 81 = .ok (.iload_n 2, 1) := by decide +kernel
theorem dX10_isSo_82 : decode cX10_isSo 82 = .ok (.aload_n 0, 1) := by decide +kernel
theorem dX10_isSo_83 : decode cX10_isSo 83 = .ok (.getfield 25, 3) := by decide +kernel
theorem dX10_isSo_86 : decode cX10_isSo 86 = .ok (.iload_n 1, 1) := by decide +kernel
theorem dX10_isSo_87 : decode cX10_isSo 87 = .ok (.iaload, 1) := by decide +kernel
theorem dX10_isSo_88 : decode cX10_isSo 88 = .ok (.if_icmp .ne 7, 3) := by decide +kernel
theorem dX10_isSo_91 : decode cX10_isSo 91 = .ok (.iconst 1, 1) := by decide +kernel
theorem dX10_isSo_92 : decode cX10_isSo 92 = .ok (.goto 4, 3) := by decide +kernel
theorem dX10_isSo_95 : decode cX10_isSo 95 = .ok (.iconst 0, 1) := by decide +kernel
theorem dX10_isSo_96 : decode cX10_isSo 96 = .ok (.ireturn, 1) := by decide +kernel
theorem dX10_fits_0 : decode cX10_fits 0 = .ok (.aload_n 0, 1) := by decide +kernel
theorem dX10_fits_1 : decode cX10_fits 1 = .ok (.iload_n 1, 1) := by decide +kernel
theorem dX10_fits_2 : decode cX10_fits 2 = .ok (.invokevirtual 221, 3) := by decide +kernel
theorem dX10_fits_5 : decode cX10_fits 5 = .ok (.istore_n 2, 1) := by decide +kernel
theorem dX10_fits_6 : decode cX10_fits 6 = .ok (.iload_n 2, 1) := by decide +kernel
theorem dX10_fits_7 : decode cX10_fits 7 = .ok (.ifCond .eq 9, 3) := by decide +kernel
theorem dX10_fits_10 : decode cX10_fits 10 = .ok (.aload_n 0, 1) := by decide +kernel
theorem dX10_fits_11 : decode cX10_fits 11 = .ok (.iload_n 2, 1) := by decide +kernel
theorem dX10_fits_12 : decode cX10_fits 12 = .ok (.invokevirtual 95, 3) := by decide +kernel
theorem dX10_fits_15 : decode cX10_fits 15 = .ok (.ireturn, 1) := by decide +kernel
theorem dX10_fits_16 : decode cX10_fits 16 = .ok (.aload_n 0, 1) := by decide +kernel
theorem dX10_fits_17 : decode cX10_fits 17 = .ok (.invokevirtual 203, 3) := by decide +kernel
theorem dX10_fits_20 : decode cX10_fits 20 = .ok (.iconst 0, 1) := by decide +kernel
theorem dX10_fits_21 : decode cX10_fits 21 = .ok (.istore_n 3, 1) := by decide +kernel
theorem dX10_fits_22 : decode cX10_fits 22 = .ok (.iload_n 3, 1) := by decide +kernel
theorem dX10_fits_23 : decode cX10_fits 23 = .ok (.bipush 60, 2) := by decide +kernel
theorem dX10_fits_25 : decode cX10_fits 25 = .ok (.if_icmp .gt 21, 3) := by decide +kernel
theorem dX10_fits_28 : decode cX10_fits 28 = .ok (.aload_n 0, 1) := by decide +kernel
theorem dX10_fits_29 : decode cX10_fits 29 = .ok (.iload_n 1, 1) := by decide +kernel
theorem dX10_fits_30 : decode cX10_fits 30 = .ok (.invokevirtual 224, 3) := by decide +kernel
theorem dX10_fits_33 : decode cX10_fits 33 = .ok (.ifCond .ne 13, 3) := by decide +kernel
theorem dX10_fits_36 : decode cX10_fits 36 = .ok (.aload_n 0, 1) := by decide +kernel
theorem dX10_fits_37 : decode cX10_fits 37 = .ok (.invokevirtual 181, 3) := by decide +kernel
theorem dX10_fits_40 : decode cX10_fits 40 = .ok (.iinc 3 1, 3) := by decide +kernel
theorem dX10_fits_43 : decode cX10_fits 43 = .ok (.goto (-21), 3) := by decide +kernel
theorem dX10_fits_46 : decode cX10_fits 46 = .ok (.aload_n 0, 1) := by decide +kernel
theorem dX10_fits_47 : decode cX10_fits 47 = .ok (.invokevirtual 206, 3) := by decide +kernel
theorem dX10_fits_50 : decode cX10_fits 50 = .ok (.iload_n 3, 1) := by decide +kernel
theorem dX10_fits_51 : decode cX10_fits 51 = .ok (.bipush 60, 2) := by decide +kernel
theorem dX10_fits_53 : decode cX10_fits 53 = .ok (.if_icmp .le 12, 3) := by decide +kernel
theorem dX10_fits_56 : decode cX10_fits 56 = .ok (.aload_n 0, 1) := by decide +kernel
theorem dX10_fits_57 : decode cX10_fits 57 = .ok (.ldc 227, 2) := by decide +kernel
theorem dX10_fits_59 : decode cX10_fits 59 = .ok (.invokevirtual 95, 3) := by decide +kernel
theorem dX10_fits_62 : decode cX10_fits 62 = .ok (.goto 4, 3) := by decide +kernel
theorem dX10_fits_65 : decode cX10_fits 65 = .ok (.iload_n 3, 1) := by decide +kernel
theorem dX10_fits_66 : decode cX10_fits 66 = .ok (.ireturn, 1) := by decide +kernel
theorem dX10_begins_0 : decode cX10_begins 0 = .ok (.aload_n 0, 1) := by decide +kernel
theorem dX10_begins_1 : decode cX10_begins 1 = .ok (.getfield 228, 3) := by decide +kernel
theorem dX10_begins_4 : decode cX10_begins 4 = .ok (.bipush 30, 2) := by decide +kernel
theorem dX10_begins_6 : decode cX10_begins 6 = .ok (.if_icmp .ge 23, 3) := by decide +kernel
theorem dX10_begins_9 : decode cX10_begins 9 = .ok (.aload_n 0, 1) := by decide +kernel
theorem dX10_begins_10 : decode cX10_begins 10 = .ok (.getfield 46, 3) := by decide +kernel
theorem dX10_begins_13 : decode cX10_begins 13 = .ok (.aload_n 0, 1) := by decide +kernel
theorem dX10_begins_14 : decode cX10_begins 14 = .ok (.getfield 228, 3) := by decide +kernel
theorem dX10_begins_17 : decode cX10_begins 17 = .ok (.iload_n 1, 1) := by decide +kernel
theorem dX10_begins_18 : decode cX10_begins 18 = .ok (.iastore, 1) := by decide +kernel
theorem dX10_begins_19 : decode cX10_begins 19 = .ok (.aload_n 0, 1) := by decide +kernel
theorem dX10_begins_20 : decode cX10_begins 20 = .ok (.dup, 1) := by decide +kernel
theorem dX10_begins_21 : decode cX10_begins 21 = .ok (.getfield 228, 3) := by decide +kernel
theorem dX10_begins_24 : decode cX10_begins 24 = .ok (.iconst 1, 1) := by decide +kernel
theorem dX10_begins_25 : decode cX10_begins 25 = .ok (.iadd, 1) := by decide +kernel
theorem dX10_begins_26 : decode cX10_begins 26 = .ok (.putfield 228, 3) := by decide +kernel
theorem dX10_begins_29 : decode cX10_begins 29 = .ok (.return_, 1) := by decide +kernel
theorem dX10_plainSays_0 : decode cX10_plainSays 0 = .ok (.aload_n 0, 1) := by decide +kernel
theorem dX10_plainSays_1 : decode cX10_plainSays 1 = .ok (.bipush 10, 2) := by decide +kernel
theorem dX10_plainSays_3 : decode cX10_plainSays 3 = .ok (.invokevirtual 231, 3) := by decide +kernel
theorem dX10_plainSays_6 : decode cX10_plainSays 6 = .ok (.iload_n 2, 1) := by decide +kernel
theorem dX10_plainSays_7 : decode cX10_plainSays 7 = .ok (.iload_n 1, 1) := by decide +kernel
theorem dX10_plainSays_8 : decode cX10_plainSays 8 = .ok (.iadd, 1) := by decide +kernel
theorem dX10_plainSays_9 : decode cX10_plainSays 9 = .ok (.ireturn, 1) := by decide +kernel
theorem dX10_oathSays_0 : decode cX10_oathSays 0 = .ok (.aload_n 0, 1) := by decide +kernel
theorem dX10_oathSays_1 : decode cX10_oathSays 1 = .ok (.bipush 20, 2) := by decide +kernel
theorem dX10_oathSays_3 : decode cX10_oathSays 3 = .ok (.invokevirtual 231, 3) := by decide +kernel
theorem dX10_oathSays_6 : decode cX10_oathSays 6 = .ok (.aload_n 0, 1) := by decide +kernel
theorem dX10_oathSays_7 : decode cX10_oathSays 7 = .ok (.iload_n 1, 1) := by decide +kernel
theorem dX10_oathSays_8 : decode cX10_oathSays 8 = .ok (.iload_n 2, 1) := by decide +kernel
theorem dX10_oathSays_9 : decode cX10_oathSays 9 = .ok (.invokevirtual 234, 3) := by decide +kernel
theorem dX10_oathSays_12 : decode cX10_oathSays 12 = .ok (.iconst 4, 1) := by decide +kernel
theorem dX10_oathSays_13 : decode cX10_oathSays 13 = .ok (.isub, 1) := by decide +kernel
theorem dX10_oathSays_14 : decode cX10_oathSays 14 = .ok (.ireturn, 1) := by decide +kernel
theorem dX10_says_0 : decode cX10_says 0 = .ok (.aload_n 0, 1) := by decide +kernel
theorem dX10_says_1 : decode cX10_says 1 = .ok (.iload_n 1, 1) := by decide +kernel
theorem dX10_says_2 : decode cX10_says 2 = .ok (.iconst 0, 1) := by decide +kernel
theorem dX10_says_3 : decode cX10_says 3 = .ok (.invokevirtual 58, 3) := by decide +kernel
theorem dX10_says_6 : decode cX10_says 6 = .ok (.lookupswitch 65 #[(1, 34), (4, 41), (6, 56)], 34) := by decide +kernel
theorem dX10_says_40 : decode cX10_says 40 = .ok (.aload_n 0, 1) := by decide +kernel
theorem dX10_says_41 : decode cX10_says 41 = .ok (.iload_n 1, 1) := by decide +kernel
theorem dX10_says_42 : decode cX10_says 42 = .ok (.iload_n 2, 1) := by decide +kernel
theorem dX10_says_43 : decode cX10_says 43 = .ok (.invokevirtual 237, 3) := by decide +kernel
theorem dX10_says_46 : decode cX10_says 46 = .ok (.ireturn, 1) := by decide +kernel
theorem dX10_says_47 : decode cX10_says 47 = .ok (.aload_n 0, 1) := by decide +kernel
theorem dX10_says_48 : decode cX10_says 48 = .ok (.bipush 50, 2) := by decide +kernel
theorem dX10_says_50 : decode cX10_says 50 = .ok (.invokevirtual 231, 3) := by decide +kernel
theorem dX10_says_53 : decode cX10_says 53 = .ok (.aload_n 0, 1) := by decide +kernel
theorem dX10_says_54 : decode cX10_says 54 = .ok (.iload_n 1, 1) := by decide +kernel
theorem dX10_says_55 : decode cX10_says 55 = .ok (.iload_n 2, 1) := by decide +kernel
theorem dX10_says_56 : decode cX10_says 56 = .ok (.invokevirtual 237, 3) := by decide +kernel
theorem dX10_says_59 : decode cX10_says 59 = .ok (.iconst 3, 1) := by decide +kernel
theorem dX10_says_60 : decode cX10_says 60 = .ok (.imul, 1) := by decide +kernel
theorem dX10_says_61 : decode cX10_says 61 = .ok (.ireturn, 1) := by decide +kernel
theorem dX10_says_62 : decode cX10_says 62 = .ok (.aload_n 0, 1) := by decide +kernel
theorem dX10_says_63 : decode cX10_says 63 = .ok (.bipush 70, 2) := by decide +kernel
theorem dX10_says_65 : decode cX10_says 65 = .ok (.invokevirtual 231, 3) := by decide +kernel
theorem dX10_says_68 : decode cX10_says 68 = .ok (.bipush 9, 2) := by decide +kernel
theorem dX10_says_70 : decode cX10_says 70 = .ok (.ireturn, 1) := by decide +kernel
theorem dX10_says_71 : decode cX10_says 71 = .ok (.aload_n 0, 1) := by decide +kernel
theorem dX10_says_72 : decode cX10_says 72 = .ok (.iload_n 1, 1) := by decide +kernel
theorem dX10_says_73 : decode cX10_says 73 = .ok (.iload_n 2, 1) := by decide +kernel
theorem dX10_says_74 : decode cX10_says 74 = .ok (.invokevirtual 234, 3) := by decide +kernel
theorem dX10_says_77 : decode cX10_says 77 = .ok (.ireturn, 1) := by decide +kernel
theorem dX10_plainAsks_0 : decode cX10_plainAsks 0 = .ok (.aload_n 0, 1) := by decide +kernel
theorem dX10_plainAsks_1 : decode cX10_plainAsks 1 = .ok (.bipush 11, 2) := by decide +kernel
theorem dX10_plainAsks_3 : decode cX10_plainAsks 3 = .ok (.invokevirtual 231, 3) := by decide +kernel
theorem dX10_plainAsks_6 : decode cX10_plainAsks 6 = .ok (.aload_n 0, 1) := by decide +kernel
theorem dX10_plainAsks_7 : decode cX10_plainAsks 7 = .ok (.iload_n 1, 1) := by decide +kernel
theorem dX10_plainAsks_8 : decode cX10_plainAsks 8 = .ok (.iload_n 2, 1) := by decide +kernel
theorem dX10_plainAsks_9 : decode cX10_plainAsks 9 = .ok (.invokevirtual 240, 3) := by decide +kernel
theorem dX10_plainAsks_12 : decode cX10_plainAsks 12 = .ok (.iconst 2, 1) := by decide +kernel
theorem dX10_plainAsks_13 : decode cX10_plainAsks 13 = .ok (.imul, 1) := by decide +kernel
theorem dX10_plainAsks_14 : decode cX10_plainAsks 14 = .ok (.ireturn, 1) := by decide +kernel
theorem dX10_roundAsks_0 : decode cX10_roundAsks 0 = .ok (.aload_n 0, 1) := by decide +kernel
theorem dX10_roundAsks_1 : decode cX10_roundAsks 1 = .ok (.bipush 30, 2) := by decide +kernel
theorem dX10_roundAsks_3 : decode cX10_roundAsks 3 = .ok (.invokevirtual 231, 3) := by decide +kernel
theorem dX10_roundAsks_6 : decode cX10_roundAsks 6 = .ok (.aload_n 0, 1) := by decide +kernel
theorem dX10_roundAsks_7 : decode cX10_roundAsks 7 = .ok (.iload_n 1, 1) := by decide +kernel
theorem dX10_roundAsks_8 : decode cX10_roundAsks 8 = .ok (.iload_n 2, 1) := by decide +kernel
theorem dX10_roundAsks_9 : decode cX10_roundAsks 9 = .ok (.invokevirtual 243, 3) := by decide +kernel
theorem dX10_roundAsks_12 : decode cX10_roundAsks 12 = .ok (.ineg, 1) := by decide +kernel
theorem dX10_roundAsks_13 : decode cX10_roundAsks 13 = .ok (.ireturn, 1) := by decide +kernel
theorem dX10_asks_0 : decode cX10_asks 0 = .ok (.aload_n 0, 1) := by decide +kernel
theorem dX10_asks_1 : decode cX10_asks 1 = .ok (.iload_n 1, 1) := by decide +kernel
theorem dX10_asks_2 : decode cX10_asks 2 = .ok (.iconst 0, 1) := by decide +kernel
theorem dX10_asks_3 : decode cX10_asks 3 = .ok (.invokevirtual 58, 3) := by decide +kernel
theorem dX10_asks_6 : decode cX10_asks 6 = .ok (.tableswitch 76 2 6 #[34, 76, 76, 41, 56], 34) := by decide +kernel
theorem dX10_asks_40 : decode cX10_asks 40 = .ok (.aload_n 0, 1) := by decide +kernel
theorem dX10_asks_41 : decode cX10_asks 41 = .ok (.iload_n 1, 1) := by decide +kernel
theorem dX10_asks_42 : decode cX10_asks 42 = .ok (.iload_n 2, 1) := by decide +kernel
theorem dX10_asks_43 : decode cX10_asks 43 = .ok (.invokevirtual 246, 3) := by decide +kernel
theorem dX10_asks_46 : decode cX10_asks 46 = .ok (.ireturn, 1) := by decide +kernel
theorem dX10_asks_47 : decode cX10_asks 47 = .ok (.aload_n 0, 1) := by decide +kernel
theorem dX10_asks_48 : decode cX10_asks 48 = .ok (.bipush 60, 2) := by decide +kernel
theorem dX10_asks_50 : decode cX10_asks 50 = .ok (.invokevirtual 231, 3) := by decide +kernel
theorem dX10_asks_53 : decode cX10_asks 53 = .ok (.aload_n 0, 1) := by decide +kernel
theorem dX10_asks_54 : decode cX10_asks 54 = .ok (.iload_n 1, 1) := by decide +kernel
theorem dX10_asks_55 : decode cX10_asks 55 = .ok (.iload_n 2, 1) := by decide +kernel
theorem dX10_asks_56 : decode cX10_asks 56 = .ok (.iconst 1, 1) := by decide +kernel
theorem dX10_asks_57 : decode cX10_asks 57 = .ok (.iadd, 1) := by decide +kernel
theorem dX10_asks_58 : decode cX10_asks 58 = .ok (.invokevirtual 246, 3) := by decide +kernel
theorem dX10_asks_61 : decode cX10_asks 61 = .ok (.ireturn, 1) := by decide +kernel
theorem dX10_asks_62 : decode cX10_asks 62 = .ok (.aload_n 0, 1) := by decide +kernel
theorem dX10_asks_63 : decode cX10_asks 63 = .ok (.bipush 71, 2) := by decide +kernel
theorem dX10_asks_65 : decode cX10_asks 65 = .ok (.invokevirtual 231, 3) := by decide +kernel
theorem dX10_asks_68 : decode cX10_asks 68 = .ok (.aload_n 0, 1) := by decide +kernel
theorem dX10_asks_69 : decode cX10_asks 69 = .ok (.iload_n 1, 1) := by decide +kernel
theorem dX10_asks_70 : decode cX10_asks 70 = .ok (.iload_n 2, 1) := by decide +kernel
theorem dX10_asks_71 : decode cX10_asks 71 = .ok (.invokevirtual 243, 3) := by decide +kernel
theorem dX10_asks_74 : decode cX10_asks 74 = .ok (.aload_n 0, 1) := by decide +kernel
theorem dX10_asks_75 : decode cX10_asks 75 = .ok (.iload_n 1, 1) := by decide +kernel
theorem dX10_asks_76 : decode cX10_asks 76 = .ok (.iconst 1, 1) := by decide +kernel
theorem dX10_asks_77 : decode cX10_asks 77 = .ok (.invokevirtual 58, 3) := by decide +kernel
theorem dX10_asks_80 : decode cX10_asks 80 = .ok (.iadd, 1) := by decide +kernel
theorem dX10_asks_81 : decode cX10_asks 81 = .ok (.ireturn, 1) := by decide +kernel
theorem dX10_asks_82 : decode cX10_asks 82 = .ok (.aload_n 0, 1) := by decide +kernel
theorem dX10_asks_83 : decode cX10_asks 83 = .ok (.iload_n 1, 1) := by decide +kernel
theorem dX10_asks_84 : decode cX10_asks 84 = .ok (.iload_n 2, 1) := by decide +kernel
theorem dX10_asks_85 : decode cX10_asks 85 = .ok (.invokevirtual 243, 3) := by decide +kernel
theorem dX10_asks_88 : decode cX10_asks 88 = .ok (.ireturn, 1) := by decide +kernel
theorem dX10_plainHums_0 : decode cX10_plainHums 0 = .ok (.aload_n 0, 1) := by decide +kernel
theorem dX10_plainHums_1 : decode cX10_plainHums 1 = .ok (.bipush 12, 2) := by decide +kernel
theorem dX10_plainHums_3 : decode cX10_plainHums 3 = .ok (.invokevirtual 231, 3) := by decide +kernel
theorem dX10_plainHums_6 : decode cX10_plainHums 6 = .ok (.aload_n 0, 1) := by decide +kernel
theorem dX10_plainHums_7 : decode cX10_plainHums 7 = .ok (.iload_n 1, 1) := by decide +kernel
theorem dX10_plainHums_8 : decode cX10_plainHums 8 = .ok (.iload_n 2, 1) := by decide +kernel
theorem dX10_plainHums_9 : decode cX10_plainHums 9 = .ok (.invokevirtual 249, 3) := by decide +kernel
theorem dX10_plainHums_12 : decode cX10_plainHums 12 = .ok (.aload_n 0, 1) := by decide +kernel
theorem dX10_plainHums_13 : decode cX10_plainHums 13 = .ok (.iload_n 1, 1) := by decide +kernel
theorem dX10_plainHums_14 : decode cX10_plainHums 14 = .ok (.iconst 1, 1) := by decide +kernel
theorem dX10_plainHums_15 : decode cX10_plainHums 15 = .ok (.invokevirtual 58, 3) := by decide +kernel
theorem dX10_plainHums_18 : decode cX10_plainHums 18 = .ok (.isub, 1) := by decide +kernel
theorem dX10_plainHums_19 : decode cX10_plainHums 19 = .ok (.ireturn, 1) := by decide +kernel
theorem dX10_hums_0 : decode cX10_hums 0 = .ok (.aload_n 0, 1) := by decide +kernel
theorem dX10_hums_1 : decode cX10_hums 1 = .ok (.iload_n 1, 1) := by decide +kernel
theorem dX10_hums_2 : decode cX10_hums 2 = .ok (.iconst 0, 1) := by decide +kernel
theorem dX10_hums_3 : decode cX10_hums 3 = .ok (.invokevirtual 58, 3) := by decide +kernel
theorem dX10_hums_6 : decode cX10_hums 6 = .ok (.lookupswitch 56 #[(3, 26), (4, 41)], 26) := by decide +kernel
theorem dX10_hums_32 : decode cX10_hums 32 = .ok (.aload_n 0, 1) := by decide +kernel
theorem dX10_hums_33 : decode cX10_hums 33 = .ok (.bipush 40, 2) := by decide +kernel
theorem dX10_hums_35 : decode cX10_hums 35 = .ok (.invokevirtual 231, 3) := by decide +kernel
theorem dX10_hums_38 : decode cX10_hums 38 = .ok (.aload_n 0, 1) := by decide +kernel
theorem dX10_hums_39 : decode cX10_hums 39 = .ok (.iload_n 1, 1) := by decide +kernel
theorem dX10_hums_40 : decode cX10_hums 40 = .ok (.iload_n 2, 1) := by decide +kernel
theorem dX10_hums_41 : decode cX10_hums 41 = .ok (.iconst 2, 1) := by decide +kernel
theorem dX10_hums_42 : decode cX10_hums 42 = .ok (.idiv, 1) := by decide +kernel
theorem dX10_hums_43 : decode cX10_hums 43 = .ok (.invokevirtual 252, 3) := by decide +kernel
theorem dX10_hums_46 : decode cX10_hums 46 = .ok (.ireturn, 1) := by decide +kernel
theorem dX10_hums_47 : decode cX10_hums 47 = .ok (.aload_n 0, 1) := by decide +kernel
theorem dX10_hums_48 : decode cX10_hums 48 = .ok (.bipush 51, 2) := by decide +kernel
theorem dX10_hums_50 : decode cX10_hums 50 = .ok (.invokevirtual 231, 3) := by decide +kernel
theorem dX10_hums_53 : decode cX10_hums 53 = .ok (.aload_n 0, 1) := by decide +kernel
theorem dX10_hums_54 : decode cX10_hums 54 = .ok (.iload_n 1, 1) := by decide +kernel
theorem dX10_hums_55 : decode cX10_hums 55 = .ok (.iload_n 2, 1) := by decide +kernel
theorem dX10_hums_56 : decode cX10_hums 56 = .ok (.invokevirtual 252, 3) := by decide +kernel
theorem dX10_hums_59 : decode cX10_hums 59 = .ok (.iload_n 1, 1) := by decide +kernel
theorem dX10_hums_60 : decode cX10_hums 60 = .ok (.ixor, 1) := by decide +kernel
theorem dX10_hums_61 : decode cX10_hums 61 = .ok (.ireturn, 1) := by decide +kernel
theorem dX10_hums_62 : decode cX10_hums 62 = .ok (.aload_n 0, 1) := by decide +kernel
theorem dX10_hums_63 : decode cX10_hums 63 = .ok (.iload_n 1, 1) := by decide +kernel
theorem dX10_hums_64 : decode cX10_hums 64 = .ok (.iload_n 2, 1) := by decide +kernel
theorem dX10_hums_65 : decode cX10_hums 65 = .ok (.invokevirtual 252, 3) := by decide +kernel
theorem dX10_hums_68 : decode cX10_hums 68 = .ok (.ireturn, 1) := by decide +kernel
theorem dX10_plainParts_0 : decode cX10_plainParts 0 = .ok (.aload_n 0, 1) := by decide +kernel
theorem dX10_plainParts_1 : decode cX10_plainParts 1 = .ok (.bipush 13, 2) := by decide +kernel
theorem dX10_plainParts_3 : decode cX10_plainParts 3 = .ok (.invokevirtual 231, 3) := by decide +kernel
theorem dX10_plainParts_6 : decode cX10_plainParts 6 = .ok (.aload_n 0, 1) := by decide +kernel
theorem dX10_plainParts_7 : decode cX10_plainParts 7 = .ok (.iload_n 1, 1) := by decide +kernel
theorem dX10_plainParts_8 : decode cX10_plainParts 8 = .ok (.iconst 1, 1) := by decide +kernel
theorem dX10_plainParts_9 : decode cX10_plainParts 9 = .ok (.invokevirtual 58, 3) := by decide +kernel
theorem dX10_plainParts_12 : decode cX10_plainParts 12 = .ok (.iload_n 1, 1) := by decide +kernel
theorem dX10_plainParts_13 : decode cX10_plainParts 13 = .ok (.isub, 1) := by decide +kernel
theorem dX10_plainParts_14 : decode cX10_plainParts 14 = .ok (.istore_n 3, 1) := by decide +kernel
theorem dX10_plainParts_15 : decode cX10_plainParts 15 = .ok (.aload_n 0, 1) := by decide +kernel
theorem dX10_plainParts_16 : decode cX10_plainParts 16 = .ok (.iload_n 3, 1) := by decide +kernel
theorem dX10_plainParts_17 : decode cX10_plainParts 17 = .ok (.ifCond .ne 7, 3) := by decide +kernel
theorem dX10_plainParts_20 : decode cX10_plainParts 20 = .ok (.iconst 1, 1) := by decide +kernel
theorem dX10_plainParts_21 : decode cX10_plainParts 21 = .ok (.goto 4, 3) := by decide +kernel
theorem dX10_plainParts_24 : decode cX10_plainParts 24 = .ok (.iconst 0, 1) := by decide +kernel
theorem dX10_plainParts_25 : decode cX10_plainParts 25 = .ok (.putfield 255, 3) := by decide +kernel
theorem dX10_plainParts_28 : decode cX10_plainParts 28 = .ok (.aload_n 0, 1) := by decide +kernel
theorem dX10_plainParts_29 : decode cX10_plainParts 29 = .ok (.getfield 255, 3) := by decide +kernel
theorem dX10_plainParts_32 : decode cX10_plainParts 32 = .ok (.ifCond .eq 7, 3) := by decide +kernel
theorem dX10_plainParts_35 : decode cX10_plainParts 35 = .ok (.iconst 0, 1) := by decide +kernel
theorem dX10_plainParts_36 : decode cX10_plainParts 36 = .ok (.goto 6, 3) := by decide +kernel
theorem dX10_plainParts_39 : decode cX10_plainParts 39 = .ok (.iload_n 2, 1) := by decide +kernel
theorem dX10_plainParts_40 : decode cX10_plainParts 40 = .ok (.iload_n 3, 1) := by decide +kernel
theorem dX10_plainParts_41 : decode cX10_plainParts 41 = .ok (.idiv, 1) := by decide +kernel
theorem dX10_plainParts_42 : decode cX10_plainParts 42 = .ok (.ireturn, 1) := by decide +kernel
theorem dX10_parts_0 : decode cX10_parts 0 = .ok (.aload_n 0, 1) := by decide +kernel
theorem dX10_parts_1 : decode cX10_parts 1 = .ok (.iload_n 1, 1) := by decide +kernel
theorem dX10_parts_2 : decode cX10_parts 2 = .ok (.iconst 0, 1) := by decide +kernel
theorem dX10_parts_3 : decode cX10_parts 3 = .ok (.invokevirtual 58, 3) := by decide +kernel
theorem dX10_parts_6 : decode cX10_parts 6 = .ok (.iconst 1, 1) := by decide +kernel
theorem dX10_parts_7 : decode cX10_parts 7 = .ok (.if_icmp .eq 13, 3) := by decide +kernel
theorem dX10_parts_10 : decode cX10_parts 10 = .ok (.aload_n 0, 1) := by decide +kernel
theorem dX10_parts_11 : decode cX10_parts 11 = .ok (.iload_n 1, 1) := by decide +kernel
theorem dX10_parts_12 : decode cX10_parts 12 = .ok (.iconst 0, 1) := by decide +kernel
theorem dX10_parts_13 : decode cX10_parts 13 = .ok (.invokevirtual 58, 3) := by decide +kernel
theorem dX10_parts_16 : decode cX10_parts 16 = .ok (.iconst 4, 1) := by decide +kernel
theorem dX10_parts_17 : decode cX10_parts 17 = .ok (.if_icmp .ne 36, 3) := by decide +kernel
theorem dX10_parts_20 : decode cX10_parts 20 = .ok (.aload_n 0, 1) := by decide +kernel
theorem dX10_parts_21 : decode cX10_parts 21 = .ok (.bipush 21, 2) := by decide +kernel
theorem dX10_parts_23 : decode cX10_parts 23 = .ok (.invokevirtual 231, 3) := by decide +kernel
theorem dX10_parts_26 : decode cX10_parts 26 = .ok (.aload_n 0, 1) := by decide +kernel
theorem dX10_parts_27 : decode cX10_parts 27 = .ok (.iload_n 1, 1) := by decide +kernel
theorem dX10_parts_28 : decode cX10_parts 28 = .ok (.iload_n 2, 1) := by decide +kernel
theorem dX10_parts_29 : decode cX10_parts 29 = .ok (.invokevirtual 258, 3) := by decide +kernel
theorem dX10_parts_32 : decode cX10_parts 32 = .ok (.istore_n 3, 1) := by decide +kernel
theorem dX10_parts_33 : decode cX10_parts 33 = .ok (.aload_n 0, 1) := by decide +kernel
theorem dX10_parts_34 : decode cX10_parts 34 = .ok (.getfield 255, 3) := by decide +kernel
theorem dX10_parts_37 : decode cX10_parts 37 = .ok (.ifCond .eq 7, 3) := by decide +kernel
theorem dX10_parts_40 : decode cX10_parts 40 = .ok (.iconst 0, 1) := by decide +kernel
theorem dX10_parts_41 : decode cX10_parts 41 = .ok (.goto 11, 3) := by decide +kernel
theorem dX10_parts_44 : decode cX10_parts 44 = .ok (.iload_n 3, 1) := by decide +kernel
theorem dX10_parts_45 : decode cX10_parts 45 = .ok (.aload_n 0, 1) := by decide +kernel
theorem dX10_parts_46 : decode cX10_parts 46 = .ok (.iload_n 1, 1) := by decide +kernel
theorem dX10_parts_47 : decode cX10_parts 47 = .ok (.iconst 1, 1) := by decide +kernel
theorem dX10_parts_48 : decode cX10_parts 48 = .ok (.invokevirtual 249, 3) := by decide +kernel
theorem dX10_parts_51 : decode cX10_parts 51 = .ok (.iadd, 1) := by decide +kernel
theorem dX10_parts_52 : decode cX10_parts 52 = .ok (.ireturn, 1) := by decide +kernel
theorem dX10_parts_53 : decode cX10_parts 53 = .ok (.aload_n 0, 1) := by decide +kernel
theorem dX10_parts_54 : decode cX10_parts 54 = .ok (.iload_n 1, 1) := by decide +kernel
theorem dX10_parts_55 : decode cX10_parts 55 = .ok (.iload_n 2, 1) := by decide +kernel
theorem dX10_parts_56 : decode cX10_parts 56 = .ok (.invokevirtual 258, 3) := by decide +kernel
theorem dX10_parts_59 : decode cX10_parts 59 = .ok (.ireturn, 1) := by decide +kernel
theorem dX10_voice_0 : decode cX10_voice 0 = .ok (.aload_n 0, 1) := by decide +kernel
theorem dX10_voice_1 : decode cX10_voice 1 = .ok (.iload_n 1, 1) := by decide +kernel
theorem dX10_voice_2 : decode cX10_voice 2 = .ok (.invokevirtual 102, 3) := by decide +kernel
theorem dX10_voice_5 : decode cX10_voice 5 = .ok (.ifCond .eq 12, 3) := by decide +kernel
theorem dX10_voice_8 : decode cX10_voice 8 = .ok (.iload_n 2, 1) := by decide +kernel
theorem dX10_voice_9 : decode cX10_voice 9 = .ok (.iconst 0, 1) := by decide +kernel
theorem dX10_voice_10 : decode cX10_voice 10 = .ok (.iconst 3, 1) := by decide +kernel
theorem dX10_voice_11 : decode cX10_voice 11 = .ok (.invokestatic 54, 3) := by decide +kernel
theorem dX10_voice_14 : decode cX10_voice 14 = .ok (.ifCond .ne 10, 3) := by decide +kernel
theorem dX10_voice_17 : decode cX10_voice 17 = .ok (.aload_n 0, 1) := by decide +kernel
theorem dX10_voice_18 : decode cX10_voice 18 = .ok (.ldc 94, 2) := by decide +kernel
theorem dX10_voice_20 : decode cX10_voice 20 = .ok (.invokevirtual 95, 3) := by decide +kernel
theorem dX10_voice_23 : decode cX10_voice 23 = .ok (.ireturn, 1) := by decide +kernel
theorem dX10_voice_24 : decode cX10_voice 24 = .ok (.aload_n 0, 1) := by decide +kernel
theorem dX10_voice_25 : decode cX10_voice 25 = .ok (.iconst 0, 1) := by decide +kernel
theorem dX10_voice_26 : decode cX10_voice 26 = .ok (.putfield 228, 3) := by decide +kernel
theorem dX10_voice_29 : decode cX10_voice 29 = .ok (.aload_n 0, 1) := by decide +kernel
theorem dX10_voice_30 : decode cX10_voice 30 = .ok (.iconst 0, 1) := by decide +kernel
theorem dX10_voice_31 : decode cX10_voice 31 = .ok (.putfield 255, 3) := by decide +kernel
theorem dX10_voice_34 : decode cX10_voice 34 = .ok (.iload_n 2, 1) := by decide +kernel
theorem dX10_voice_35 : decode cX10_voice 35 = .ok (.ifCond .ne 12, 3) := by decide +kernel
theorem dX10_voice_38 : decode cX10_voice 38 = .ok (.aload_n 0, 1) := by decide +kernel
theorem dX10_voice_39 : decode cX10_voice 39 = .ok (.iload_n 1, 1) := by decide +kernel
theorem dX10_voice_40 : decode cX10_voice 40 = .ok (.iload_n 3, 1) := by decide +kernel
theorem dX10_voice_41 : decode cX10_voice 41 = .ok (.invokevirtual 240, 3) := by decide +kernel
theorem dX10_voice_44 : decode cX10_voice 44 = .ok (.goto 37, 3) := by decide +kernel
theorem dX10_voice_47 : decode cX10_voice 47 = .ok (.iload_n 2, 1) := by decide +kernel
theorem dX10_voice_48 : decode cX10_voice 48 = .ok (.iconst 1, 1) := by decide +kernel
theorem dX10_voice_49 : decode cX10_voice 49 = .ok (.if_icmp .ne 12, 3) := by decide +kernel
theorem dX10_voice_52 : decode cX10_voice 52 = .ok (.aload_n 0, 1) := by decide +kernel
theorem dX10_voice_53 : decode cX10_voice 53 = .ok (.iload_n 1, 1) := by decide +kernel
theorem dX10_voice_54 : decode cX10_voice 54 = .ok (.iload_n 3, 1) := by decide +kernel
theorem dX10_voice_55 : decode cX10_voice 55 = .ok (.invokevirtual 249, 3) := by decide +kernel
theorem dX10_voice_58 : decode cX10_voice 58 = .ok (.goto 23, 3) := by decide +kernel
theorem dX10_voice_61 : decode cX10_voice 61 = .ok (.iload_n 2, 1) := by decide +kernel
theorem dX10_voice_62 : decode cX10_voice 62 = .ok (.iconst 2, 1) := by decide +kernel
theorem dX10_voice_63 : decode cX10_voice 63 = .ok (.if_icmp .ne 12, 3) := by decide +kernel
theorem dX10_voice_66 : decode cX10_voice 66 = .ok (.aload_n 0, 1) := by decide +kernel
theorem dX10_voice_67 : decode cX10_voice 67 = .ok (.iload_n 1, 1) := by decide +kernel
theorem dX10_voice_68 : decode cX10_voice 68 = .ok (.iload_n 3, 1) := by decide +kernel
theorem dX10_voice_69 : decode cX10_voice 69 = .ok (.invokevirtual 261, 3) := by decide +kernel
theorem dX10_voice_72 : decode cX10_voice 72 = .ok (.goto 9, 3) := by decide +kernel
theorem dX10_voice_75 : decode cX10_voice 75 = .ok (.aload_n 0, 1) := by decide +kernel
theorem dX10_voice_76 : decode cX10_voice 76 = .ok (.iload_n 1, 1) := by decide +kernel
theorem dX10_voice_77 : decode cX10_voice 77 = .ok (.iload_n 3, 1) := by decide +kernel
theorem dX10_voice_78 : decode cX10_voice 78 = .ok (.invokevirtual 264, 3) := by decide +kernel
theorem dX10_voice_81 : decode cX10_voice 81 = .ok (.istore 4, 2) := by decide +kernel
theorem dX10_voice_83 : decode cX10_voice 83 = .ok (.aload_n 0, 1) := by decide +kernel
theorem dX10_voice_84 : decode cX10_voice 84 = .ok (.getfield 255, 3) := by decide +kernel
theorem dX10_voice_87 : decode cX10_voice 87 = .ok (.ifCond .eq 13, 3) := by decide +kernel
theorem dX10_voice_90 : decode cX10_voice 90 = .ok (.aload_n 0, 1) := by decide +kernel
theorem dX10_voice_91 : decode cX10_voice 91 = .ok (.ldc_w 267, 3) := by decide +kernel
theorem dX10_voice_94 : decode cX10_voice 94 = .ok (.invokevirtual 95, 3) := by decide +kernel
theorem dX10_voice_97 : decode cX10_voice 97 = .ok (.goto 5, 3) := by decide +kernel
theorem dX10_voice_100 : decode cX10_voice 100 = .ok (.iload 4, 2) := by decide +kernel
theorem dX10_voice_102 : decode cX10_voice 102 = .ok (.ireturn, 1) := by decide +kernel
theorem dX10_body_0 : decode cX10_body 0 = .ok (.iload_n 1, 1) := by decide +kernel
theorem dX10_body_1 : decode cX10_body 1 = .ok (.iconst 0, 1) := by decide +kernel
theorem dX10_body_2 : decode cX10_body 2 = .ok (.aload_n 0, 1) := by decide +kernel
theorem dX10_body_3 : decode cX10_body 3 = .ok (.getfield 228, 3) := by decide +kernel
theorem dX10_body_6 : decode cX10_body 6 = .ok (.iconst 1, 1) := by decide +kernel
theorem dX10_body_7 : decode cX10_body 7 = .ok (.isub, 1) := by decide +kernel
theorem dX10_body_8 : decode cX10_body 8 = .ok (.invokestatic 54, 3) := by decide +kernel
theorem dX10_body_11 : decode cX10_body 11 = .ok (.ifCond .eq 12, 3) := by decide +kernel
theorem dX10_body_14 : decode cX10_body 14 = .ok (.aload_n 0, 1) := by decide +kernel
theorem dX10_body_15 : decode cX10_body 15 = .ok (.getfield 46, 3) := by decide +kernel
theorem dX10_body_18 : decode cX10_body 18 = .ok (.iload_n 1, 1) := by decide +kernel
theorem dX10_body_19 : decode cX10_body 19 = .ok (.iaload, 1) := by decide +kernel
theorem dX10_body_20 : decode cX10_body 20 = .ok (.goto 9, 3) := by decide +kernel
theorem dX10_body_23 : decode cX10_body 23 = .ok (.aload_n 0, 1) := by decide +kernel
theorem dX10_body_24 : decode cX10_body 24 = .ok (.ldc 227, 2) := by decide +kernel
theorem dX10_body_26 : decode cX10_body 26 = .ok (.invokevirtual 95, 3) := by decide +kernel
theorem dX10_body_29 : decode cX10_body 29 = .ok (.ireturn, 1) := by decide +kernel
theorem dX10_isSheet_0 : decode cX10_isSheet 0 = .ok (.iload_n 0, 1) := by decide +kernel
theorem dX10_isSheet_1 : decode cX10_isSheet 1 = .ok (.iconst 0, 1) := by decide +kernel
theorem dX10_isSheet_2 : decode cX10_isSheet 2 = .ok (.iconst 3, 1) := by decide +kernel
theorem dX10_isSheet_3 : decode cX10_isSheet 3 = .ok (.invokestatic 54, 3) := by decide +kernel
theorem dX10_isSheet_6 : decode cX10_isSheet 6 = .ok (.ireturn, 1) := by decide +kernel
theorem dX10_sheet_0 : decode cX10_sheet 0 = .ok (.iload_n 1, 1) := by decide +kernel
theorem dX10_sheet_1 : decode cX10_sheet 1 = .ok (.invokestatic 268, 3) := by decide +kernel
theorem dX10_sheet_4 : decode cX10_sheet 4 = .ok (.ifCond .eq 25, 3) := by decide +kernel
theorem dX10_sheet_7 : decode cX10_sheet 7 = .ok (.iload_n 2, 1) := by decide +kernel
theorem dX10_sheet_8 : decode cX10_sheet 8 = .ok (.ifCond .eq 28, 3) := by decide +kernel
theorem dX10_sheet_11 : decode cX10_sheet 11 = .ok (.iload_n 2, 1) := by decide +kernel
theorem dX10_sheet_12 : decode cX10_sheet 12 = .ok (.bipush 8, 2) := by decide +kernel
theorem dX10_sheet_14 : decode cX10_sheet 14 = .ok (.if_icmp .eq 22, 3) := by decide +kernel
theorem dX10_sheet_17 : decode cX10_sheet 17 = .ok (.iload_n 2, 1) := by decide +kernel
theorem dX10_sheet_18 : decode cX10_sheet 18 = .ok (.bipush 16, 2) := by decide +kernel
theorem dX10_sheet_20 : decode cX10_sheet 20 = .ok (.if_icmp .eq 16, 3) := by decide +kernel
theorem dX10_sheet_23 : decode cX10_sheet 23 = .ok (.iload_n 2, 1) := by decide +kernel
theorem dX10_sheet_24 : decode cX10_sheet 24 = .ok (.bipush 32, 2) := by decide +kernel
theorem dX10_sheet_26 : decode cX10_sheet 26 = .ok (.if_icmp .eq 10, 3) := by decide +kernel
theorem dX10_sheet_29 : decode cX10_sheet 29 = .ok (.aload_n 0, 1) := by decide +kernel
theorem dX10_sheet_30 : decode cX10_sheet 30 = .ok (.ldc 94, 2) := by decide +kernel
theorem dX10_sheet_32 : decode cX10_sheet 32 = .ok (.invokevirtual 95, 3) := by decide +kernel
theorem dX10_sheet_35 : decode cX10_sheet 35 = .ok (.ireturn, 1) := by decide +kernel
theorem dX10_sheet_36 : decode cX10_sheet 36 = .ok (.iload_n 2, 1) := by decide +kernel
theorem dX10_sheet_37 : decode cX10_sheet 37 = .ok (.ifCond .le 14, 3) := by decide +kernel
theorem dX10_sheet_40 : decode cX10_sheet 40 = .ok (.iload_n 3, 1) := by decide +kernel
theorem dX10_sheet_41 : decode cX10_sheet 41 = .ok (.ifCond .ge 10, 3) := by decide +kernel
theorem dX10_sheet_44 : decode cX10_sheet 44 = .ok (.aload_n 0, 1) := by decide +kernel
theorem dX10_sheet_45 : decode cX10_sheet 45 = .ok (.ldc 180, 2) := by decide +kernel
theorem dX10_sheet_47 : decode cX10_sheet 47 = .ok (.invokevirtual 95, 3) := by decide +kernel
theorem dX10_sheet_50 : decode cX10_sheet 50 = .ok (.ireturn, 1) := by decide +kernel
theorem dX10_sheet_51 : decode cX10_sheet 51 = .ok (.iload_n 2, 1) := by decide +kernel
theorem dX10_sheet_52 : decode cX10_sheet 52 = .ok (.ifCond .le 16, 3) := by decide +kernel
theorem dX10_sheet_55 : decode cX10_sheet 55 = .ok (.iload_n 3, 1) := by decide +kernel
theorem dX10_sheet_56 : decode cX10_sheet 56 = .ok (.bipush 24, 2) := by decide +kernel
theorem dX10_sheet_58 : decode cX10_sheet 58 = .ok (.if_icmp .le 10, 3) := by decide +kernel
theorem dX10_sheet_61 : decode cX10_sheet 61 = .ok (.aload_n 0, 1) := by decide +kernel
theorem dX10_sheet_62 : decode cX10_sheet 62 = .ok (.ldc 94, 2) := by decide +kernel
theorem dX10_sheet_64 : decode cX10_sheet 64 = .ok (.invokevirtual 95, 3) := by decide +kernel
theorem dX10_sheet_67 : decode cX10_sheet 67 = .ok (.ireturn, 1) := by decide +kernel
theorem dX10_sheet_68 : decode cX10_sheet 68 = .ok (.aload_n 0, 1) := by decide +kernel
theorem dX10_sheet_69 : decode cX10_sheet 69 = .ok (.getfield 22, 3) := by decide +kernel
theorem dX10_sheet_72 : decode cX10_sheet 72 = .ok (.iload_n 1, 1) := by decide +kernel
theorem dX10_sheet_73 : decode cX10_sheet 73 = .ok (.iload_n 2, 1) := by decide +kernel
theorem dX10_sheet_74 : decode cX10_sheet 74 = .ok (.iastore, 1) := by decide +kernel
theorem dX10_sheet_75 : decode cX10_sheet 75 = .ok (.aload_n 0, 1) := by decide +kernel
theorem dX10_sheet_76 : decode cX10_sheet 76 = .ok (.getfield 25, 3) := by decide +kernel
theorem dX10_sheet_79 : decode cX10_sheet 79 = .ok (.iload_n 1, 1) := by decide +kernel
theorem dX10_sheet_80 : decode cX10_sheet 80 = .ok (.iload_n 2, 1) := by decide +kernel
theorem dX10_sheet_81 : decode cX10_sheet 81 = .ok (.ifCond .ne 7, 3) := by decide +kernel
theorem dX10_sheet_84 : decode cX10_sheet 84 = .ok (.iconst 0, 1) := by decide +kernel
theorem dX10_sheet_85 : decode cX10_sheet 85 = .ok (.goto 4, 3) := by decide +kernel
theorem dX10_sheet_88 : decode cX10_sheet 88 = .ok (.iload_n 3, 1) := by decide +kernel
theorem dX10_sheet_89 : decode cX10_sheet 89 = .ok (.iastore, 1) := by decide +kernel
theorem dX10_sheet_90 : decode cX10_sheet 90 = .ok (.iconst 0, 1) := by decide +kernel
theorem dX10_sheet_91 : decode cX10_sheet 91 = .ok (.istore 4, 2) := by decide +kernel
theorem dX10_sheet_93 : decode cX10_sheet 93 = .ok (.iload 4, 2) := by decide +kernel
theorem dX10_sheet_95 : decode cX10_sheet 95 = .ok (.bipush 24, 2) := by decide +kernel
theorem dX10_sheet_97 : decode cX10_sheet 97 = .ok (.if_icmp .ge 22, 3) := by decide +kernel
theorem dX10_sheet_100 : decode cX10_sheet 100 = .ok (.aload_n 0, 1) := by decide +kernel
theorem dX10_sheet_101 : decode cX10_sheet 101 = .ok (.getfield 28, 3) := by decide +kernel
theorem dX10_sheet_104 : decode cX10_sheet 104 = .ok (.bipush 24, 2) := by decide +kernel
theorem dX10_sheet_106 : decode cX10_sheet 106 = .ok (.iload_n 1, 1) := by decide +kernel
theorem dX10_sheet_107 : decode cX10_sheet 107 = .ok (.imul, 1) := by decide +kernel
theorem dX10_sheet_108 : decode cX10_sheet 108 = .ok (.iload 4, 2) := by decide +kernel
theorem dX10_sheet_110 : decode cX10_sheet 110 = .ok (.iadd, 1) := by decide +kernel
theorem dX10_sheet_111 : decode cX10_sheet 111 = .ok (.iconst 0, 1) := by decide +kernel
theorem dX10_sheet_112 : decode cX10_sheet 112 = .ok (.iastore, 1) := by decide +kernel
theorem dX10_sheet_113 : decode cX10_sheet 113 = .ok (.iinc 4 1, 3) := by decide +kernel
theorem dX10_sheet_116 : decode cX10_sheet 116 = .ok (.goto (-23), 3) := by decide +kernel
theorem dX10_sheet_119 : decode cX10_sheet 119 = .ok (.iconst 1, 1) := by decide +kernel
theorem dX10_sheet_120 : decode cX10_sheet 120 = .ok (.ireturn, 1) := by decide +kernel
theorem dX10_notThere_0 : decode cX10_notThere 0 = .ok (.iload_n 1, 1) := by decide +kernel
theorem dX10_notThere_1 : decode cX10_notThere 1 = .ok (.invokestatic 268, 3) := by decide +kernel
theorem dX10_notThere_4 : decode cX10_notThere 4 = .ok (.ifCond .ne 8, 3) := by decide +kernel
theorem dX10_notThere_7 : decode cX10_notThere 7 = .ok (.ldc 94, 2) := by decide +kernel
theorem dX10_notThere_9 : decode cX10_notThere 9 = .ok (.goto 18, 3) := by decide +kernel
theorem dX10_notThere_12 : decode cX10_notThere 12 = .ok (.aload_n 0, 1) := by decide +kernel
theorem dX10_notThere_13 : decode cX10_notThere 13 = .ok (.getfield 22, 3) := by decide +kernel
theorem dX10_notThere_16 : decode cX10_notThere 16 = .ok (.iload_n 1, 1) := by decide +kernel
theorem dX10_notThere_17 : decode cX10_notThere 17 = .ok (.iaload, 1) := by decide +kernel
theorem dX10_notThere_18 : decode cX10_notThere 18 = .ok (.ifCond .ne 8, 3) := by decide +kernel
theorem dX10_notThere_21 : decode cX10_notThere 21 = .ok (.ldc 227, 2) := by decide +kernel
theorem dX10_notThere_23 : decode cX10_notThere 23 = .ok (.goto 4, 3) := by decide +kernel
theorem dX10_notThere_26 : decode cX10_notThere 26 = .ok (.iconst 0, 1) := by decide +kernel
theorem dX10_notThere_27 : decode cX10_notThere 27 = .ok (.ireturn, 1) := by decide +kernel
theorem dX10_put_0 : decode cX10_put 0 = .ok (.aload_n 0, 1) := by decide +kernel
theorem dX10_put_1 : decode cX10_put 1 = .ok (.iload_n 1, 1) := by decide +kernel
theorem dX10_put_2 : decode cX10_put 2 = .ok (.invokevirtual 221, 3) := by decide +kernel
theorem dX10_put_5 : decode cX10_put 5 = .ok (.istore 4, 2) := by decide +kernel
theorem dX10_put_7 : decode cX10_put 7 = .ok (.iload 4, 2) := by decide +kernel
theorem dX10_put_9 : decode cX10_put 9 = .ok (.ifCond .ne 24, 3) := by decide +kernel
theorem dX10_put_12 : decode cX10_put 12 = .ok (.iload_n 2, 1) := by decide +kernel
theorem dX10_put_13 : decode cX10_put 13 = .ok (.iconst 0, 1) := by decide +kernel
theorem dX10_put_14 : decode cX10_put 14 = .ok (.aload_n 0, 1) := by decide +kernel
theorem dX10_put_15 : decode cX10_put 15 = .ok (.getfield 25, 3) := by decide +kernel
theorem dX10_put_18 : decode cX10_put 18 = .ok (.iload_n 1, 1) := by decide +kernel
theorem dX10_put_19 : decode cX10_put 19 = .ok (.iaload, 1) := by decide +kernel
theorem dX10_put_20 : decode cX10_put 20 = .ok (.iconst 1, 1) := by decide +kernel
theorem dX10_put_21 : decode cX10_put 21 = .ok (.isub, 1) := by decide +kernel
theorem dX10_put_22 : decode cX10_put 22 = .ok (.invokestatic 54, 3) := by decide +kernel
theorem dX10_put_25 : decode cX10_put 25 = .ok (.ifCond .ne 8, 3) := by decide +kernel
theorem dX10_put_28 : decode cX10_put 28 = .ok (.ldc 94, 2) := by decide +kernel
theorem dX10_put_30 : decode cX10_put 30 = .ok (.goto 5, 3) := by decide +kernel
theorem dX10_put_33 : decode cX10_put 33 = .ok (.iload 4, 2) := by decide +kernel
theorem dX10_put_35 : decode cX10_put 35 = .ok (.istore 4, 2) := by decide +kernel
theorem dX10_put_37 : decode cX10_put 37 = .ok (.iload 4, 2) := by decide +kernel
theorem dX10_put_39 : decode cX10_put 39 = .ok (.ifCond .eq 10, 3) := by decide +kernel
theorem dX10_put_42 : decode cX10_put 42 = .ok (.aload_n 0, 1) := by decide +kernel
theorem dX10_put_43 : decode cX10_put 43 = .ok (.iload 4, 2) := by decide +kernel
theorem dX10_put_45 : decode cX10_put 45 = .ok (.invokevirtual 95, 3) := by decide +kernel
theorem dX10_put_48 : decode cX10_put 48 = .ok (.ireturn, 1) := by decide +kernel
theorem dX10_put_49 : decode cX10_put 49 = .ok (.aload_n 0, 1) := by decide +kernel
theorem dX10_put_50 : decode cX10_put 50 = .ok (.getfield 28, 3) := by decide +kernel
theorem dX10_put_53 : decode cX10_put 53 = .ok (.bipush 24, 2) := by decide +kernel
theorem dX10_put_55 : decode cX10_put 55 = .ok (.iload_n 1, 1) := by decide +kernel
theorem dX10_put_56 : decode cX10_put 56 = .ok (.imul, 1) := by decide +kernel
theorem dX10_put_57 : decode cX10_put 57 = .ok (.iload_n 2, 1) := by decide +kernel
theorem dX10_put_58 : decode cX10_put 58 = .ok (.iadd, 1) := by decide +kernel
theorem dX10_put_59 : decode cX10_put 59 = .ok (.aload_n 0, 1) := by decide +kernel
theorem dX10_put_60 : decode cX10_put 60 = .ok (.getfield 22, 3) := by decide +kernel
theorem dX10_put_63 : decode cX10_put 63 = .ok (.iload_n 1, 1) := by decide +kernel
theorem dX10_put_64 : decode cX10_put 64 = .ok (.iaload, 1) := by decide +kernel
theorem dX10_put_65 : decode cX10_put 65 = .ok (.bipush 8, 2) := by decide +kernel
theorem dX10_put_67 : decode cX10_put 67 = .ok (.if_icmp .ne 8, 3) := by decide +kernel
theorem dX10_put_70 : decode cX10_put 70 = .ok (.iload_n 3, 1) := by decide +kernel
theorem dX10_put_71 : decode cX10_put 71 = .ok (.i2b, 1) := by decide +kernel
theorem dX10_put_72 : decode cX10_put 72 = .ok (.goto 20, 3) := by decide +kernel
theorem dX10_put_75 : decode cX10_put 75 = .ok (.aload_n 0, 1) := by decide +kernel
theorem dX10_put_76 : decode cX10_put 76 = .ok (.getfield 22, 3) := by decide +kernel
theorem dX10_put_79 : decode cX10_put 79 = .ok (.iload_n 1, 1) := by decide +kernel
theorem dX10_put_80 : decode cX10_put 80 = .ok (.iaload, 1) := by decide +kernel
theorem dX10_put_81 : decode cX10_put 81 = .ok (.bipush 16, 2) := by decide +kernel
theorem dX10_put_83 : decode cX10_put 83 = .ok (.if_icmp .ne 8, 3) := by decide +kernel
theorem dX10_put_86 : decode cX10_put 86 = .ok (.iload_n 3, 1) := by decide +kernel
theorem dX10_put_87 : decode cX10_put 87 = .ok (.i2s, 1) := by decide +kernel
theorem dX10_put_88 : decode cX10_put 88 = .ok (.goto 4, 3) := by decide +kernel
theorem dX10_put_91 : decode cX10_put 91 = .ok (.iload_n 3, 1) := by decide +kernel
theorem dX10_put_92 : decode cX10_put 92 = .ok (.iastore, 1) := by decide +kernel
theorem dX10_put_93 : decode cX10_put 93 = .ok (.iconst 1, 1) := by decide +kernel
theorem dX10_put_94 : decode cX10_put 94 = .ok (.ireturn, 1) := by decide +kernel
theorem dX10_notMoved_0 : decode cX10_notMoved 0 = .ok (.iload_n 1, 1) := by decide +kernel
theorem dX10_notMoved_1 : decode cX10_notMoved 1 = .ok (.invokestatic 268, 3) := by decide +kernel
theorem dX10_notMoved_4 : decode cX10_notMoved 4 = .ok (.ifCond .eq 10, 3) := by decide +kernel
theorem dX10_notMoved_7 : decode cX10_notMoved 7 = .ok (.iload_n 3, 1) := by decide +kernel
theorem dX10_notMoved_8 : decode cX10_notMoved 8 = .ok (.invokestatic 268, 3) := by decide +kernel
theorem dX10_notMoved_11 : decode cX10_notMoved 11 = .ok (.ifCond .ne 6, 3) := by decide +kernel
theorem dX10_notMoved_14 : decode cX10_notMoved 14 = .ok (.ldc 94, 2) := by decide +kernel
theorem dX10_notMoved_16 : decode cX10_notMoved 16 = .ok (.ireturn, 1) := by decide +kernel
theorem dX10_notMoved_17 : decode cX10_notMoved 17 = .ok (.aload_n 0, 1) := by decide +kernel
theorem dX10_notMoved_18 : decode cX10_notMoved 18 = .ok (.getfield 22, 3) := by decide +kernel
theorem dX10_notMoved_21 : decode cX10_notMoved 21 = .ok (.iload_n 1, 1) := by decide +kernel
theorem dX10_notMoved_22 : decode cX10_notMoved 22 = .ok (.iaload, 1) := by decide +kernel
theorem dX10_notMoved_23 : decode cX10_notMoved 23 = .ok (.ifCond .eq 12, 3) := by decide +kernel
theorem dX10_notMoved_26 : decode cX10_notMoved 26 = .ok (.aload_n 0, 1) := by decide +kernel
theorem dX10_notMoved_27 : decode cX10_notMoved 27 = .ok (.getfield 22, 3) := by decide +kernel
theorem dX10_notMoved_30 : decode cX10_notMoved 30 = .ok (.iload_n 3, 1) := by decide +kernel
theorem dX10_notMoved_31 : decode cX10_notMoved 31 = .ok (.iaload, 1) := by decide +kernel
theorem dX10_notMoved_32 : decode cX10_notMoved 32 = .ok (.ifCond .ne 6, 3) := by decide +kernel
theorem dX10_notMoved_35 : decode cX10_notMoved 35 = .ok (.ldc 227, 2) := by decide +kernel
theorem dX10_notMoved_37 : decode cX10_notMoved 37 = .ok (.ireturn, 1) := by decide +kernel
theorem dX10_notMoved_38 : decode cX10_notMoved 38 = .ok (.aload_n 0, 1) := by decide +kernel
theorem dX10_notMoved_39 : decode cX10_notMoved 39 = .ok (.getfield 22, 3) := by decide +kernel
theorem dX10_notMoved_42 : decode cX10_notMoved 42 = .ok (.iload_n 1, 1) := by decide +kernel
theorem dX10_notMoved_43 : decode cX10_notMoved 43 = .ok (.iaload, 1) := by decide +kernel
theorem dX10_notMoved_44 : decode cX10_notMoved 44 = .ok (.aload_n 0, 1) := by decide +kernel
theorem dX10_notMoved_45 : decode cX10_notMoved 45 = .ok (.getfield 22, 3) := by decide +kernel
theorem dX10_notMoved_48 : decode cX10_notMoved 48 = .ok (.iload_n 3, 1) := by decide +kernel
theorem dX10_notMoved_49 : decode cX10_notMoved 49 = .ok (.iaload, 1) := by decide +kernel
theorem dX10_notMoved_50 : decode cX10_notMoved 50 = .ok (.if_icmp .eq 6, 3) := by decide +kernel
theorem dX10_notMoved_53 : decode cX10_notMoved 53 = .ok (.ldc 114, 2) := by decide +kernel
theorem dX10_notMoved_55 : decode cX10_notMoved 55 = .ok (.ireturn, 1) := by decide +kernel
theorem dX10_notMoved_56 : decode cX10_notMoved 56 = .ok (.iload 5, 2) := by decide +kernel
theorem dX10_notMoved_58 : decode cX10_notMoved 58 = .ok (.ifCond .lt 43, 3) := by decide +kernel
theorem dX10_notMoved_61 : decode cX10_notMoved 61 = .ok (.iload_n 2, 1) := by decide +kernel
theorem dX10_notMoved_62 : decode cX10_notMoved 62 = .ok (.ifCond .lt 39, 3) := by decide +kernel
theorem dX10_notMoved_65 : decode cX10_notMoved 65 = .ok (.iload 4, 2) := by decide +kernel
theorem dX10_notMoved_67 : decode cX10_notMoved 67 = .ok (.ifCond .lt 34, 3) := by decide +kernel
theorem dX10_notMoved_70 : decode cX10_notMoved 70 = .ok (.iload 5, 2) := by decide +kernel
theorem dX10_notMoved_72 : decode cX10_notMoved 72 = .ok (.aload_n 0, 1) := by decide +kernel
theorem dX10_notMoved_73 : decode cX10_notMoved 73 = .ok (.getfield 25, 3) := by decide +kernel
theorem dX10_notMoved_76 : decode cX10_notMoved 76 = .ok (.iload_n 1, 1) := by decide +kernel
theorem dX10_notMoved_77 : decode cX10_notMoved 77 = .ok (.iaload, 1) := by decide +kernel
theorem dX10_notMoved_78 : decode cX10_notMoved 78 = .ok (.iload_n 2, 1) := by decide +kernel
theorem dX10_notMoved_79 : decode cX10_notMoved 79 = .ok (.isub, 1) := by decide +kernel
theorem dX10_notMoved_80 : decode cX10_notMoved 80 = .ok (.if_icmp .gt 21, 3) := by decide +kernel
theorem dX10_notMoved_83 : decode cX10_notMoved 83 = .ok (.iload 5, 2) := by decide +kernel
theorem dX10_notMoved_85 : decode cX10_notMoved 85 = .ok (.aload_n 0, 1) := by decide +kernel
theorem dX10_notMoved_86 : decode cX10_notMoved 86 = .ok (.getfield 25, 3) := by decide +kernel
theorem dX10_notMoved_89 : decode cX10_notMoved 89 = .ok (.iload_n 3, 1) := by decide +kernel
theorem dX10_notMoved_90 : decode cX10_notMoved 90 = .ok (.iaload, 1) := by decide +kernel
theorem dX10_notMoved_91 : decode cX10_notMoved 91 = .ok (.iload 4, 2) := by decide +kernel
theorem dX10_notMoved_93 : decode cX10_notMoved 93 = .ok (.isub, 1) := by decide +kernel
theorem dX10_notMoved_94 : decode cX10_notMoved 94 = .ok (.if_icmp .gt 7, 3) := by decide +kernel
theorem dX10_notMoved_97 : decode cX10_notMoved 97 = .ok (.iconst 1, 1) := by decide +kernel
theorem dX10_notMoved_98 : decode cX10_notMoved 98 = .ok (.goto 4, 3) := by decide +kernel
theorem dX10_notMoved_101 : decode cX10_notMoved 101 = .ok (.iconst 0, 1) := by decide +kernel
theorem dX10_notMoved_102 : decode cX10_notMoved 102 = .ok (.istore 6, 2) := by decide +kernel
theorem dX10_notMoved_104 : decode cX10_notMoved 104 = .ok (.iload 6, 2) := by decide +kernel
theorem dX10_notMoved_106 : decode cX10_notMoved 106 = .ok (.ifCond .eq 7, 3) := by decide +kernel
theorem dX10_notMoved_109 : decode cX10_notMoved 109 = .ok (.iconst 0, 1) := by decide +kernel
theorem dX10_notMoved_110 : decode cX10_notMoved 110 = .ok (.goto 5, 3) := by decide +kernel
theorem dX10_notMoved_113 : decode cX10_notMoved 113 = .ok (.ldc 94, 2) := by decide +kernel
theorem dX10_notMoved_115 : decode cX10_notMoved 115 = .ok (.ireturn, 1) := by decide +kernel
theorem dX10_move_0 : decode cX10_move 0 = .ok (.aload_n 0, 1) := by decide +kernel
theorem dX10_move_1 : decode cX10_move 1 = .ok (.iload_n 1, 1) := by decide +kernel
theorem dX10_move_2 : decode cX10_move 2 = .ok (.iload_n 2, 1) := by decide +kernel
theorem dX10_move_3 : decode cX10_move 3 = .ok (.iload_n 3, 1) := by decide +kernel
theorem dX10_move_4 : decode cX10_move 4 = .ok (.iload 4, 2) := by decide +kernel
theorem dX10_move_6 : decode cX10_move 6 = .ok (.iload 5, 2) := by decide +kernel
theorem dX10_move_8 : decode cX10_move 8 = .ok (.invokevirtual 271, 3) := by decide +kernel
theorem dX10_move_11 : decode cX10_move 11 = .ok (.istore 6, 2) := by decide +kernel
theorem dX10_move_13 : decode cX10_move 13 = .ok (.iload 6, 2) := by decide +kernel
theorem dX10_move_15 : decode cX10_move 15 = .ok (.ifCond .eq 10, 3) := by decide +kernel
theorem dX10_move_18 : decode cX10_move 18 = .ok (.aload_n 0, 1) := by decide +kernel
theorem dX10_move_19 : decode cX10_move 19 = .ok (.iload 6, 2) := by decide +kernel
theorem dX10_move_21 : decode cX10_move 21 = .ok (.invokevirtual 95, 3) := by decide +kernel
theorem dX10_move_24 : decode cX10_move 24 = .ok (.ireturn, 1) := by decide +kernel
theorem dX10_move_25 : decode cX10_move 25 = .ok (.iconst 0, 1) := by decide +kernel
theorem dX10_move_26 : decode cX10_move 26 = .ok (.istore 7, 2) := by decide +kernel
theorem dX10_move_28 : decode cX10_move 28 = .ok (.iload 7, 2) := by decide +kernel
theorem dX10_move_30 : decode cX10_move 30 = .ok (.iload 5, 2) := by decide +kernel
theorem dX10_move_32 : decode cX10_move 32 = .ok (.if_icmp .ge 58, 3) := by decide +kernel
theorem dX10_move_35 : decode cX10_move 35 = .ok (.iload_n 2, 1) := by decide +kernel
theorem dX10_move_36 : decode cX10_move 36 = .ok (.iload 4, 2) := by decide +kernel
theorem dX10_move_38 : decode cX10_move 38 = .ok (.if_icmp .ge 13, 3) := by decide +kernel
theorem dX10_move_41 : decode cX10_move 41 = .ok (.iload 5, 2) := by decide +kernel
theorem dX10_move_43 : decode cX10_move 43 = .ok (.iconst 1, 1) := by decide +kernel
theorem dX10_move_44 : decode cX10_move 44 = .ok (.isub, 1) := by decide +kernel
theorem dX10_move_45 : decode cX10_move 45 = .ok (.iload 7, 2) := by decide +kernel
theorem dX10_move_47 : decode cX10_move 47 = .ok (.isub, 1) := by decide +kernel
theorem dX10_move_48 : decode cX10_move 48 = .ok (.goto 5, 3) := by decide +kernel
theorem dX10_move_51 : decode cX10_move 51 = .ok (.iload 7, 2) := by decide +kernel
theorem dX10_move_53 : decode cX10_move 53 = .ok (.istore 8, 2) := by decide +kernel
theorem dX10_move_55 : decode cX10_move 55 = .ok (.aload_n 0, 1) := by decide +kernel
theorem dX10_move_56 : decode cX10_move 56 = .ok (.getfield 28, 3) := by decide +kernel
theorem dX10_move_59 : decode cX10_move 59 = .ok (.bipush 24, 2) := by decide +kernel
theorem dX10_move_61 : decode cX10_move 61 = .ok (.iload_n 3, 1) := by decide +kernel
theorem dX10_move_62 : decode cX10_move 62 = .ok (.imul, 1) := by decide +kernel
theorem dX10_move_63 : decode cX10_move 63 = .ok (.iload 4, 2) := by decide +kernel
theorem dX10_move_65 : decode cX10_move 65 = .ok (.iadd, 1) := by decide +kernel
theorem dX10_move_66 : decode cX10_move 66 = .ok (.iload 8, 2) := by decide +kernel
theorem dX10_move_68 : decode cX10_move 68 = .ok (.iadd, 1) := by decide +kernel
theorem dX10_move_69 : decode cX10_move 69 = .ok (.aload_n 0, 1) := by decide +kernel
theorem dX10_move_70 : decode cX10_move 70 = .ok (.getfield 28, 3) := by decide +kernel
theorem dX10_move_73 : decode cX10_move 73 = .ok (.bipush 24, 2) := by decide +kernel
theorem dX10_move_75 : decode cX10_move 75 = .ok (.iload_n 1, 1) := by decide +kernel
theorem dX10_move_76 : decode cX10_move 76 = .ok (.imul, 1) := by decide +kernel
theorem dX10_move_77 : decode cX10_move 77 = .ok (.iload_n 2, 1) := by decide +kernel
theorem dX10_move_78 : decode cX10_move 78 = .ok (.iadd, 1) := by decide +kernel
theorem dX10_move_79 : decode cX10_move 79 = .ok (.iload 8, 2) := by decide +kernel
theorem dX10_move_81 : decode cX10_move 81 = .ok (.iadd, 1) := by decide +kernel
theorem dX10_move_82 : decode cX10_move 82 = .ok (.iaload, 1) := by decide +kernel
theorem dX10_move_83 : decode cX10_move 83 = .ok (.iastore, 1) := by decide +kernel
theorem dX10_move_84 : decode cX10_move 84 = .ok (.iinc 7 1, 3) := by decide +kernel
theorem dX10_move_87 : decode cX10_move 87 = .ok (.goto (-59), 3) := by decide +kernel
theorem dX10_move_90 : decode cX10_move 90 = .ok (.iload 5, 2) := by decide +kernel
theorem dX10_move_92 : decode cX10_move 92 = .ok (.ireturn, 1) := by decide +kernel
theorem dX10_lines_0 : decode cX10_lines 0 = .ok (.aload_n 0, 1) := by decide +kernel
theorem dX10_lines_1 : decode cX10_lines 1 = .ok (.iload_n 1, 1) := by decide +kernel
theorem dX10_lines_2 : decode cX10_lines 2 = .ok (.invokevirtual 221, 3) := by decide +kernel
theorem dX10_lines_5 : decode cX10_lines 5 = .ok (.istore_n 2, 1) := by decide +kernel
theorem dX10_lines_6 : decode cX10_lines 6 = .ok (.iload_n 2, 1) := by decide +kernel
theorem dX10_lines_7 : decode cX10_lines 7 = .ok (.ifCond .eq 9, 3) := by decide +kernel
theorem dX10_lines_10 : decode cX10_lines 10 = .ok (.aload_n 0, 1) := by decide +kernel
theorem dX10_lines_11 : decode cX10_lines 11 = .ok (.iload_n 2, 1) := by decide +kernel
theorem dX10_lines_12 : decode cX10_lines 12 = .ok (.invokevirtual 95, 3) := by decide +kernel
theorem dX10_lines_15 : decode cX10_lines 15 = .ok (.ireturn, 1) := by decide +kernel
theorem dX10_lines_16 : decode cX10_lines 16 = .ok (.iconst 0, 1) := by decide +kernel
theorem dX10_lines_17 : decode cX10_lines 17 = .ok (.istore_n 3, 1) := by decide +kernel
theorem dX10_lines_18 : decode cX10_lines 18 = .ok (.iload_n 3, 1) := by decide +kernel
theorem dX10_lines_19 : decode cX10_lines 19 = .ok (.aload_n 0, 1) := by decide +kernel
theorem dX10_lines_20 : decode cX10_lines 20 = .ok (.getfield 25, 3) := by decide +kernel
theorem dX10_lines_23 : decode cX10_lines 23 = .ok (.iload_n 1, 1) := by decide +kernel
theorem dX10_lines_24 : decode cX10_lines 24 = .ok (.iaload, 1) := by decide +kernel
theorem dX10_lines_25 : decode cX10_lines 25 = .ok (.if_icmp .ge 76, 3) := by decide +kernel
theorem dX10_lines_28 : decode cX10_lines 28 = .ok (.iload_n 3, 1) := by decide +kernel
theorem dX10_lines_29 : decode cX10_lines 29 = .ok (.aload_n 0, 1) := by decide +kernel
theorem dX10_lines_30 : decode cX10_lines 30 = .ok (.getfield 9, 3) := by decide +kernel
theorem dX10_lines_33 : decode cX10_lines 33 = .ok (.iconst 2, 1) := by decide +kernel
theorem dX10_lines_34 : decode cX10_lines 34 = .ok (.iaload, 1) := by decide +kernel
theorem dX10_lines_35 : decode cX10_lines 35 = .ok (.if_icmp .ge 66, 3) := by decide +kernel
theorem dX10_lines_38 : decode cX10_lines 38 = .ok (.aload_n 0, 1) := by decide +kernel
theorem dX10_lines_39 : decode cX10_lines 39 = .ok (.getfield 28, 3) := by decide +kernel
theorem dX10_lines_42 : decode cX10_lines 42 = .ok (.bipush 24, 2) := by decide +kernel
theorem dX10_lines_44 : decode cX10_lines 44 = .ok (.iload_n 1, 1) := by decide +kernel
theorem dX10_lines_45 : decode cX10_lines 45 = .ok (.imul, 1) := by decide +kernel
theorem dX10_lines_46 : decode cX10_lines 46 = .ok (.iload_n 3, 1) := by decide +kernel
theorem dX10_lines_47 : decode cX10_lines 47 = .ok (.iadd, 1) := by decide +kernel
theorem dX10_lines_48 : decode cX10_lines 48 = .ok (.iaload, 1) := by decide +kernel
theorem dX10_lines_49 : decode cX10_lines 49 = .ok (.invokestatic 91, 3) := by decide +kernel
theorem dX10_lines_52 : decode cX10_lines 52 = .ok (.ifCond .eq 49, 3) := by decide +kernel
theorem dX10_lines_55 : decode cX10_lines 55 = .ok (.aload_n 0, 1) := by decide +kernel
theorem dX10_lines_56 : decode cX10_lines 56 = .ok (.iload_n 3, 1) := by decide +kernel
theorem dX10_lines_57 : decode cX10_lines 57 = .ok (.iconst 2, 1) := by decide +kernel
theorem dX10_lines_58 : decode cX10_lines 58 = .ok (.aload_n 0, 1) := by decide +kernel
theorem dX10_lines_59 : decode cX10_lines 59 = .ok (.getfield 28, 3) := by decide +kernel
theorem dX10_lines_62 : decode cX10_lines 62 = .ok (.bipush 24, 2) := by decide +kernel
theorem dX10_lines_64 : decode cX10_lines 64 = .ok (.iload_n 1, 1) := by decide +kernel
theorem dX10_lines_65 : decode cX10_lines 65 = .ok (.imul, 1) := by decide +kernel
theorem dX10_lines_66 : decode cX10_lines 66 = .ok (.iload_n 3, 1) := by decide +kernel
theorem dX10_lines_67 : decode cX10_lines 67 = .ok (.iadd, 1) := by decide +kernel
theorem dX10_lines_68 : decode cX10_lines 68 = .ok (.iaload, 1) := by decide +kernel
theorem dX10_lines_69 : decode cX10_lines 69 = .ok (.bipush 10, 2) := by decide +kernel
theorem dX10_lines_71 : decode cX10_lines 71 = .ok (.idiv, 1) := by decide +kernel
theorem dX10_lines_72 : decode cX10_lines 72 = .ok (.invokevirtual 84, 3) := by decide +kernel
theorem dX10_lines_75 : decode cX10_lines 75 = .ok (.aload_n 0, 1) := by decide +kernel
theorem dX10_lines_76 : decode cX10_lines 76 = .ok (.iload_n 3, 1) := by decide +kernel
theorem dX10_lines_77 : decode cX10_lines 77 = .ok (.iconst 3, 1) := by decide +kernel
theorem dX10_lines_78 : decode cX10_lines 78 = .ok (.aload_n 0, 1) := by decide +kernel
theorem dX10_lines_79 : decode cX10_lines 79 = .ok (.getfield 28, 3) := by decide +kernel
theorem dX10_lines_82 : decode cX10_lines 82 = .ok (.bipush 24, 2) := by decide +kernel
theorem dX10_lines_84 : decode cX10_lines 84 = .ok (.iload_n 1, 1) := by decide +kernel
theorem dX10_lines_85 : decode cX10_lines 85 = .ok (.imul, 1) := by decide +kernel
theorem dX10_lines_86 : decode cX10_lines 86 = .ok (.iload_n 3, 1) := by decide +kernel
theorem dX10_lines_87 : decode cX10_lines 87 = .ok (.iadd, 1) := by decide +kernel
theorem dX10_lines_88 : decode cX10_lines 88 = .ok (.iaload, 1) := by decide +kernel
theorem dX10_lines_89 : decode cX10_lines 89 = .ok (.bipush 10, 2) := by decide +kernel
theorem dX10_lines_91 : decode cX10_lines 91 = .ok (.irem, 1) := by decide +kernel
theorem dX10_lines_92 : decode cX10_lines 92 = .ok (.invokevirtual 84, 3) := by decide +kernel
theorem dX10_lines_95 : decode cX10_lines 95 = .ok (.iinc 3 1, 3) := by decide +kernel
theorem dX10_lines_98 : decode cX10_lines 98 = .ok (.goto (-80), 3) := by decide +kernel
theorem dX10_lines_101 : decode cX10_lines 101 = .ok (.iload_n 3, 1) := by decide +kernel
theorem dX10_lines_102 : decode cX10_lines 102 = .ok (.ireturn, 1) := by decide +kernel
theorem dX10_judge_0 : decode cX10_judge 0 = .ok (.aload_n 0, 1) := by decide +kernel
theorem dX10_judge_1 : decode cX10_judge 1 = .ok (.iload_n 1, 1) := by decide +kernel
theorem dX10_judge_2 : decode cX10_judge 2 = .ok (.invokevirtual 221, 3) := by decide +kernel
theorem dX10_judge_5 : decode cX10_judge 5 = .ok (.istore_n 2, 1) := by decide +kernel
theorem dX10_judge_6 : decode cX10_judge 6 = .ok (.iload_n 2, 1) := by decide +kernel
theorem dX10_judge_7 : decode cX10_judge 7 = .ok (.ifCond .eq 9, 3) := by decide +kernel
theorem dX10_judge_10 : decode cX10_judge 10 = .ok (.aload_n 0, 1) := by decide +kernel
theorem dX10_judge_11 : decode cX10_judge 11 = .ok (.iload_n 2, 1) := by decide +kernel
theorem dX10_judge_12 : decode cX10_judge 12 = .ok (.invokevirtual 95, 3) := by decide +kernel
theorem dX10_judge_15 : decode cX10_judge 15 = .ok (.ireturn, 1) := by decide +kernel
theorem dX10_judge_16 : decode cX10_judge 16 = .ok (.iconst 0, 1) := by decide +kernel
theorem dX10_judge_17 : decode cX10_judge 17 = .ok (.istore_n 3, 1) := by decide +kernel
theorem dX10_judge_18 : decode cX10_judge 18 = .ok (.iload_n 3, 1) := by decide +kernel
theorem dX10_judge_19 : decode cX10_judge 19 = .ok (.aload_n 0, 1) := by decide +kernel
theorem dX10_judge_20 : decode cX10_judge 20 = .ok (.getfield 25, 3) := by decide +kernel
theorem dX10_judge_23 : decode cX10_judge 23 = .ok (.iload_n 1, 1) := by decide +kernel
theorem dX10_judge_24 : decode cX10_judge 24 = .ok (.iaload, 1) := by decide +kernel
theorem dX10_judge_25 : decode cX10_judge 25 = .ok (.if_icmp .ge 38, 3) := by decide +kernel
theorem dX10_judge_28 : decode cX10_judge 28 = .ok (.iload_n 3, 1) := by decide +kernel
theorem dX10_judge_29 : decode cX10_judge 29 = .ok (.aload_n 0, 1) := by decide +kernel
theorem dX10_judge_30 : decode cX10_judge 30 = .ok (.getfield 9, 3) := by decide +kernel
theorem dX10_judge_33 : decode cX10_judge 33 = .ok (.iconst 2, 1) := by decide +kernel
theorem dX10_judge_34 : decode cX10_judge 34 = .ok (.iaload, 1) := by decide +kernel
theorem dX10_judge_35 : decode cX10_judge 35 = .ok (.if_icmp .ge 28, 3) := by decide +kernel
theorem dX10_judge_38 : decode cX10_judge 38 = .ok (.aload_n 0, 1) := by decide +kernel
theorem dX10_judge_39 : decode cX10_judge 39 = .ok (.getfield 28, 3) := by decide +kernel
theorem dX10_judge_42 : decode cX10_judge 42 = .ok (.bipush 24, 2) := by decide +kernel
theorem dX10_judge_44 : decode cX10_judge 44 = .ok (.iload_n 1, 1) := by decide +kernel
theorem dX10_judge_45 : decode cX10_judge 45 = .ok (.imul, 1) := by decide +kernel
theorem dX10_judge_46 : decode cX10_judge 46 = .ok (.iload_n 3, 1) := by decide +kernel
theorem dX10_judge_47 : decode cX10_judge 47 = .ok (.iadd, 1) := by decide +kernel
theorem dX10_judge_48 : decode cX10_judge 48 = .ok (.iaload, 1) := by decide +kernel
theorem dX10_judge_49 : decode cX10_judge 49 = .ok (.aload_n 0, 1) := by decide +kernel
theorem dX10_judge_50 : decode cX10_judge 50 = .ok (.iload_n 3, 1) := by decide +kernel
theorem dX10_judge_51 : decode cX10_judge 51 = .ok (.invokevirtual 105, 3) := by decide +kernel
theorem dX10_judge_54 : decode cX10_judge 54 = .ok (.if_icmp .ne 9, 3) := by decide +kernel
theorem dX10_judge_57 : decode cX10_judge 57 = .ok (.iinc 3 1, 3) := by decide +kernel
theorem dX10_judge_60 : decode cX10_judge 60 = .ok (.goto (-42), 3) := by decide +kernel
theorem dX10_judge_63 : decode cX10_judge 63 = .ok (.iload_n 3, 1) := by decide +kernel
theorem dX10_judge_64 : decode cX10_judge 64 = .ok (.ireturn, 1) := by decide +kernel
theorem dX10_image_0 : decode cX10_image 0 = .ok (.aload_n 0, 1) := by decide +kernel
theorem dX10_image_1 : decode cX10_image 1 = .ok (.getfield 9, 3) := by decide +kernel
theorem dX10_image_4 : decode cX10_image 4 = .ok (.aload_n 0, 1) := by decide +kernel
theorem dX10_image_5 : decode cX10_image 5 = .ok (.getfield 13, 3) := by decide +kernel
theorem dX10_image_8 : decode cX10_image 8 = .ok (.invokestatic 50, 3) := by decide +kernel
theorem dX10_image_11 : decode cX10_image 11 = .ok (.aload_n 0, 1) := by decide +kernel
theorem dX10_image_12 : decode cX10_image 12 = .ok (.dup, 1) := by decide +kernel
theorem dX10_image_13 : decode cX10_image 13 = .ok (.getfield 275, 3) := by decide +kernel
theorem dX10_image_16 : decode cX10_image 16 = .ok (.iconst 1, 1) := by decide +kernel
theorem dX10_image_17 : decode cX10_image 17 = .ok (.iadd, 1) := by decide +kernel
theorem dX10_image_18 : decode cX10_image 18 = .ok (.putfield 275, 3) := by decide +kernel
theorem dX10_image_21 : decode cX10_image 21 = .ok (.aload_n 0, 1) := by decide +kernel
theorem dX10_image_22 : decode cX10_image 22 = .ok (.getfield 275, 3) := by decide +kernel
theorem dX10_image_25 : decode cX10_image 25 = .ok (.ireturn, 1) := by decide +kernel
theorem dX10_restore_0 : decode cX10_restore 0 = .ok (.aload_n 0, 1) := by decide +kernel
theorem dX10_restore_1 : decode cX10_restore 1 = .ok (.getfield 275, 3) := by decide +kernel
theorem dX10_restore_4 : decode cX10_restore 4 = .ok (.ifCond .ne 10, 3) := by decide +kernel
theorem dX10_restore_7 : decode cX10_restore 7 = .ok (.aload_n 0, 1) := by decide +kernel
theorem dX10_restore_8 : decode cX10_restore 8 = .ok (.ldc 227, 2) := by decide +kernel
theorem dX10_restore_10 : decode cX10_restore 10 = .ok (.invokevirtual 95, 3) := by decide +kernel
theorem dX10_restore_13 : decode cX10_restore 13 = .ok (.ireturn, 1) := by decide +kernel
theorem dX10_restore_14 : decode cX10_restore 14 = .ok (.aload_n 0, 1) := by decide +kernel
theorem dX10_restore_15 : decode cX10_restore 15 = .ok (.getfield 13, 3) := by decide +kernel
theorem dX10_restore_18 : decode cX10_restore 18 = .ok (.aload_n 0, 1) := by decide +kernel
theorem dX10_restore_19 : decode cX10_restore 19 = .ok (.getfield 9, 3) := by decide +kernel
theorem dX10_restore_22 : decode cX10_restore 22 = .ok (.invokestatic 50, 3) := by decide +kernel
theorem dX10_restore_25 : decode cX10_restore 25 = .ok (.aload_n 0, 1) := by decide +kernel
theorem dX10_restore_26 : decode cX10_restore 26 = .ok (.getfield 9, 3) := by decide +kernel
theorem dX10_restore_29 : decode cX10_restore 29 = .ok (.iconst 0, 1) := by decide +kernel
theorem dX10_restore_30 : decode cX10_restore 30 = .ok (.iaload, 1) := by decide +kernel
theorem dX10_restore_31 : decode cX10_restore 31 = .ok (.ireturn, 1) := by decide +kernel
theorem dX10_tell_0 : decode cX10_tell 0 = .ok (.aload_n 0, 1) := by decide +kernel
theorem dX10_tell_1 : decode cX10_tell 1 = .ok (.getfield 9, 3) := by decide +kernel
theorem dX10_tell_4 : decode cX10_tell 4 = .ok (.iconst 5, 1) := by decide +kernel
theorem dX10_tell_5 : decode cX10_tell 5 = .ok (.iaload, 1) := by decide +kernel
theorem dX10_tell_6 : decode cX10_tell 6 = .ok (.bipush 24, 2) := by decide +kernel
theorem dX10_tell_8 : decode cX10_tell 8 = .ok (.if_icmp .ne 10, 3) := by decide +kernel
theorem dX10_tell_11 : decode cX10_tell 11 = .ok (.aload_n 0, 1) := by decide +kernel
theorem dX10_tell_12 : decode cX10_tell 12 = .ok (.ldc 98, 2) := by decide +kernel
theorem dX10_tell_14 : decode cX10_tell 14 = .ok (.invokevirtual 95, 3) := by decide +kernel
theorem dX10_tell_17 : decode cX10_tell 17 = .ok (.ireturn, 1) := by decide +kernel
theorem dX10_tell_18 : decode cX10_tell 18 = .ok (.aload_n 0, 1) := by decide +kernel
theorem dX10_tell_19 : decode cX10_tell 19 = .ok (.getfield 9, 3) := by decide +kernel
theorem dX10_tell_22 : decode cX10_tell 22 = .ok (.sipush 150, 3) := by decide +kernel
theorem dX10_tell_25 : decode cX10_tell 25 = .ok (.aload_n 0, 1) := by decide +kernel
theorem dX10_tell_26 : decode cX10_tell 26 = .ok (.getfield 9, 3) := by decide +kernel
theorem dX10_tell_29 : decode cX10_tell 29 = .ok (.iconst 5, 1) := by decide +kernel
theorem dX10_tell_30 : decode cX10_tell 30 = .ok (.iaload, 1) := by decide +kernel
theorem dX10_tell_31 : decode cX10_tell 31 = .ok (.iadd, 1) := by decide +kernel
theorem dX10_tell_32 : decode cX10_tell 32 = .ok (.iload_n 1, 1) := by decide +kernel
theorem dX10_tell_33 : decode cX10_tell 33 = .ok (.iastore, 1) := by decide +kernel
theorem dX10_tell_34 : decode cX10_tell 34 = .ok (.aload_n 0, 1) := by decide +kernel
theorem dX10_tell_35 : decode cX10_tell 35 = .ok (.getfield 9, 3) := by decide +kernel
theorem dX10_tell_38 : decode cX10_tell 38 = .ok (.iconst 5, 1) := by decide +kernel
theorem dX10_tell_39 : decode cX10_tell 39 = .ok (.dup2, 1) := by decide +kernel
theorem dX10_tell_40 : decode cX10_tell 40 = .ok (.iaload, 1) := by decide +kernel
theorem dX10_tell_41 : decode cX10_tell 41 = .ok (.iconst 1, 1) := by decide +kernel
theorem dX10_tell_42 : decode cX10_tell 42 = .ok (.iadd, 1) := by decide +kernel
theorem dX10_tell_43 : decode cX10_tell 43 = .ok (.iastore, 1) := by decide +kernel
theorem dX10_tell_44 : decode cX10_tell 44 = .ok (.aload_n 0, 1) := by decide +kernel
theorem dX10_tell_45 : decode cX10_tell 45 = .ok (.getfield 9, 3) := by decide +kernel
theorem dX10_tell_48 : decode cX10_tell 48 = .ok (.iconst 5, 1) := by decide +kernel
theorem dX10_tell_49 : decode cX10_tell 49 = .ok (.iaload, 1) := by decide +kernel
theorem dX10_tell_50 : decode cX10_tell 50 = .ok (.ireturn, 1) := by decide +kernel
theorem dX10_check_0 : decode cX10_check 0 = .ok (.aload_n 0, 1) := by decide +kernel
theorem dX10_check_1 : decode cX10_check 1 = .ok (.getfield 9, 3) := by decide +kernel
theorem dX10_check_4 : decode cX10_check 4 = .ok (.iconst 5, 1) := by decide +kernel
theorem dX10_check_5 : decode cX10_check 5 = .ok (.iaload, 1) := by decide +kernel
theorem dX10_check_6 : decode cX10_check 6 = .ok (.istore_n 1, 1) := by decide +kernel
theorem dX10_check_7 : decode cX10_check 7 = .ok (.aload_n 0, 1) := by decide +kernel
theorem dX10_check_8 : decode cX10_check 8 = .ok (.getfield 9, 3) := by decide +kernel
theorem dX10_check_11 : decode cX10_check 11 = .ok (.iconst 5, 1) := by decide +kernel
theorem dX10_check_12 : decode cX10_check 12 = .ok (.iconst 0, 1) := by decide +kernel
theorem dX10_check_13 : decode cX10_check 13 = .ok (.iastore, 1) := by decide +kernel
theorem dX10_check_14 : decode cX10_check 14 = .ok (.iconst 0, 1) := by decide +kernel
theorem dX10_check_15 : decode cX10_check 15 = .ok (.istore_n 2, 1) := by decide +kernel
theorem dX10_check_16 : decode cX10_check 16 = .ok (.iload_n 2, 1) := by decide +kernel
theorem dX10_check_17 : decode cX10_check 17 = .ok (.iload_n 1, 1) := by decide +kernel
theorem dX10_check_18 : decode cX10_check 18 = .ok (.if_icmp .ge 40, 3) := by decide +kernel
theorem dX10_check_21 : decode cX10_check 21 = .ok (.aload_n 0, 1) := by decide +kernel
theorem dX10_check_22 : decode cX10_check 22 = .ok (.iload_n 2, 1) := by decide +kernel
theorem dX10_check_23 : decode cX10_check 23 = .ok (.invokevirtual 102, 3) := by decide +kernel
theorem dX10_check_26 : decode cX10_check 26 = .ok (.ifCond .eq 22, 3) := by decide +kernel
theorem dX10_check_29 : decode cX10_check 29 = .ok (.aload_n 0, 1) := by decide +kernel
theorem dX10_check_30 : decode cX10_check 30 = .ok (.getfield 9, 3) := by decide +kernel
theorem dX10_check_33 : decode cX10_check 33 = .ok (.sipush 150, 3) := by decide +kernel
theorem dX10_check_36 : decode cX10_check 36 = .ok (.iload_n 2, 1) := by decide +kernel
theorem dX10_check_37 : decode cX10_check 37 = .ok (.iadd, 1) := by decide +kernel
theorem dX10_check_38 : decode cX10_check 38 = .ok (.iaload, 1) := by decide +kernel
theorem dX10_check_39 : decode cX10_check 39 = .ok (.aload_n 0, 1) := by decide +kernel
theorem dX10_check_40 : decode cX10_check 40 = .ok (.iload_n 2, 1) := by decide +kernel
theorem dX10_check_41 : decode cX10_check 41 = .ok (.iconst 5, 1) := by decide +kernel
theorem dX10_check_42 : decode cX10_check 42 = .ok (.invokevirtual 58, 3) := by decide +kernel
theorem dX10_check_45 : decode cX10_check 45 = .ok (.if_icmp .eq 7, 3) := by decide +kernel
theorem dX10_check_48 : decode cX10_check 48 = .ok (.iconst 1, 1) := by decide +kernel
theorem dX10_check_49 : decode cX10_check 49 = .ok (.iload_n 2, 1) := by decide +kernel
theorem dX10_check_50 : decode cX10_check 50 = .ok (.iadd, 1) := by decide +kernel
theorem dX10_check_51 : decode cX10_check 51 = .ok (.ireturn, 1) := by decide +kernel
theorem dX10_check_52 : decode cX10_check 52 = .ok (.iinc 2 1, 3) := by decide +kernel
theorem dX10_check_55 : decode cX10_check 55 = .ok (.goto (-39), 3) := by decide +kernel
theorem dX10_check_58 : decode cX10_check 58 = .ok (.iconst 0, 1) := by decide +kernel
theorem dX10_check_59 : decode cX10_check 59 = .ok (.ireturn, 1) := by decide +kernel
theorem dX10_count_0 : decode cX10_count 0 = .ok (.iload_n 1, 1) := by decide +kernel
theorem dX10_count_1 : decode cX10_count 1 = .ok (.tableswitch 102 0 7 #[47, 54, 62, 69, 76, 83, 90, 95], 47) := by decide +kernel
theorem dX10_count_48 : decode cX10_count 48 = .ok (.aload_n 0, 1) := by decide +kernel
theorem dX10_count_49 : decode cX10_count 49 = .ok (.getfield 9, 3) := by decide +kernel
theorem dX10_count_52 : decode cX10_count 52 = .ok (.iconst 2, 1) := by decide +kernel
theorem dX10_count_53 : decode cX10_count 53 = .ok (.iaload, 1) := by decide +kernel
theorem dX10_count_54 : decode cX10_count 54 = .ok (.ireturn, 1) := by decide +kernel
theorem dX10_count_55 : decode cX10_count 55 = .ok (.aload_n 0, 1) := by decide +kernel
theorem dX10_count_56 : decode cX10_count 56 = .ok (.invokevirtual 184, 3) := by decide +kernel
theorem dX10_count_59 : decode cX10_count 59 = .ok (.invokestatic 187, 3) := by decide +kernel
theorem dX10_count_62 : decode cX10_count 62 = .ok (.ireturn, 1) := by decide +kernel
theorem dX10_count_63 : decode cX10_count 63 = .ok (.aload_n 0, 1) := by decide +kernel
theorem dX10_count_64 : decode cX10_count 64 = .ok (.getfield 9, 3) := by decide +kernel
theorem dX10_count_67 : decode cX10_count 67 = .ok (.iconst 0, 1) := by decide +kernel
theorem dX10_count_68 : decode cX10_count 68 = .ok (.iaload, 1) := by decide +kernel
theorem dX10_count_69 : decode cX10_count 69 = .ok (.ireturn, 1) := by decide +kernel
theorem dX10_count_70 : decode cX10_count 70 = .ok (.aload_n 0, 1) := by decide +kernel
theorem dX10_count_71 : decode cX10_count 71 = .ok (.getfield 9, 3) := by decide +kernel
theorem dX10_count_74 : decode cX10_count 74 = .ok (.iconst 3, 1) := by decide +kernel
theorem dX10_count_75 : decode cX10_count 75 = .ok (.iaload, 1) := by decide +kernel
theorem dX10_count_76 : decode cX10_count 76 = .ok (.ireturn, 1) := by decide +kernel
theorem dX10_count_77 : decode cX10_count 77 = .ok (.aload_n 0, 1) := by decide +kernel
theorem dX10_count_78 : decode cX10_count 78 = .ok (.getfield 9, 3) := by decide +kernel
theorem dX10_count_81 : decode cX10_count 81 = .ok (.iconst 4, 1) := by decide +kernel
theorem dX10_count_82 : decode cX10_count 82 = .ok (.iaload, 1) := by decide +kernel
theorem dX10_count_83 : decode cX10_count 83 = .ok (.ireturn, 1) := by decide +kernel
theorem dX10_count_84 : decode cX10_count 84 = .ok (.aload_n 0, 1) := by decide +kernel
theorem dX10_count_85 : decode cX10_count 85 = .ok (.getfield 9, 3) := by decide +kernel
theorem dX10_count_88 : decode cX10_count 88 = .ok (.iconst 5, 1) := by decide +kernel
theorem dX10_count_89 : decode cX10_count 89 = .ok (.iaload, 1) := by decide +kernel
theorem dX10_count_90 : decode cX10_count 90 = .ok (.ireturn, 1) := by decide +kernel
theorem dX10_count_91 : decode cX10_count 91 = .ok (.aload_n 0, 1) := by decide +kernel
theorem dX10_count_92 : decode cX10_count 92 = .ok (.getfield 228, 3) := by decide +kernel
theorem dX10_count_95 : decode cX10_count 95 = .ok (.ireturn, 1) := by decide +kernel
theorem dX10_count_96 : decode cX10_count 96 = .ok (.aload_n 0, 1) := by decide +kernel
theorem dX10_count_97 : decode cX10_count 97 = .ok (.getfield 9, 3) := by decide +kernel
theorem dX10_count_100 : decode cX10_count 100 = .ok (.iconst 1, 1) := by decide +kernel
theorem dX10_count_101 : decode cX10_count 101 = .ok (.iaload, 1) := by decide +kernel
theorem dX10_count_102 : decode cX10_count 102 = .ok (.ireturn, 1) := by decide +kernel
theorem dX10_count_103 : decode cX10_count 103 = .ok (.aload_n 0, 1) := by decide +kernel
theorem dX10_count_104 : decode cX10_count 104 = .ok (.ldc 94, 2) := by decide +kernel
theorem dX10_count_106 : decode cX10_count 106 = .ok (.invokevirtual 95, 3) := by decide +kernel
theorem dX10_count_109 : decode cX10_count 109 = .ok (.ireturn, 1) := by decide +kernel
theorem dX10_told_0 : decode cX10_told 0 = .ok (.iload_n 1, 1) := by decide +kernel
theorem dX10_told_1 : decode cX10_told 1 = .ok (.iconst 1, 1) := by decide +kernel
theorem dX10_told_2 : decode cX10_told 2 = .ok (.bipush 6, 2) := by decide +kernel
theorem dX10_told_4 : decode cX10_told 4 = .ok (.invokestatic 54, 3) := by decide +kernel
theorem dX10_told_7 : decode cX10_told 7 = .ok (.ifCond .eq 12, 3) := by decide +kernel
theorem dX10_told_10 : decode cX10_told 10 = .ok (.aload_n 0, 1) := by decide +kernel
theorem dX10_told_11 : decode cX10_told 11 = .ok (.getfield 19, 3) := by decide +kernel
theorem dX10_told_14 : decode cX10_told 14 = .ok (.iload_n 1, 1) := by decide +kernel
theorem dX10_told_15 : decode cX10_told 15 = .ok (.iaload, 1) := by decide +kernel
theorem dX10_told_16 : decode cX10_told 16 = .ok (.goto 9, 3) := by decide +kernel
theorem dX10_told_19 : decode cX10_told 19 = .ok (.aload_n 0, 1) := by decide +kernel
theorem dX10_told_20 : decode cX10_told 20 = .ok (.ldc 94, 2) := by decide +kernel
theorem dX10_told_22 : decode cX10_told 22 = .ok (.invokevirtual 95, 3) := by decide +kernel
theorem dX10_told_25 : decode cX10_told 25 = .ok (.ireturn, 1) := by decide +kernel

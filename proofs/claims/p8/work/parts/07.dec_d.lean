theorem dX7_init_0 : decode cX7_init 0 = .ok (.aload_n 0, 1) := by decide +kernel
theorem dX7_init_1 : decode cX7_init 1 = .ok (.invokespecial 5, 3) := by decide +kernel
theorem dX7_init_4 : decode cX7_init 4 = .ok (.aload_n 0, 1) := by decide +kernel
theorem dX7_init_5 : decode cX7_init 5 = .ok (.iconst (-1), 1) := by decide +kernel
theorem dX7_init_6 : decode cX7_init 6 = .ok (.putfield 11, 3) := by decide +kernel
theorem dX7_init_9 : decode cX7_init 9 = .ok (.aload_n 0, 1) := by decide +kernel
theorem dX7_init_10 : decode cX7_init 10 = .ok (.bipush 25, 2) := by decide +kernel
theorem dX7_init_12 : decode cX7_init 12 = .ok (.newarray .int, 2) := by decide +kernel
theorem dX7_init_14 : decode cX7_init 14 = .ok (.putfield 15, 3) := by decide +kernel
theorem dX7_init_17 : decode cX7_init 17 = .ok (.aload_n 0, 1) := by decide +kernel
theorem dX7_init_18 : decode cX7_init 18 = .ok (.bipush 30, 2) := by decide +kernel
theorem dX7_init_20 : decode cX7_init 20 = .ok (.newarray .int, 2) := by decide +kernel
theorem dX7_init_22 : decode cX7_init 22 = .ok (.putfield 19, 3) := by decide +kernel
theorem dX7_init_25 : decode cX7_init 25 = .ok (.aload_n 0, 1) := by decide +kernel
theorem dX7_init_26 : decode cX7_init 26 = .ok (.bipush 40, 2) := by decide +kernel
theorem dX7_init_28 : decode cX7_init 28 = .ok (.newarray .int, 2) := by decide +kernel
theorem dX7_init_30 : decode cX7_init 30 = .ok (.putfield 22, 3) := by decide +kernel
theorem dX7_init_33 : decode cX7_init 33 = .ok (.aload_n 0, 1) := by decide +kernel
theorem dX7_init_34 : decode cX7_init 34 = .ok (.bipush 25, 2) := by decide +kernel
theorem dX7_init_36 : decode cX7_init 36 = .ok (.newarray .int, 2) := by decide +kernel
theorem dX7_init_38 : decode cX7_init 38 = .ok (.putfield 25, 3) := by decide +kernel
theorem dX7_init_41 : decode cX7_init 41 = .ok (.aload_n 0, 1) := by decide +kernel
theorem dX7_init_42 : decode cX7_init 42 = .ok (.bipush 30, 2) := by decide +kernel
theorem dX7_init_44 : decode cX7_init 44 = .ok (.newarray .int, 2) := by decide +kernel
theorem dX7_init_46 : decode cX7_init 46 = .ok (.putfield 28, 3) := by decide +kernel
theorem dX7_init_49 : decode cX7_init 49 = .ok (.aload_n 0, 1) := by decide +kernel
theorem dX7_init_50 : decode cX7_init 50 = .ok (.bipush 40, 2) := by decide +kernel
theorem dX7_init_52 : decode cX7_init 52 = .ok (.newarray .int, 2) := by decide +kernel
theorem dX7_init_54 : decode cX7_init 54 = .ok (.putfield 31, 3) := by decide +kernel
theorem dX7_init_57 : decode cX7_init 57 = .ok (.aload_n 0, 1) := by decide +kernel
theorem dX7_init_58 : decode cX7_init 58 = .ok (.bipush 30, 2) := by decide +kernel
theorem dX7_init_60 : decode cX7_init 60 = .ok (.newarray .int, 2) := by decide +kernel
theorem dX7_init_62 : decode cX7_init 62 = .ok (.putfield 34, 3) := by decide +kernel
theorem dX7_init_65 : decode cX7_init 65 = .ok (.aload_n 0, 1) := by decide +kernel
theorem dX7_init_66 : decode cX7_init 66 = .ok (.iconst 5, 1) := by decide +kernel
theorem dX7_init_67 : decode cX7_init 67 = .ok (.newarray .int, 2) := by decide +kernel
theorem dX7_init_69 : decode cX7_init 69 = .ok (.putfield 37, 3) := by decide +kernel
theorem dX7_init_72 : decode cX7_init 72 = .ok (.aload_n 0, 1) := by decide +kernel
theorem dX7_init_73 : decode cX7_init 73 = .ok (.iconst 5, 1) := by decide +kernel
theorem dX7_init_74 : decode cX7_init 74 = .ok (.newarray .long, 2) := by decide +kernel
theorem dX7_init_76 : decode cX7_init 76 = .ok (.putfield 40, 3) := by decide +kernel
theorem dX7_init_79 : decode cX7_init 79 = .ok (.aload_n 0, 1) := by decide +kernel
theorem dX7_init_80 : decode cX7_init 80 = .ok (.sipush 179, 3) := by decide +kernel
theorem dX7_init_83 : decode cX7_init 83 = .ok (.newarray .int, 2) := by decide +kernel
theorem dX7_init_85 : decode cX7_init 85 = .ok (.putfield 44, 3) := by decide +kernel
theorem dX7_init_88 : decode cX7_init 88 = .ok (.aload_n 0, 1) := by decide +kernel
theorem dX7_init_89 : decode cX7_init 89 = .ok (.sipush 179, 3) := by decide +kernel
theorem dX7_init_92 : decode cX7_init 92 = .ok (.newarray .int, 2) := by decide +kernel
theorem dX7_init_94 : decode cX7_init 94 = .ok (.putfield 47, 3) := by decide +kernel
theorem dX7_init_97 : decode cX7_init 97 = .ok (.aload_n 0, 1) := by decide +kernel
theorem dX7_init_98 : decode cX7_init 98 = .ok (.sipush 179, 3) := by decide +kernel
theorem dX7_init_101 : decode cX7_init 101 = .ok (.newarray .int, 2) := by decide +kernel
theorem dX7_init_103 : decode cX7_init 103 = .ok (.putfield 50, 3) := by decide +kernel
theorem dX7_init_106 : decode cX7_init 106 = .ok (.aload_n 0, 1) := by decide +kernel
theorem dX7_init_107 : decode cX7_init 107 = .ok (.sipush 900, 3) := by decide +kernel
theorem dX7_init_110 : decode cX7_init 110 = .ok (.newarray .byte, 2) := by decide +kernel
theorem dX7_init_112 : decode cX7_init 112 = .ok (.putfield 53, 3) := by decide +kernel
theorem dX7_init_115 : decode cX7_init 115 = .ok (.aload_n 0, 1) := by decide +kernel
theorem dX7_init_116 : decode cX7_init 116 = .ok (.sipush 726, 3) := by decide +kernel
theorem dX7_init_119 : decode cX7_init 119 = .ok (.newarray .int, 2) := by decide +kernel
theorem dX7_init_121 : decode cX7_init 121 = .ok (.putfield 57, 3) := by decide +kernel
theorem dX7_init_124 : decode cX7_init 124 = .ok (.aload_n 0, 1) := by decide +kernel
theorem dX7_init_125 : decode cX7_init 125 = .ok (.iconst 5, 1) := by decide +kernel
theorem dX7_init_126 : decode cX7_init 126 = .ok (.newarray .int, 2) := by decide +kernel
theorem dX7_init_128 : decode cX7_init 128 = .ok (.putfield 60, 3) := by decide +kernel
theorem dX7_init_131 : decode cX7_init 131 = .ok (.aload_n 0, 1) := by decide +kernel
theorem dX7_init_132 : decode cX7_init 132 = .ok (.iconst 5, 1) := by decide +kernel
theorem dX7_init_133 : decode cX7_init 133 = .ok (.newarray .int, 2) := by decide +kernel
theorem dX7_init_135 : decode cX7_init 135 = .ok (.putfield 63, 3) := by decide +kernel
theorem dX7_init_138 : decode cX7_init 138 = .ok (.aload_n 0, 1) := by decide +kernel
theorem dX7_init_139 : decode cX7_init 139 = .ok (.bipush 121, 2) := by decide +kernel
theorem dX7_init_141 : decode cX7_init 141 = .ok (.newarray .boolean, 2) := by decide +kernel
theorem dX7_init_143 : decode cX7_init 143 = .ok (.putfield 66, 3) := by decide +kernel
theorem dX7_init_146 : decode cX7_init 146 = .ok (.return_, 1) := by decide +kernel
theorem dX7_refused_0 : decode cX7_refused 0 = .ok (.aload_n 0, 1) := by decide +kernel
theorem dX7_refused_1 : decode cX7_refused 1 = .ok (.iload_n 1, 1) := by decide +kernel
theorem dX7_refused_2 : decode cX7_refused 2 = .ok (.putfield 73, 3) := by decide +kernel
theorem dX7_refused_5 : decode cX7_refused 5 = .ok (.aload_n 0, 1) := by decide +kernel
theorem dX7_refused_6 : decode cX7_refused 6 = .ok (.iconst (-1), 1) := by decide +kernel
theorem dX7_refused_7 : decode cX7_refused 7 = .ok (.putfield 11, 3) := by decide +kernel
theorem dX7_refused_10 : decode cX7_refused 10 = .ok (.iconst (-1), 1) := by decide +kernel
theorem dX7_refused_11 : decode cX7_refused 11 = .ok (.ireturn, 1) := by decide +kernel
theorem dX7_refusedLow_0 : decode cX7_refusedLow 0 = .ok (.aload_n 0, 1) := by decide +kernel
theorem dX7_refusedLow_1 : decode cX7_refusedLow 1 = .ok (.iload_n 1, 1) := by decide +kernel
theorem dX7_refusedLow_2 : decode cX7_refusedLow 2 = .ok (.invokevirtual 76, 3) := by decide +kernel
theorem dX7_refusedLow_5 : decode cX7_refusedLow 5 = .ok (.pop, 1) := by decide +kernel
theorem dX7_refusedLow_6 : decode cX7_refusedLow 6 = .ok (.ldc 80, 2) := by decide +kernel
theorem dX7_refusedLow_8 : decode cX7_refusedLow 8 = .ok (.ireturn, 1) := by decide +kernel
theorem dX7_good_0 : decode cX7_good 0 = .ok (.aload_n 0, 1) := by decide +kernel
theorem dX7_good_1 : decode cX7_good 1 = .ok (.iconst 0, 1) := by decide +kernel
theorem dX7_good_2 : decode cX7_good 2 = .ok (.putfield 73, 3) := by decide +kernel
theorem dX7_good_5 : decode cX7_good 5 = .ok (.aload_n 0, 1) := by decide +kernel
theorem dX7_good_6 : decode cX7_good 6 = .ok (.iconst (-1), 1) := by decide +kernel
theorem dX7_good_7 : decode cX7_good 7 = .ok (.putfield 11, 3) := by decide +kernel
theorem dX7_good_10 : decode cX7_good 10 = .ok (.iload_n 1, 1) := by decide +kernel
theorem dX7_good_11 : decode cX7_good 11 = .ok (.ireturn, 1) := by decide +kernel
theorem dX7_in_0 : decode cX7_in 0 = .ok (.iload_n 0, 1) := by decide +kernel
theorem dX7_in_1 : decode cX7_in 1 = .ok (.iload_n 1, 1) := by decide +kernel
theorem dX7_in_2 : decode cX7_in 2 = .ok (.if_icmp .lt 12, 3) := by decide +kernel
theorem dX7_in_5 : decode cX7_in 5 = .ok (.iload_n 0, 1) := by decide +kernel
theorem dX7_in_6 : decode cX7_in 6 = .ok (.iload_n 2, 1) := by decide +kernel
theorem dX7_in_7 : decode cX7_in 7 = .ok (.if_icmp .gt 7, 3) := by decide +kernel
theorem dX7_in_10 : decode cX7_in 10 = .ok (.iconst 1, 1) := by decide +kernel
theorem dX7_in_11 : decode cX7_in 11 = .ok (.goto 4, 3) := by decide +kernel
theorem dX7_in_14 : decode cX7_in 14 = .ok (.iconst 0, 1) := by decide +kernel
theorem dX7_in_15 : decode cX7_in 15 = .ok (.ireturn, 1) := by decide +kernel
theorem dX7_lower_0 : decode cX7_lower 0 = .ok (.iload_n 0, 1) := by decide +kernel
theorem dX7_lower_1 : decode cX7_lower 1 = .ok (.iload_n 1, 1) := by decide +kernel
theorem dX7_lower_2 : decode cX7_lower 2 = .ok (.idiv, 1) := by decide +kernel
theorem dX7_lower_3 : decode cX7_lower 3 = .ok (.istore_n 2, 1) := by decide +kernel
theorem dX7_lower_4 : decode cX7_lower 4 = .ok (.iload_n 0, 1) := by decide +kernel
theorem dX7_lower_5 : decode cX7_lower 5 = .ok (.iload_n 1, 1) := by decide +kernel
theorem dX7_lower_6 : decode cX7_lower 6 = .ok (.irem, 1) := by decide +kernel
theorem dX7_lower_7 : decode cX7_lower 7 = .ok (.ifCond .eq 13, 3) := by decide +kernel
theorem dX7_lower_10 : decode cX7_lower 10 = .ok (.iload_n 0, 1) := by decide +kernel
theorem dX7_lower_11 : decode cX7_lower 11 = .ok (.ifCond .ge 9, 3) := by decide +kernel
theorem dX7_lower_14 : decode cX7_lower 14 = .ok (.iload_n 2, 1) := by decide +kernel
theorem dX7_lower_15 : decode cX7_lower 15 = .ok (.iconst 1, 1) := by decide +kernel
theorem dX7_lower_16 : decode cX7_lower 16 = .ok (.isub, 1) := by decide +kernel
theorem dX7_lower_17 : decode cX7_lower 17 = .ok (.goto 4, 3) := by decide +kernel
theorem dX7_lower_20 : decode cX7_lower 20 = .ok (.iload_n 2, 1) := by decide +kernel
theorem dX7_lower_21 : decode cX7_lower 21 = .ok (.ireturn, 1) := by decide +kernel
theorem dX7_copies_0 : decode cX7_copies 0 = .ok (.iconst 0, 1) := by decide +kernel
theorem dX7_copies_1 : decode cX7_copies 1 = .ok (.istore_n 2, 1) := by decide +kernel
theorem dX7_copies_2 : decode cX7_copies 2 = .ok (.iload_n 2, 1) := by decide +kernel
theorem dX7_copies_3 : decode cX7_copies 3 = .ok (.sipush 179, 3) := by decide +kernel
theorem dX7_copies_6 : decode cX7_copies 6 = .ok (.if_icmp .ge 15, 3) := by decide +kernel
theorem dX7_copies_9 : decode cX7_copies 9 = .ok (.aload_n 1, 1) := by decide +kernel
theorem dX7_copies_10 : decode cX7_copies 10 = .ok (.iload_n 2, 1) := by decide +kernel
theorem dX7_copies_11 : decode cX7_copies 11 = .ok (.aload_n 0, 1) := by decide +kernel
theorem dX7_copies_12 : decode cX7_copies 12 = .ok (.iload_n 2, 1) := by decide +kernel
theorem dX7_copies_13 : decode cX7_copies 13 = .ok (.iaload, 1) := by decide +kernel
theorem dX7_copies_14 : decode cX7_copies 14 = .ok (.iastore, 1) := by decide +kernel
theorem dX7_copies_15 : decode cX7_copies 15 = .ok (.iinc 2 1, 3) := by decide +kernel
theorem dX7_copies_18 : decode cX7_copies 18 = .ok (.goto (-16), 3) := by decide +kernel
theorem dX7_copies_21 : decode cX7_copies 21 = .ok (.return_, 1) := by decide +kernel
theorem dX7_byteAt_0 : decode cX7_byteAt 0 = .ok (.iload_n 1, 1) := by decide +kernel
theorem dX7_byteAt_1 : decode cX7_byteAt 1 = .ok (.aload_n 0, 1) := by decide +kernel
theorem dX7_byteAt_2 : decode cX7_byteAt 2 = .ok (.getfield 81, 3) := by decide +kernel
theorem dX7_byteAt_5 : decode cX7_byteAt 5 = .ok (.if_icmp .ge 16, 3) := by decide +kernel
theorem dX7_byteAt_8 : decode cX7_byteAt 8 = .ok (.aload_n 0, 1) := by decide +kernel
theorem dX7_byteAt_9 : decode cX7_byteAt 9 = .ok (.getfield 53, 3) := by decide +kernel
theorem dX7_byteAt_12 : decode cX7_byteAt 12 = .ok (.iload_n 1, 1) := by decide +kernel
theorem dX7_byteAt_13 : decode cX7_byteAt 13 = .ok (.baload, 1) := by decide +kernel
theorem dX7_byteAt_14 : decode cX7_byteAt 14 = .ok (.sipush 255, 3) := by decide +kernel
theorem dX7_byteAt_17 : decode cX7_byteAt 17 = .ok (.iand, 1) := by decide +kernel
theorem dX7_byteAt_18 : decode cX7_byteAt 18 = .ok (.goto 4, 3) := by decide +kernel
theorem dX7_byteAt_21 : decode cX7_byteAt 21 = .ok (.iconst (-1), 1) := by decide +kernel
theorem dX7_byteAt_22 : decode cX7_byteAt 22 = .ok (.ireturn, 1) := by decide +kernel
theorem dX7_next_0 : decode cX7_next 0 = .ok (.aload_n 0, 1) := by decide +kernel
theorem dX7_next_1 : decode cX7_next 1 = .ok (.getfield 84, 3) := by decide +kernel
theorem dX7_next_4 : decode cX7_next 4 = .ok (.ifCond .le 4, 3) := by decide +kernel
theorem dX7_next_7 : decode cX7_next 7 = .ok (.return_, 1) := by decide +kernel
theorem dX7_next_8 : decode cX7_next 8 = .ok (.aload_n 0, 1) := by decide +kernel
theorem dX7_next_9 : decode cX7_next 9 = .ok (.aload_n 0, 1) := by decide +kernel
theorem dX7_next_10 : decode cX7_next 10 = .ok (.getfield 87, 3) := by decide +kernel
theorem dX7_next_13 : decode cX7_next 13 = .ok (.invokevirtual 90, 3) := by decide +kernel
theorem dX7_next_16 : decode cX7_next 16 = .ok (.bipush 32, 2) := by decide +kernel
theorem dX7_next_18 : decode cX7_next 18 = .ok (.if_icmp .ne 16, 3) := by decide +kernel
theorem dX7_next_21 : decode cX7_next 21 = .ok (.aload_n 0, 1) := by decide +kernel
theorem dX7_next_22 : decode cX7_next 22 = .ok (.dup, 1) := by decide +kernel
theorem dX7_next_23 : decode cX7_next 23 = .ok (.getfield 87, 3) := by decide +kernel
theorem dX7_next_26 : decode cX7_next 26 = .ok (.iconst 1, 1) := by decide +kernel
theorem dX7_next_27 : decode cX7_next 27 = .ok (.iadd, 1) := by decide +kernel
theorem dX7_next_28 : decode cX7_next 28 = .ok (.putfield 87, 3) := by decide +kernel
theorem dX7_next_31 : decode cX7_next 31 = .ok (.goto (-23), 3) := by decide +kernel
theorem dX7_next_34 : decode cX7_next 34 = .ok (.aload_n 0, 1) := by decide +kernel
theorem dX7_next_35 : decode cX7_next 35 = .ok (.aload_n 0, 1) := by decide +kernel
theorem dX7_next_36 : decode cX7_next 36 = .ok (.getfield 87, 3) := by decide +kernel
theorem dX7_next_39 : decode cX7_next 39 = .ok (.putfield 93, 3) := by decide +kernel
theorem dX7_next_42 : decode cX7_next 42 = .ok (.aload_n 0, 1) := by decide +kernel
theorem dX7_next_43 : decode cX7_next 43 = .ok (.aload_n 0, 1) := by decide +kernel
theorem dX7_next_44 : decode cX7_next 44 = .ok (.getfield 87, 3) := by decide +kernel
theorem dX7_next_47 : decode cX7_next 47 = .ok (.invokevirtual 90, 3) := by decide +kernel
theorem dX7_next_50 : decode cX7_next 50 = .ok (.istore_n 1, 1) := by decide +kernel
theorem dX7_next_51 : decode cX7_next 51 = .ok (.iload_n 1, 1) := by decide +kernel
theorem dX7_next_52 : decode cX7_next 52 = .ok (.iconst (-1), 1) := by decide +kernel
theorem dX7_next_53 : decode cX7_next 53 = .ok (.if_icmp .ne 11, 3) := by decide +kernel
theorem dX7_next_56 : decode cX7_next 56 = .ok (.aload_n 0, 1) := by decide +kernel
theorem dX7_next_57 : decode cX7_next 57 = .ok (.iconst 1, 1) := by decide +kernel
theorem dX7_next_58 : decode cX7_next 58 = .ok (.putfield 96, 3) := by decide +kernel
theorem dX7_next_61 : decode cX7_next 61 = .ok (.goto 44, 3) := by decide +kernel
theorem dX7_next_64 : decode cX7_next 64 = .ok (.iload_n 1, 1) := by decide +kernel
theorem dX7_next_65 : decode cX7_next 65 = .ok (.bipush 97, 2) := by decide +kernel
theorem dX7_next_67 : decode cX7_next 67 = .ok (.bipush 122, 2) := by decide +kernel
theorem dX7_next_69 : decode cX7_next 69 = .ok (.invokestatic 99, 3) := by decide +kernel
theorem dX7_next_72 : decode cX7_next 72 = .ok (.ifCond .eq 10, 3) := by decide +kernel
theorem dX7_next_75 : decode cX7_next 75 = .ok (.aload_n 0, 1) := by decide +kernel
theorem dX7_next_76 : decode cX7_next 76 = .ok (.invokevirtual 103, 3) := by decide +kernel
theorem dX7_next_79 : decode cX7_next 79 = .ok (.goto 26, 3) := by decide +kernel
theorem dX7_next_82 : decode cX7_next 82 = .ok (.iload_n 1, 1) := by decide +kernel
theorem dX7_next_83 : decode cX7_next 83 = .ok (.bipush 48, 2) := by decide +kernel
theorem dX7_next_85 : decode cX7_next 85 = .ok (.bipush 57, 2) := by decide +kernel
theorem dX7_next_87 : decode cX7_next 87 = .ok (.invokestatic 99, 3) := by decide +kernel
theorem dX7_next_90 : decode cX7_next 90 = .ok (.ifCond .eq 10, 3) := by decide +kernel
theorem dX7_next_93 : decode cX7_next 93 = .ok (.aload_n 0, 1) := by decide +kernel
theorem dX7_next_94 : decode cX7_next 94 = .ok (.invokevirtual 106, 3) := by decide +kernel
theorem dX7_next_97 : decode cX7_next 97 = .ok (.goto 8, 3) := by decide +kernel
theorem dX7_next_100 : decode cX7_next 100 = .ok (.aload_n 0, 1) := by decide +kernel
theorem dX7_next_101 : decode cX7_next 101 = .ok (.iload_n 1, 1) := by decide +kernel
theorem dX7_next_102 : decode cX7_next 102 = .ok (.invokevirtual 109, 3) := by decide +kernel
theorem dX7_next_105 : decode cX7_next 105 = .ok (.return_, 1) := by decide +kernel
theorem dX7_nextWord_0 : decode cX7_nextWord 0 = .ok (.aload_n 0, 1) := by decide +kernel
theorem dX7_nextWord_1 : decode cX7_nextWord 1 = .ok (.lconst 0, 1) := by decide +kernel
theorem dX7_nextWord_2 : decode cX7_nextWord 2 = .ok (.putfield 113, 3) := by decide +kernel
theorem dX7_nextWord_5 : decode cX7_nextWord 5 = .ok (.aload_n 0, 1) := by decide +kernel
theorem dX7_nextWord_6 : decode cX7_nextWord 6 = .ok (.aload_n 0, 1) := by decide +kernel
theorem dX7_nextWord_7 : decode cX7_nextWord 7 = .ok (.getfield 87, 3) := by decide +kernel
theorem dX7_nextWord_10 : decode cX7_nextWord 10 = .ok (.invokevirtual 90, 3) := by decide +kernel
theorem dX7_nextWord_13 : decode cX7_nextWord 13 = .ok (.bipush 97, 2) := by decide +kernel
theorem dX7_nextWord_15 : decode cX7_nextWord 15 = .ok (.bipush 122, 2) := by decide +kernel
theorem dX7_nextWord_17 : decode cX7_nextWord 17 = .ok (.invokestatic 99, 3) := by decide +kernel
theorem dX7_nextWord_20 : decode cX7_nextWord 20 = .ok (.ifCond .eq 51, 3) := by decide +kernel
theorem dX7_nextWord_23 : decode cX7_nextWord 23 = .ok (.aload_n 0, 1) := by decide +kernel
theorem dX7_nextWord_24 : decode cX7_nextWord 24 = .ok (.getfield 87, 3) := by decide +kernel
theorem dX7_nextWord_27 : decode cX7_nextWord 27 = .ok (.aload_n 0, 1) := by decide +kernel
theorem dX7_nextWord_28 : decode cX7_nextWord 28 = .ok (.getfield 93, 3) := by decide +kernel
theorem dX7_nextWord_31 : decode cX7_nextWord 31 = .ok (.isub, 1) := by decide +kernel
theorem dX7_nextWord_32 : decode cX7_nextWord 32 = .ok (.bipush 6, 2) := by decide +kernel
theorem dX7_nextWord_34 : decode cX7_nextWord 34 = .ok (.if_icmp .ge 24, 3) := by decide +kernel
theorem dX7_nextWord_37 : decode cX7_nextWord 37 = .ok (.aload_n 0, 1) := by decide +kernel
theorem dX7_nextWord_38 : decode cX7_nextWord 38 = .ok (.aload_n 0, 1) := by decide +kernel
theorem dX7_nextWord_39 : decode cX7_nextWord 39 = .ok (.getfield 113, 3) := by decide +kernel
theorem dX7_nextWord_42 : decode cX7_nextWord 42 = .ok (.bipush 8, 2) := by decide +kernel
theorem dX7_nextWord_44 : decode cX7_nextWord 44 = .ok (.lshl, 1) := by decide +kernel
theorem dX7_nextWord_45 : decode cX7_nextWord 45 = .ok (.aload_n 0, 1) := by decide +kernel
theorem dX7_nextWord_46 : decode cX7_nextWord 46 = .ok (.aload_n 0, 1) := by decide +kernel
theorem dX7_nextWord_47 : decode cX7_nextWord 47 = .ok (.getfield 87, 3) := by decide +kernel
theorem dX7_nextWord_50 : decode cX7_nextWord 50 = .ok (.invokevirtual 90, 3) := by decide +kernel
theorem dX7_nextWord_53 : decode cX7_nextWord 53 = .ok (.i2l, 1) := by decide +kernel
theorem dX7_nextWord_54 : decode cX7_nextWord 54 = .ok (.lor, 1) := by decide +kernel
theorem dX7_nextWord_55 : decode cX7_nextWord 55 = .ok (.putfield 113, 3) := by decide +kernel
theorem dX7_nextWord_58 : decode cX7_nextWord 58 = .ok (.aload_n 0, 1) := by decide +kernel
theorem dX7_nextWord_59 : decode cX7_nextWord 59 = .ok (.dup, 1) := by decide +kernel
theorem dX7_nextWord_60 : decode cX7_nextWord 60 = .ok (.getfield 87, 3) := by decide +kernel
theorem dX7_nextWord_63 : decode cX7_nextWord 63 = .ok (.iconst 1, 1) := by decide +kernel
theorem dX7_nextWord_64 : decode cX7_nextWord 64 = .ok (.iadd, 1) := by decide +kernel
theorem dX7_nextWord_65 : decode cX7_nextWord 65 = .ok (.putfield 87, 3) := by decide +kernel
theorem dX7_nextWord_68 : decode cX7_nextWord 68 = .ok (.goto (-63), 3) := by decide +kernel
theorem dX7_nextWord_71 : decode cX7_nextWord 71 = .ok (.aload_n 0, 1) := by decide +kernel
theorem dX7_nextWord_72 : decode cX7_nextWord 72 = .ok (.aload_n 0, 1) := by decide +kernel
theorem dX7_nextWord_73 : decode cX7_nextWord 73 = .ok (.getfield 87, 3) := by decide +kernel
theorem dX7_nextWord_76 : decode cX7_nextWord 76 = .ok (.aload_n 0, 1) := by decide +kernel
theorem dX7_nextWord_77 : decode cX7_nextWord 77 = .ok (.getfield 93, 3) := by decide +kernel
theorem dX7_nextWord_80 : decode cX7_nextWord 80 = .ok (.isub, 1) := by decide +kernel
theorem dX7_nextWord_81 : decode cX7_nextWord 81 = .ok (.bipush 6, 2) := by decide +kernel
theorem dX7_nextWord_83 : decode cX7_nextWord 83 = .ok (.if_icmp .le 7, 3) := by decide +kernel
theorem dX7_nextWord_86 : decode cX7_nextWord 86 = .ok (.iconst 0, 1) := by decide +kernel
theorem dX7_nextWord_87 : decode cX7_nextWord 87 = .ok (.goto 4, 3) := by decide +kernel
theorem dX7_nextWord_90 : decode cX7_nextWord 90 = .ok (.iconst 2, 1) := by decide +kernel
theorem dX7_nextWord_91 : decode cX7_nextWord 91 = .ok (.putfield 96, 3) := by decide +kernel
theorem dX7_nextWord_94 : decode cX7_nextWord 94 = .ok (.return_, 1) := by decide +kernel
theorem dX7_nextWhole_0 : decode cX7_nextWhole 0 = .ok (.aload_n 0, 1) := by decide +kernel
theorem dX7_nextWhole_1 : decode cX7_nextWhole 1 = .ok (.iconst 0, 1) := by decide +kernel
theorem dX7_nextWhole_2 : decode cX7_nextWhole 2 = .ok (.putfield 117, 3) := by decide +kernel
theorem dX7_nextWhole_5 : decode cX7_nextWhole 5 = .ok (.aload_n 0, 1) := by decide +kernel
theorem dX7_nextWhole_6 : decode cX7_nextWhole 6 = .ok (.aload_n 0, 1) := by decide +kernel
theorem dX7_nextWhole_7 : decode cX7_nextWhole 7 = .ok (.getfield 87, 3) := by decide +kernel
theorem dX7_nextWhole_10 : decode cX7_nextWhole 10 = .ok (.invokevirtual 90, 3) := by decide +kernel
theorem dX7_nextWhole_13 : decode cX7_nextWhole 13 = .ok (.bipush 48, 2) := by decide +kernel
theorem dX7_nextWhole_15 : decode cX7_nextWhole 15 = .ok (.bipush 57, 2) := by decide +kernel
theorem dX7_nextWhole_17 : decode cX7_nextWhole 17 = .ok (.invokestatic 99, 3) := by decide +kernel
theorem dX7_nextWhole_20 : decode cX7_nextWhole 20 = .ok (.ifCond .eq 52, 3) := by decide +kernel
theorem dX7_nextWhole_23 : decode cX7_nextWhole 23 = .ok (.aload_n 0, 1) := by decide +kernel
theorem dX7_nextWhole_24 : decode cX7_nextWhole 24 = .ok (.getfield 87, 3) := by decide +kernel
theorem dX7_nextWhole_27 : decode cX7_nextWhole 27 = .ok (.aload_n 0, 1) := by decide +kernel
theorem dX7_nextWhole_28 : decode cX7_nextWhole 28 = .ok (.getfield 93, 3) := by decide +kernel
theorem dX7_nextWhole_31 : decode cX7_nextWhole 31 = .ok (.isub, 1) := by decide +kernel
theorem dX7_nextWhole_32 : decode cX7_nextWhole 32 = .ok (.iconst 3, 1) := by decide +kernel
theorem dX7_nextWhole_33 : decode cX7_nextWhole 33 = .ok (.if_icmp .ge 26, 3) := by decide +kernel
theorem dX7_nextWhole_36 : decode cX7_nextWhole 36 = .ok (.aload_n 0, 1) := by decide +kernel
theorem dX7_nextWhole_37 : decode cX7_nextWhole 37 = .ok (.bipush 10, 2) := by decide +kernel
theorem dX7_nextWhole_39 : decode cX7_nextWhole 39 = .ok (.aload_n 0, 1) := by decide +kernel
theorem dX7_nextWhole_40 : decode cX7_nextWhole 40 = .ok (.getfield 117, 3) := by decide +kernel
theorem dX7_nextWhole_43 : decode cX7_nextWhole 43 = .ok (.imul, 1) := by decide +kernel
theorem dX7_nextWhole_44 : decode cX7_nextWhole 44 = .ok (.aload_n 0, 1) := by decide +kernel
theorem dX7_nextWhole_45 : decode cX7_nextWhole 45 = .ok (.aload_n 0, 1) := by decide +kernel
theorem dX7_nextWhole_46 : decode cX7_nextWhole 46 = .ok (.getfield 87, 3) := by decide +kernel
theorem dX7_nextWhole_49 : decode cX7_nextWhole 49 = .ok (.invokevirtual 90, 3) := by decide +kernel
theorem dX7_nextWhole_52 : decode cX7_nextWhole 52 = .ok (.iadd, 1) := by decide +kernel
theorem dX7_nextWhole_53 : decode cX7_nextWhole 53 = .ok (.bipush 48, 2) := by decide +kernel
theorem dX7_nextWhole_55 : decode cX7_nextWhole 55 = .ok (.isub, 1) := by decide +kernel
theorem dX7_nextWhole_56 : decode cX7_nextWhole 56 = .ok (.putfield 117, 3) := by decide +kernel
theorem dX7_nextWhole_59 : decode cX7_nextWhole 59 = .ok (.aload_n 0, 1) := by decide +kernel
theorem dX7_nextWhole_60 : decode cX7_nextWhole 60 = .ok (.dup, 1) := by decide +kernel
theorem dX7_nextWhole_61 : decode cX7_nextWhole 61 = .ok (.getfield 87, 3) := by decide +kernel
theorem dX7_nextWhole_64 : decode cX7_nextWhole 64 = .ok (.iconst 1, 1) := by decide +kernel
theorem dX7_nextWhole_65 : decode cX7_nextWhole 65 = .ok (.iadd, 1) := by decide +kernel
theorem dX7_nextWhole_66 : decode cX7_nextWhole 66 = .ok (.putfield 87, 3) := by decide +kernel
theorem dX7_nextWhole_69 : decode cX7_nextWhole 69 = .ok (.goto (-64), 3) := by decide +kernel
theorem dX7_nextWhole_72 : decode cX7_nextWhole 72 = .ok (.aload_n 0, 1) := by decide +kernel
theorem dX7_nextWhole_73 : decode cX7_nextWhole 73 = .ok (.aload_n 0, 1) := by decide +kernel
theorem dX7_nextWhole_74 : decode cX7_nextWhole 74 = .ok (.getfield 87, 3) := by decide +kernel
theorem dX7_nextWhole_77 : decode cX7_nextWhole 77 = .ok (.aload_n 0, 1) := by decide +kernel
theorem dX7_nextWhole_78 : decode cX7_nextWhole 78 = .ok (.getfield 93, 3) := by decide +kernel
theorem dX7_nextWhole_81 : decode cX7_nextWhole 81 = .ok (.isub, 1) := by decide +kernel
theorem dX7_nextWhole_82 : decode cX7_nextWhole 82 = .ok (.iconst 3, 1) := by decide +kernel
theorem dX7_nextWhole_83 : decode cX7_nextWhole 83 = .ok (.if_icmp .le 7, 3) := by decide +kernel
theorem dX7_nextWhole_86 : decode cX7_nextWhole 86 = .ok (.iconst 0, 1) := by decide +kernel
theorem dX7_nextWhole_87 : decode cX7_nextWhole 87 = .ok (.goto 4, 3) := by decide +kernel
theorem dX7_nextWhole_90 : decode cX7_nextWhole 90 = .ok (.iconst 3, 1) := by decide +kernel
theorem dX7_nextWhole_91 : decode cX7_nextWhole 91 = .ok (.putfield 96, 3) := by decide +kernel
theorem dX7_nextWhole_94 : decode cX7_nextWhole 94 = .ok (.return_, 1) := by decide +kernel
theorem dX7_nextSign_0 : decode cX7_nextSign 0 = .ok (.iload_n 1, 1) := by decide +kernel
theorem dX7_nextSign_1 : decode cX7_nextSign 1 = .ok (.bipush 59, 2) := by decide +kernel
theorem dX7_nextSign_3 : decode cX7_nextSign 3 = .ok (.if_icmp .eq 9, 3) := by decide +kernel
theorem dX7_nextSign_6 : decode cX7_nextSign 6 = .ok (.iload_n 1, 1) := by decide +kernel
theorem dX7_nextSign_7 : decode cX7_nextSign 7 = .ok (.bipush 45, 2) := by decide +kernel
theorem dX7_nextSign_9 : decode cX7_nextSign 9 = .ok (.if_icmp .ne 7, 3) := by decide +kernel
theorem dX7_nextSign_12 : decode cX7_nextSign 12 = .ok (.iconst 1, 1) := by decide +kernel
theorem dX7_nextSign_13 : decode cX7_nextSign 13 = .ok (.goto 4, 3) := by decide +kernel
theorem dX7_nextSign_16 : decode cX7_nextSign 16 = .ok (.iconst 0, 1) := by decide +kernel
theorem dX7_nextSign_17 : decode cX7_nextSign 17 = .ok (.istore_n 2, 1) := by decide +kernel
theorem dX7_nextSign_18 : decode cX7_nextSign 18 = .ok (.aload_n 0, 1) := by decide +kernel
theorem dX7_nextSign_19 : decode cX7_nextSign 19 = .ok (.iload_n 2, 1) := by decide +kernel
theorem dX7_nextSign_20 : decode cX7_nextSign 20 = .ok (.ifCond .eq 7, 3) := by decide +kernel
theorem dX7_nextSign_23 : decode cX7_nextSign 23 = .ok (.iconst 4, 1) := by decide +kernel
theorem dX7_nextSign_24 : decode cX7_nextSign 24 = .ok (.goto 4, 3) := by decide +kernel
theorem dX7_nextSign_27 : decode cX7_nextSign 27 = .ok (.iconst 0, 1) := by decide +kernel
theorem dX7_nextSign_28 : decode cX7_nextSign 28 = .ok (.putfield 96, 3) := by decide +kernel
theorem dX7_nextSign_31 : decode cX7_nextSign 31 = .ok (.aload_n 0, 1) := by decide +kernel
theorem dX7_nextSign_32 : decode cX7_nextSign 32 = .ok (.iload_n 1, 1) := by decide +kernel
theorem dX7_nextSign_33 : decode cX7_nextSign 33 = .ok (.putfield 117, 3) := by decide +kernel
theorem dX7_nextSign_36 : decode cX7_nextSign 36 = .ok (.iload_n 2, 1) := by decide +kernel
theorem dX7_nextSign_37 : decode cX7_nextSign 37 = .ok (.ifCond .eq 13, 3) := by decide +kernel
theorem dX7_nextSign_40 : decode cX7_nextSign 40 = .ok (.aload_n 0, 1) := by decide +kernel
theorem dX7_nextSign_41 : decode cX7_nextSign 41 = .ok (.dup, 1) := by decide +kernel
theorem dX7_nextSign_42 : decode cX7_nextSign 42 = .ok (.getfield 87, 3) := by decide +kernel
theorem dX7_nextSign_45 : decode cX7_nextSign 45 = .ok (.iconst 1, 1) := by decide +kernel
theorem dX7_nextSign_46 : decode cX7_nextSign 46 = .ok (.iadd, 1) := by decide +kernel
theorem dX7_nextSign_47 : decode cX7_nextSign 47 = .ok (.putfield 87, 3) := by decide +kernel
theorem dX7_nextSign_50 : decode cX7_nextSign 50 = .ok (.return_, 1) := by decide +kernel
theorem dX7_flaw_0 : decode cX7_flaw 0 = .ok (.aload_n 0, 1) := by decide +kernel
theorem dX7_flaw_1 : decode cX7_flaw 1 = .ok (.getfield 84, 3) := by decide +kernel
theorem dX7_flaw_4 : decode cX7_flaw 4 = .ok (.ifCond .ne 8, 3) := by decide +kernel
theorem dX7_flaw_7 : decode cX7_flaw 7 = .ok (.aload_n 0, 1) := by decide +kernel
theorem dX7_flaw_8 : decode cX7_flaw 8 = .ok (.iload_n 1, 1) := by decide +kernel
theorem dX7_flaw_9 : decode cX7_flaw 9 = .ok (.putfield 84, 3) := by decide +kernel
theorem dX7_flaw_12 : decode cX7_flaw 12 = .ok (.aload_n 0, 1) := by decide +kernel
theorem dX7_flaw_13 : decode cX7_flaw 13 = .ok (.iconst 0, 1) := by decide +kernel
theorem dX7_flaw_14 : decode cX7_flaw 14 = .ok (.putfield 96, 3) := by decide +kernel
theorem dX7_flaw_17 : decode cX7_flaw 17 = .ok (.return_, 1) := by decide +kernel
theorem dX7_isSign_0 : decode cX7_isSign 0 = .ok (.aload_n 0, 1) := by decide +kernel
theorem dX7_isSign_1 : decode cX7_isSign 1 = .ok (.getfield 96, 3) := by decide +kernel
theorem dX7_isSign_4 : decode cX7_isSign 4 = .ok (.iconst 4, 1) := by decide +kernel
theorem dX7_isSign_5 : decode cX7_isSign 5 = .ok (.if_icmp .ne 15, 3) := by decide +kernel
theorem dX7_isSign_8 : decode cX7_isSign 8 = .ok (.aload_n 0, 1) := by decide +kernel
theorem dX7_isSign_9 : decode cX7_isSign 9 = .ok (.getfield 117, 3) := by decide +kernel
theorem dX7_isSign_12 : decode cX7_isSign 12 = .ok (.iload_n 1, 1) := by decide +kernel
theorem dX7_isSign_13 : decode cX7_isSign 13 = .ok (.if_icmp .ne 7, 3) := by decide +kernel
theorem dX7_isSign_16 : decode cX7_isSign 16 = .ok (.iconst 1, 1) := by decide +kernel
theorem dX7_isSign_17 : decode cX7_isSign 17 = .ok (.goto 4, 3) := by decide +kernel
theorem dX7_isSign_20 : decode cX7_isSign 20 = .ok (.iconst 0, 1) := by decide +kernel
theorem dX7_isSign_21 : decode cX7_isSign 21 = .ok (.ireturn, 1) := by decide +kernel
theorem dX7_isWord_0 : decode cX7_isWord 0 = .ok (.lconst 0, 1) := by decide +kernel
theorem dX7_isWord_1 : decode cX7_isWord 1 = .ok (.lstore_n 2, 1) := by decide +kernel
theorem dX7_isWord_2 : decode cX7_isWord 2 = .ok (.iconst 0, 1) := by decide +kernel
theorem dX7_isWord_3 : decode cX7_isWord 3 = .ok (.istore 4, 2) := by decide +kernel
theorem dX7_isWord_5 : decode cX7_isWord 5 = .ok (.iload 4, 2) := by decide +kernel
theorem dX7_isWord_7 : decode cX7_isWord 7 = .ok (.aload_n 1, 1) := by decide +kernel
theorem dX7_isWord_8 : decode cX7_isWord 8 = .ok (.invokevirtual 120, 3) := by decide +kernel
theorem dX7_isWord_11 : decode cX7_isWord 11 = .ok (.if_icmp .ge 22, 3) := by decide +kernel
theorem dX7_isWord_14 : decode cX7_isWord 14 = .ok (.lload_n 2, 1) := by decide +kernel
theorem dX7_isWord_15 : decode cX7_isWord 15 = .ok (.bipush 8, 2) := by decide +kernel
theorem dX7_isWord_17 : decode cX7_isWord 17 = .ok (.lshl, 1) := by decide +kernel
theorem dX7_isWord_18 : decode cX7_isWord 18 = .ok (.aload_n 1, 1) := by decide +kernel
theorem dX7_isWord_19 : decode cX7_isWord 19 = .ok (.iload 4, 2) := by decide +kernel
theorem dX7_isWord_21 : decode cX7_isWord 21 = .ok (.invokevirtual 126, 3) := by decide +kernel
theorem dX7_isWord_24 : decode cX7_isWord 24 = .ok (.i2l, 1) := by decide +kernel
theorem dX7_isWord_25 : decode cX7_isWord 25 = .ok (.lor, 1) := by decide +kernel
theorem dX7_isWord_26 : decode cX7_isWord 26 = .ok (.lstore_n 2, 1) := by decide +kernel
theorem dX7_isWord_27 : decode cX7_isWord 27 = .ok (.iinc 4 1, 3) := by decide +kernel
theorem dX7_isWord_30 : decode cX7_isWord 30 = .ok (.goto (-25), 3) := by decide +kernel
theorem dX7_isWord_33 : decode cX7_isWord 33 = .ok (.aload_n 0, 1) := by decide +kernel
theorem dX7_isWord_34 : decode cX7_isWord 34 = .ok (.getfield 96, 3) := by decide +kernel
theorem dX7_isWord_37 : decode cX7_isWord 37 = .ok (.iconst 2, 1) := by decide +kernel
theorem dX7_isWord_38 : decode cX7_isWord 38 = .ok (.if_icmp .ne 16, 3) := by decide +kernel
theorem dX7_isWord_41 : decode cX7_isWord 41 = .ok (.aload_n 0, 1) := by decide +kernel
theorem dX7_isWord_42 : decode cX7_isWord 42 = .ok (.getfield 113, 3) := by decide +kernel
theorem dX7_isWord_45 : decode cX7_isWord 45 = .ok (.lload_n 2, 1) := by decide +kernel
theorem dX7_isWord_46 : decode cX7_isWord 46 = .ok (.lcmp, 1) := by decide +kernel
theorem dX7_isWord_47 : decode cX7_isWord 47 = .ok (.ifCond .ne 7, 3) := by decide +kernel
theorem dX7_isWord_50 : decode cX7_isWord 50 = .ok (.iconst 1, 1) := by decide +kernel
theorem dX7_isWord_51 : decode cX7_isWord 51 = .ok (.goto 4, 3) := by decide +kernel
theorem dX7_isWord_54 : decode cX7_isWord 54 = .ok (.iconst 0, 1) := by decide +kernel
theorem dX7_isWord_55 : decode cX7_isWord 55 = .ok (.ireturn, 1) := by decide +kernel
theorem dX7_readWhole_0 : decode cX7_readWhole 0 = .ok (.aload_n 0, 1) := by decide +kernel
theorem dX7_readWhole_1 : decode cX7_readWhole 1 = .ok (.getfield 96, 3) := by decide +kernel
theorem dX7_readWhole_4 : decode cX7_readWhole 4 = .ok (.iconst 3, 1) := by decide +kernel
theorem dX7_readWhole_5 : decode cX7_readWhole 5 = .ok (.if_icmp .eq 11, 3) := by decide +kernel
theorem dX7_readWhole_8 : decode cX7_readWhole 8 = .ok (.aload_n 0, 1) := by decide +kernel
theorem dX7_readWhole_9 : decode cX7_readWhole 9 = .ok (.iconst 1, 1) := by decide +kernel
theorem dX7_readWhole_10 : decode cX7_readWhole 10 = .ok (.invokevirtual 130, 3) := by decide +kernel
theorem dX7_readWhole_13 : decode cX7_readWhole 13 = .ok (.goto 20, 3) := by decide +kernel
theorem dX7_readWhole_16 : decode cX7_readWhole 16 = .ok (.aload_n 0, 1) := by decide +kernel
theorem dX7_readWhole_17 : decode cX7_readWhole 17 = .ok (.getfield 117, 3) := by decide +kernel
theorem dX7_readWhole_20 : decode cX7_readWhole 20 = .ok (.iload_n 1, 1) := by decide +kernel
theorem dX7_readWhole_21 : decode cX7_readWhole 21 = .ok (.iload_n 2, 1) := by decide +kernel
theorem dX7_readWhole_22 : decode cX7_readWhole 22 = .ok (.invokestatic 99, 3) := by decide +kernel
theorem dX7_readWhole_25 : decode cX7_readWhole 25 = .ok (.ifCond .ne 8, 3) := by decide +kernel
theorem dX7_readWhole_28 : decode cX7_readWhole 28 = .ok (.aload_n 0, 1) := by decide +kernel
theorem dX7_readWhole_29 : decode cX7_readWhole 29 = .ok (.iconst 4, 1) := by decide +kernel
theorem dX7_readWhole_30 : decode cX7_readWhole 30 = .ok (.invokevirtual 130, 3) := by decide +kernel
theorem dX7_readWhole_33 : decode cX7_readWhole 33 = .ok (.aload_n 0, 1) := by decide +kernel
theorem dX7_readWhole_34 : decode cX7_readWhole 34 = .ok (.getfield 117, 3) := by decide +kernel
theorem dX7_readWhole_37 : decode cX7_readWhole 37 = .ok (.istore_n 3, 1) := by decide +kernel
theorem dX7_readWhole_38 : decode cX7_readWhole 38 = .ok (.aload_n 0, 1) := by decide +kernel
theorem dX7_readWhole_39 : decode cX7_readWhole 39 = .ok (.invokevirtual 133, 3) := by decide +kernel
theorem dX7_readWhole_42 : decode cX7_readWhole 42 = .ok (.aload_n 0, 1) := by decide +kernel
theorem dX7_readWhole_43 : decode cX7_readWhole 43 = .ok (.getfield 84, 3) := by decide +kernel
theorem dX7_readWhole_46 : decode cX7_readWhole 46 = .ok (.ifCond .le 7, 3) := by decide +kernel
theorem dX7_readWhole_49 : decode cX7_readWhole 49 = .ok (.iload_n 1, 1) := by decide +kernel
theorem dX7_readWhole_50 : decode cX7_readWhole 50 = .ok (.goto 4, 3) := by decide +kernel
theorem dX7_readWhole_53 : decode cX7_readWhole 53 = .ok (.iload_n 3, 1) := by decide +kernel
theorem dX7_readWhole_54 : decode cX7_readWhole 54 = .ok (.ireturn, 1) := by decide +kernel
theorem dX7_readPart_0 : decode cX7_readPart 0 = .ok (.aload_n 0, 1) := by decide +kernel
theorem dX7_readPart_1 : decode cX7_readPart 1 = .ok (.aload_n 1, 1) := by decide +kernel
theorem dX7_readPart_2 : decode cX7_readPart 2 = .ok (.invokevirtual 136, 3) := by decide +kernel
theorem dX7_readPart_5 : decode cX7_readPart 5 = .ok (.ifCond .ne 8, 3) := by decide +kernel
theorem dX7_readPart_8 : decode cX7_readPart 8 = .ok (.aload_n 0, 1) := by decide +kernel
theorem dX7_readPart_9 : decode cX7_readPart 9 = .ok (.iconst 1, 1) := by decide +kernel
theorem dX7_readPart_10 : decode cX7_readPart 10 = .ok (.invokevirtual 130, 3) := by decide +kernel
theorem dX7_readPart_13 : decode cX7_readPart 13 = .ok (.aload_n 0, 1) := by decide +kernel
theorem dX7_readPart_14 : decode cX7_readPart 14 = .ok (.invokevirtual 133, 3) := by decide +kernel
theorem dX7_readPart_17 : decode cX7_readPart 17 = .ok (.aload_n 0, 1) := by decide +kernel
theorem dX7_readPart_18 : decode cX7_readPart 18 = .ok (.iload_n 2, 1) := by decide +kernel
theorem dX7_readPart_19 : decode cX7_readPart 19 = .ok (.iload_n 3, 1) := by decide +kernel
theorem dX7_readPart_20 : decode cX7_readPart 20 = .ok (.invokevirtual 140, 3) := by decide +kernel
theorem dX7_readPart_23 : decode cX7_readPart 23 = .ok (.ireturn, 1) := by decide +kernel
theorem dX7_isName_0 : decode cX7_isName 0 = .ok (.aload_n 0, 1) := by decide +kernel
theorem dX7_isName_1 : decode cX7_isName 1 = .ok (.getfield 96, 3) := by decide +kernel
theorem dX7_isName_4 : decode cX7_isName 4 = .ok (.iconst 2, 1) := by decide +kernel
theorem dX7_isName_5 : decode cX7_isName 5 = .ok (.if_icmp .ne 43, 3) := by decide +kernel
theorem dX7_isName_8 : decode cX7_isName 8 = .ok (.aload_n 0, 1) := by decide +kernel
theorem dX7_isName_9 : decode cX7_isName 9 = .ok (.ldc 144, 2) := by decide +kernel
theorem dX7_isName_11 : decode cX7_isName 11 = .ok (.invokevirtual 136, 3) := by decide +kernel
theorem dX7_isName_14 : decode cX7_isName 14 = .ok (.ifCond .ne 34, 3) := by decide +kernel
theorem dX7_isName_17 : decode cX7_isName 17 = .ok (.aload_n 0, 1) := by decide +kernel
theorem dX7_isName_18 : decode cX7_isName 18 = .ok (.ldc 146, 2) := by decide +kernel
theorem dX7_isName_20 : decode cX7_isName 20 = .ok (.invokevirtual 136, 3) := by decide +kernel
theorem dX7_isName_23 : decode cX7_isName 23 = .ok (.ifCond .ne 25, 3) := by decide +kernel
theorem dX7_isName_26 : decode cX7_isName 26 = .ok (.aload_n 0, 1) := by decide +kernel
theorem dX7_isName_27 : decode cX7_isName 27 = .ok (.ldc 147, 2) := by decide +kernel
theorem dX7_isName_29 : decode cX7_isName 29 = .ok (.invokevirtual 136, 3) := by decide +kernel
theorem dX7_isName_32 : decode cX7_isName 32 = .ok (.ifCond .ne 16, 3) := by decide +kernel
theorem dX7_isName_35 : decode cX7_isName 35 = .ok (.aload_n 0, 1) := by decide +kernel
theorem dX7_isName_36 : decode cX7_isName 36 = .ok (.ldc 149, 2) := by decide +kernel
theorem dX7_isName_38 : decode cX7_isName 38 = .ok (.invokevirtual 136, 3) := by decide +kernel
theorem dX7_isName_41 : decode cX7_isName 41 = .ok (.ifCond .ne 7, 3) := by decide +kernel
theorem dX7_isName_44 : decode cX7_isName 44 = .ok (.iconst 1, 1) := by decide +kernel
theorem dX7_isName_45 : decode cX7_isName 45 = .ok (.goto 4, 3) := by decide +kernel
theorem dX7_isName_48 : decode cX7_isName 48 = .ok (.iconst 0, 1) := by decide +kernel
theorem dX7_isName_49 : decode cX7_isName 49 = .ok (.ireturn, 1) := by decide +kernel
theorem dX7_venueBy_0 : decode cX7_venueBy 0 = .ok (.iconst 0, 1) := by decide +kernel
theorem dX7_venueBy_1 : decode cX7_venueBy 1 = .ok (.istore_n 1, 1) := by decide +kernel
theorem dX7_venueBy_2 : decode cX7_venueBy 2 = .ok (.iload_n 1, 1) := by decide +kernel
theorem dX7_venueBy_3 : decode cX7_venueBy 3 = .ok (.aload_n 0, 1) := by decide +kernel
theorem dX7_venueBy_4 : decode cX7_venueBy 4 = .ok (.getfield 150, 3) := by decide +kernel
theorem dX7_venueBy_7 : decode cX7_venueBy 7 = .ok (.if_icmp .ge 25, 3) := by decide +kernel
theorem dX7_venueBy_10 : decode cX7_venueBy 10 = .ok (.aload_n 0, 1) := by decide +kernel
theorem dX7_venueBy_11 : decode cX7_venueBy 11 = .ok (.getfield 40, 3) := by decide +kernel
theorem dX7_venueBy_14 : decode cX7_venueBy 14 = .ok (.iload_n 1, 1) := by decide +kernel
theorem dX7_venueBy_15 : decode cX7_venueBy 15 = .ok (.laload, 1) := by decide +kernel
theorem dX7_venueBy_16 : decode cX7_venueBy 16 = .ok (.aload_n 0, 1) := by decide +kernel
theorem dX7_venueBy_17 : decode cX7_venueBy 17 = .ok (.getfield 113, 3) := by decide +kernel
theorem dX7_venueBy_20 : decode cX7_venueBy 20 = .ok (.lcmp, 1) := by decide +kernel
theorem dX7_venueBy_21 : decode cX7_venueBy 21 = .ok (.ifCond .ne 5, 3) := by decide +kernel
theorem dX7_venueBy_24 : decode cX7_venueBy 24 = .ok (.iload_n 1, 1) := by decide +kernel
theorem dX7_venueBy_25 : decode cX7_venueBy 25 = .ok (.ireturn, 1) := by decide +kernel
theorem dX7_venueBy_26 : decode cX7_venueBy 26 = .ok (.iinc 1 1, 3) := by decide +kernel
theorem dX7_venueBy_29 : decode cX7_venueBy 29 = .ok (.goto (-27), 3) := by decide +kernel
theorem dX7_venueBy_32 : decode cX7_venueBy 32 = .ok (.iconst (-1), 1) := by decide +kernel
theorem dX7_venueBy_33 : decode cX7_venueBy 33 = .ok (.ireturn, 1) := by decide +kernel
theorem dX7_knownVenue_0 : decode cX7_knownVenue 0 = .ok (.aload_n 0, 1) := by decide +kernel
theorem dX7_knownVenue_1 : decode cX7_knownVenue 1 = .ok (.invokevirtual 153, 3) := by decide +kernel
theorem dX7_knownVenue_4 : decode cX7_knownVenue 4 = .ok (.ifCond .ne 8, 3) := by decide +kernel
theorem dX7_knownVenue_7 : decode cX7_knownVenue 7 = .ok (.aload_n 0, 1) := by decide +kernel
theorem dX7_knownVenue_8 : decode cX7_knownVenue 8 = .ok (.iconst 1, 1) := by decide +kernel
theorem dX7_knownVenue_9 : decode cX7_knownVenue 9 = .ok (.invokevirtual 130, 3) := by decide +kernel
theorem dX7_knownVenue_12 : decode cX7_knownVenue 12 = .ok (.aload_n 0, 1) := by decide +kernel
theorem dX7_knownVenue_13 : decode cX7_knownVenue 13 = .ok (.getfield 84, 3) := by decide +kernel
theorem dX7_knownVenue_16 : decode cX7_knownVenue 16 = .ok (.ifCond .le 7, 3) := by decide +kernel
theorem dX7_knownVenue_19 : decode cX7_knownVenue 19 = .ok (.iconst (-1), 1) := by decide +kernel
theorem dX7_knownVenue_20 : decode cX7_knownVenue 20 = .ok (.goto 7, 3) := by decide +kernel
theorem dX7_knownVenue_23 : decode cX7_knownVenue 23 = .ok (.aload_n 0, 1) := by decide +kernel
theorem dX7_knownVenue_24 : decode cX7_knownVenue 24 = .ok (.invokevirtual 157, 3) := by decide +kernel
theorem dX7_knownVenue_27 : decode cX7_knownVenue 27 = .ok (.istore_n 1, 1) := by decide +kernel
theorem dX7_knownVenue_28 : decode cX7_knownVenue 28 = .ok (.iload_n 1, 1) := by decide +kernel
theorem dX7_knownVenue_29 : decode cX7_knownVenue 29 = .ok (.iconst (-1), 1) := by decide +kernel
theorem dX7_knownVenue_30 : decode cX7_knownVenue 30 = .ok (.if_icmp .ne 8, 3) := by decide +kernel
theorem dX7_knownVenue_33 : decode cX7_knownVenue 33 = .ok (.aload_n 0, 1) := by decide +kernel
theorem dX7_knownVenue_34 : decode cX7_knownVenue 34 = .ok (.iconst 2, 1) := by decide +kernel
theorem dX7_knownVenue_35 : decode cX7_knownVenue 35 = .ok (.invokevirtual 130, 3) := by decide +kernel
theorem dX7_knownVenue_38 : decode cX7_knownVenue 38 = .ok (.aload_n 0, 1) := by decide +kernel
theorem dX7_knownVenue_39 : decode cX7_knownVenue 39 = .ok (.getfield 84, 3) := by decide +kernel
theorem dX7_knownVenue_42 : decode cX7_knownVenue 42 = .ok (.ifCond .le 7, 3) := by decide +kernel
theorem dX7_knownVenue_45 : decode cX7_knownVenue 45 = .ok (.iconst 0, 1) := by decide +kernel
theorem dX7_knownVenue_46 : decode cX7_knownVenue 46 = .ok (.goto 4, 3) := by decide +kernel
theorem dX7_knownVenue_49 : decode cX7_knownVenue 49 = .ok (.iload_n 1, 1) := by decide +kernel
theorem dX7_knownVenue_50 : decode cX7_knownVenue 50 = .ok (.ireturn, 1) := by decide +kernel
theorem dX7_readAll_0 : decode cX7_readAll 0 = .ok (.aload_n 0, 1) := by decide +kernel
theorem dX7_readAll_1 : decode cX7_readAll 1 = .ok (.iconst 0, 1) := by decide +kernel
theorem dX7_readAll_2 : decode cX7_readAll 2 = .ok (.putfield 160, 3) := by decide +kernel
theorem dX7_readAll_5 : decode cX7_readAll 5 = .ok (.aload_n 0, 1) := by decide +kernel
theorem dX7_readAll_6 : decode cX7_readAll 6 = .ok (.iconst 0, 1) := by decide +kernel
theorem dX7_readAll_7 : decode cX7_readAll 7 = .ok (.putfield 150, 3) := by decide +kernel
theorem dX7_readAll_10 : decode cX7_readAll 10 = .ok (.aload_n 0, 1) := by decide +kernel
theorem dX7_readAll_11 : decode cX7_readAll 11 = .ok (.iconst 0, 1) := by decide +kernel
theorem dX7_readAll_12 : decode cX7_readAll 12 = .ok (.putfield 163, 3) := by decide +kernel
theorem dX7_readAll_15 : decode cX7_readAll 15 = .ok (.aload_n 0, 1) := by decide +kernel
theorem dX7_readAll_16 : decode cX7_readAll 16 = .ok (.invokevirtual 133, 3) := by decide +kernel
theorem dX7_readAll_19 : decode cX7_readAll 19 = .ok (.aload_n 0, 1) := by decide +kernel
theorem dX7_readAll_20 : decode cX7_readAll 20 = .ok (.invokevirtual 166, 3) := by decide +kernel
theorem dX7_readAll_23 : decode cX7_readAll 23 = .ok (.aload_n 0, 1) := by decide +kernel
theorem dX7_readAll_24 : decode cX7_readAll 24 = .ok (.bipush 59, 2) := by decide +kernel
theorem dX7_readAll_26 : decode cX7_readAll 26 = .ok (.invokevirtual 169, 3) := by decide +kernel
theorem dX7_readAll_29 : decode cX7_readAll 29 = .ok (.ifCond .eq 14, 3) := by decide +kernel
theorem dX7_readAll_32 : decode cX7_readAll 32 = .ok (.aload_n 0, 1) := by decide +kernel
theorem dX7_readAll_33 : decode cX7_readAll 33 = .ok (.invokevirtual 133, 3) := by decide +kernel
theorem dX7_readAll_36 : decode cX7_readAll 36 = .ok (.aload_n 0, 1) := by decide +kernel
theorem dX7_readAll_37 : decode cX7_readAll 37 = .ok (.invokevirtual 166, 3) := by decide +kernel
theorem dX7_readAll_40 : decode cX7_readAll 40 = .ok (.goto (-17), 3) := by decide +kernel
theorem dX7_readAll_43 : decode cX7_readAll 43 = .ok (.aload_n 0, 1) := by decide +kernel
theorem dX7_readAll_44 : decode cX7_readAll 44 = .ok (.getfield 96, 3) := by decide +kernel
theorem dX7_readAll_47 : decode cX7_readAll 47 = .ok (.iconst 1, 1) := by decide +kernel
theorem dX7_readAll_48 : decode cX7_readAll 48 = .ok (.if_icmp .eq 8, 3) := by decide +kernel
theorem dX7_readAll_51 : decode cX7_readAll 51 = .ok (.aload_n 0, 1) := by decide +kernel
theorem dX7_readAll_52 : decode cX7_readAll 52 = .ok (.iconst 1, 1) := by decide +kernel
theorem dX7_readAll_53 : decode cX7_readAll 53 = .ok (.invokevirtual 130, 3) := by decide +kernel
theorem dX7_readAll_56 : decode cX7_readAll 56 = .ok (.aload_n 0, 1) := by decide +kernel
theorem dX7_readAll_57 : decode cX7_readAll 57 = .ok (.getfield 84, 3) := by decide +kernel
theorem dX7_readAll_60 : decode cX7_readAll 60 = .ok (.ifCond .ne 23, 3) := by decide +kernel
theorem dX7_readAll_63 : decode cX7_readAll 63 = .ok (.aload_n 0, 1) := by decide +kernel
theorem dX7_readAll_64 : decode cX7_readAll 64 = .ok (.getfield 160, 3) := by decide +kernel
theorem dX7_readAll_67 : decode cX7_readAll 67 = .ok (.ifCond .eq 10, 3) := by decide +kernel
theorem dX7_readAll_70 : decode cX7_readAll 70 = .ok (.aload_n 0, 1) := by decide +kernel
theorem dX7_readAll_71 : decode cX7_readAll 71 = .ok (.getfield 150, 3) := by decide +kernel
theorem dX7_readAll_74 : decode cX7_readAll 74 = .ok (.ifCond .ne 9, 3) := by decide +kernel
theorem dX7_readAll_77 : decode cX7_readAll 77 = .ok (.aload_n 0, 1) := by decide +kernel
theorem dX7_readAll_78 : decode cX7_readAll 78 = .ok (.bipush 6, 2) := by decide +kernel
theorem dX7_readAll_80 : decode cX7_readAll 80 = .ok (.invokevirtual 130, 3) := by decide +kernel
theorem dX7_readAll_83 : decode cX7_readAll 83 = .ok (.return_, 1) := by decide +kernel
theorem dX7_readLine_0 : decode cX7_readLine 0 = .ok (.aload_n 0, 1) := by decide +kernel
theorem dX7_readLine_1 : decode cX7_readLine 1 = .ok (.ldc 144, 2) := by decide +kernel
theorem dX7_readLine_3 : decode cX7_readLine 3 = .ok (.invokevirtual 136, 3) := by decide +kernel
theorem dX7_readLine_6 : decode cX7_readLine 6 = .ok (.ifCond .eq 10, 3) := by decide +kernel
theorem dX7_readLine_9 : decode cX7_readLine 9 = .ok (.aload_n 0, 1) := by decide +kernel
theorem dX7_readLine_10 : decode cX7_readLine 10 = .ok (.invokevirtual 173, 3) := by decide +kernel
theorem dX7_readLine_13 : decode cX7_readLine 13 = .ok (.goto 56, 3) := by decide +kernel
theorem dX7_readLine_16 : decode cX7_readLine 16 = .ok (.aload_n 0, 1) := by decide +kernel
theorem dX7_readLine_17 : decode cX7_readLine 17 = .ok (.ldc 146, 2) := by decide +kernel
theorem dX7_readLine_19 : decode cX7_readLine 19 = .ok (.invokevirtual 136, 3) := by decide +kernel
theorem dX7_readLine_22 : decode cX7_readLine 22 = .ok (.ifCond .eq 10, 3) := by decide +kernel
theorem dX7_readLine_25 : decode cX7_readLine 25 = .ok (.aload_n 0, 1) := by decide +kernel
theorem dX7_readLine_26 : decode cX7_readLine 26 = .ok (.invokevirtual 176, 3) := by decide +kernel
theorem dX7_readLine_29 : decode cX7_readLine 29 = .ok (.goto 40, 3) := by decide +kernel
theorem dX7_readLine_32 : decode cX7_readLine 32 = .ok (.aload_n 0, 1) := by decide +kernel
theorem dX7_readLine_33 : decode cX7_readLine 33 = .ok (.ldc 147, 2) := by decide +kernel
theorem dX7_readLine_35 : decode cX7_readLine 35 = .ok (.invokevirtual 136, 3) := by decide +kernel
theorem dX7_readLine_38 : decode cX7_readLine 38 = .ok (.ifCond .eq 10, 3) := by decide +kernel
theorem dX7_readLine_41 : decode cX7_readLine 41 = .ok (.aload_n 0, 1) := by decide +kernel
theorem dX7_readLine_42 : decode cX7_readLine 42 = .ok (.invokevirtual 179, 3) := by decide +kernel
theorem dX7_readLine_45 : decode cX7_readLine 45 = .ok (.goto 24, 3) := by decide +kernel
theorem dX7_readLine_48 : decode cX7_readLine 48 = .ok (.aload_n 0, 1) := by decide +kernel
theorem dX7_readLine_49 : decode cX7_readLine 49 = .ok (.ldc 149, 2) := by decide +kernel
theorem dX7_readLine_51 : decode cX7_readLine 51 = .ok (.invokevirtual 136, 3) := by decide +kernel
theorem dX7_readLine_54 : decode cX7_readLine 54 = .ok (.ifCond .eq 10, 3) := by decide +kernel
theorem dX7_readLine_57 : decode cX7_readLine 57 = .ok (.aload_n 0, 1) := by decide +kernel
theorem dX7_readLine_58 : decode cX7_readLine 58 = .ok (.invokevirtual 182, 3) := by decide +kernel
theorem dX7_readLine_61 : decode cX7_readLine 61 = .ok (.goto 8, 3) := by decide +kernel
theorem dX7_readLine_64 : decode cX7_readLine 64 = .ok (.aload_n 0, 1) := by decide +kernel
theorem dX7_readLine_65 : decode cX7_readLine 65 = .ok (.iconst 1, 1) := by decide +kernel
theorem dX7_readLine_66 : decode cX7_readLine 66 = .ok (.invokevirtual 130, 3) := by decide +kernel
theorem dX7_readLine_69 : decode cX7_readLine 69 = .ok (.return_, 1) := by decide +kernel
theorem dX7_begins_0 : decode cX7_begins 0 = .ok (.iload_n 1, 1) := by decide +kernel
theorem dX7_begins_1 : decode cX7_begins 1 = .ok (.ifCond .eq 8, 3) := by decide +kernel
theorem dX7_begins_4 : decode cX7_begins 4 = .ok (.aload_n 0, 1) := by decide +kernel
theorem dX7_begins_5 : decode cX7_begins 5 = .ok (.iconst 5, 1) := by decide +kernel
theorem dX7_begins_6 : decode cX7_begins 6 = .ok (.invokevirtual 130, 3) := by decide +kernel
theorem dX7_begins_9 : decode cX7_begins 9 = .ok (.aload_n 0, 1) := by decide +kernel
theorem dX7_begins_10 : decode cX7_begins 10 = .ok (.getfield 160, 3) := by decide +kernel
theorem dX7_begins_13 : decode cX7_begins 13 = .ok (.ifCond .ne 9, 3) := by decide +kernel
theorem dX7_begins_16 : decode cX7_begins 16 = .ok (.aload_n 0, 1) := by decide +kernel
theorem dX7_begins_17 : decode cX7_begins 17 = .ok (.bipush 6, 2) := by decide +kernel
theorem dX7_begins_19 : decode cX7_begins 19 = .ok (.invokevirtual 130, 3) := by decide +kernel
theorem dX7_begins_22 : decode cX7_begins 22 = .ok (.aload_n 0, 1) := by decide +kernel
theorem dX7_begins_23 : decode cX7_begins 23 = .ok (.invokevirtual 133, 3) := by decide +kernel
theorem dX7_begins_26 : decode cX7_begins 26 = .ok (.return_, 1) := by decide +kernel
theorem dX7_readOrderLine_0 : decode cX7_readOrderLine 0 = .ok (.aload_n 0, 1) := by decide +kernel
theorem dX7_readOrderLine_1 : decode cX7_readOrderLine 1 = .ok (.getfield 160, 3) := by decide +kernel
theorem dX7_readOrderLine_4 : decode cX7_readOrderLine 4 = .ok (.ifCond .le 8, 3) := by decide +kernel
theorem dX7_readOrderLine_7 : decode cX7_readOrderLine 7 = .ok (.aload_n 0, 1) := by decide +kernel
theorem dX7_readOrderLine_8 : decode cX7_readOrderLine 8 = .ok (.iconst 3, 1) := by decide +kernel
theorem dX7_readOrderLine_9 : decode cX7_readOrderLine 9 = .ok (.invokevirtual 130, 3) := by decide +kernel
theorem dX7_readOrderLine_12 : decode cX7_readOrderLine 12 = .ok (.aload_n 0, 1) := by decide +kernel
theorem dX7_readOrderLine_13 : decode cX7_readOrderLine 13 = .ok (.invokevirtual 133, 3) := by decide +kernel
theorem dX7_readOrderLine_16 : decode cX7_readOrderLine 16 = .ok (.aload_n 0, 1) := by decide +kernel
theorem dX7_readOrderLine_17 : decode cX7_readOrderLine 17 = .ok (.iconst 1, 1) := by decide +kernel
theorem dX7_readOrderLine_18 : decode cX7_readOrderLine 18 = .ok (.bipush 120, 2) := by decide +kernel
theorem dX7_readOrderLine_20 : decode cX7_readOrderLine 20 = .ok (.invokevirtual 140, 3) := by decide +kernel
theorem dX7_readOrderLine_23 : decode cX7_readOrderLine 23 = .ok (.istore_n 1, 1) := by decide +kernel
theorem dX7_readOrderLine_24 : decode cX7_readOrderLine 24 = .ok (.aload_n 0, 1) := by decide +kernel
theorem dX7_readOrderLine_25 : decode cX7_readOrderLine 25 = .ok (.ldc 185, 2) := by decide +kernel
theorem dX7_readOrderLine_27 : decode cX7_readOrderLine 27 = .ok (.iconst 1, 1) := by decide +kernel
theorem dX7_readOrderLine_28 : decode cX7_readOrderLine 28 = .ok (.sipush 999, 3) := by decide +kernel
theorem dX7_readOrderLine_31 : decode cX7_readOrderLine 31 = .ok (.invokevirtual 187, 3) := by decide +kernel
theorem dX7_readOrderLine_34 : decode cX7_readOrderLine 34 = .ok (.istore_n 2, 1) := by decide +kernel
theorem dX7_readOrderLine_35 : decode cX7_readOrderLine 35 = .ok (.aload_n 0, 1) := by decide +kernel
theorem dX7_readOrderLine_36 : decode cX7_readOrderLine 36 = .ok (.ldc 191, 2) := by decide +kernel
theorem dX7_readOrderLine_38 : decode cX7_readOrderLine 38 = .ok (.iconst 1, 1) := by decide +kernel
theorem dX7_readOrderLine_39 : decode cX7_readOrderLine 39 = .ok (.bipush 20, 2) := by decide +kernel
theorem dX7_readOrderLine_41 : decode cX7_readOrderLine 41 = .ok (.invokevirtual 187, 3) := by decide +kernel
theorem dX7_readOrderLine_44 : decode cX7_readOrderLine 44 = .ok (.istore_n 3, 1) := by decide +kernel
theorem dX7_readOrderLine_45 : decode cX7_readOrderLine 45 = .ok (.aload_n 0, 1) := by decide +kernel
theorem dX7_readOrderLine_46 : decode cX7_readOrderLine 46 = .ok (.getfield 84, 3) := by decide +kernel
theorem dX7_readOrderLine_49 : decode cX7_readOrderLine 49 = .ok (.ifCond .le 4, 3) := by decide +kernel
theorem dX7_readOrderLine_52 : decode cX7_readOrderLine 52 = .ok (.return_, 1) := by decide +kernel
theorem dX7_readOrderLine_53 : decode cX7_readOrderLine 53 = .ok (.aload_n 0, 1) := by decide +kernel
theorem dX7_readOrderLine_54 : decode cX7_readOrderLine 54 = .ok (.iload_n 1, 1) := by decide +kernel
theorem dX7_readOrderLine_55 : decode cX7_readOrderLine 55 = .ok (.putfield 160, 3) := by decide +kernel
theorem dX7_readOrderLine_58 : decode cX7_readOrderLine 58 = .ok (.aload_n 0, 1) := by decide +kernel
theorem dX7_readOrderLine_59 : decode cX7_readOrderLine 59 = .ok (.iload_n 2, 1) := by decide +kernel
theorem dX7_readOrderLine_60 : decode cX7_readOrderLine 60 = .ok (.putfield 193, 3) := by decide +kernel
theorem dX7_readOrderLine_63 : decode cX7_readOrderLine 63 = .ok (.aload_n 0, 1) := by decide +kernel
theorem dX7_readOrderLine_64 : decode cX7_readOrderLine 64 = .ok (.iload_n 3, 1) := by decide +kernel
theorem dX7_readOrderLine_65 : decode cX7_readOrderLine 65 = .ok (.putfield 196, 3) := by decide +kernel
theorem dX7_readOrderLine_68 : decode cX7_readOrderLine 68 = .ok (.return_, 1) := by decide +kernel
theorem dX7_readKind_0 : decode cX7_readKind 0 = .ok (.aload_n 0, 1) := by decide +kernel
theorem dX7_readKind_1 : decode cX7_readKind 1 = .ok (.ldc 199, 2) := by decide +kernel
theorem dX7_readKind_3 : decode cX7_readKind 3 = .ok (.invokevirtual 136, 3) := by decide +kernel
theorem dX7_readKind_6 : decode cX7_readKind 6 = .ok (.ifCond .eq 7, 3) := by decide +kernel
theorem dX7_readKind_9 : decode cX7_readKind 9 = .ok (.iconst 0, 1) := by decide +kernel
theorem dX7_readKind_10 : decode cX7_readKind 10 = .ok (.goto 30, 3) := by decide +kernel
theorem dX7_readKind_13 : decode cX7_readKind 13 = .ok (.aload_n 0, 1) := by decide +kernel
theorem dX7_readKind_14 : decode cX7_readKind 14 = .ok (.ldc 201, 2) := by decide +kernel
theorem dX7_readKind_16 : decode cX7_readKind 16 = .ok (.invokevirtual 136, 3) := by decide +kernel
theorem dX7_readKind_19 : decode cX7_readKind 19 = .ok (.ifCond .eq 7, 3) := by decide +kernel
theorem dX7_readKind_22 : decode cX7_readKind 22 = .ok (.iconst 1, 1) := by decide +kernel
theorem dX7_readKind_23 : decode cX7_readKind 23 = .ok (.goto 17, 3) := by decide +kernel
theorem dX7_readKind_26 : decode cX7_readKind 26 = .ok (.aload_n 0, 1) := by decide +kernel
theorem dX7_readKind_27 : decode cX7_readKind 27 = .ok (.ldc 203, 2) := by decide +kernel
theorem dX7_readKind_29 : decode cX7_readKind 29 = .ok (.invokevirtual 136, 3) := by decide +kernel
theorem dX7_readKind_32 : decode cX7_readKind 32 = .ok (.ifCond .eq 7, 3) := by decide +kernel
theorem dX7_readKind_35 : decode cX7_readKind 35 = .ok (.iconst 2, 1) := by decide +kernel
theorem dX7_readKind_36 : decode cX7_readKind 36 = .ok (.goto 4, 3) := by decide +kernel
theorem dX7_readKind_39 : decode cX7_readKind 39 = .ok (.iconst (-1), 1) := by decide +kernel
theorem dX7_readKind_40 : decode cX7_readKind 40 = .ok (.istore_n 1, 1) := by decide +kernel
theorem dX7_readKind_41 : decode cX7_readKind 41 = .ok (.iload_n 1, 1) := by decide +kernel
theorem dX7_readKind_42 : decode cX7_readKind 42 = .ok (.iconst (-1), 1) := by decide +kernel
theorem dX7_readKind_43 : decode cX7_readKind 43 = .ok (.if_icmp .ne 8, 3) := by decide +kernel
theorem dX7_readKind_46 : decode cX7_readKind 46 = .ok (.aload_n 0, 1) := by decide +kernel
theorem dX7_readKind_47 : decode cX7_readKind 47 = .ok (.iconst 1, 1) := by decide +kernel
theorem dX7_readKind_48 : decode cX7_readKind 48 = .ok (.invokevirtual 130, 3) := by decide +kernel
theorem dX7_readKind_51 : decode cX7_readKind 51 = .ok (.aload_n 0, 1) := by decide +kernel
theorem dX7_readKind_52 : decode cX7_readKind 52 = .ok (.invokevirtual 133, 3) := by decide +kernel
theorem dX7_readKind_55 : decode cX7_readKind 55 = .ok (.iload_n 1, 1) := by decide +kernel
theorem dX7_readKind_56 : decode cX7_readKind 56 = .ok (.ireturn, 1) := by decide +kernel
theorem dX7_readFeeOf_0 : decode cX7_readFeeOf 0 = .ok (.aload_n 0, 1) := by decide +kernel
theorem dX7_readFeeOf_1 : decode cX7_readFeeOf 1 = .ok (.ldc 205, 2) := by decide +kernel
theorem dX7_readFeeOf_3 : decode cX7_readFeeOf 3 = .ok (.invokevirtual 136, 3) := by decide +kernel
theorem dX7_readFeeOf_6 : decode cX7_readFeeOf 6 = .ok (.ifCond .ne 8, 3) := by decide +kernel
theorem dX7_readFeeOf_9 : decode cX7_readFeeOf 9 = .ok (.aload_n 0, 1) := by decide +kernel
theorem dX7_readFeeOf_10 : decode cX7_readFeeOf 10 = .ok (.iconst 1, 1) := by decide +kernel
theorem dX7_readFeeOf_11 : decode cX7_readFeeOf 11 = .ok (.invokevirtual 130, 3) := by decide +kernel
theorem dX7_readFeeOf_14 : decode cX7_readFeeOf 14 = .ok (.aload_n 0, 1) := by decide +kernel
theorem dX7_readFeeOf_15 : decode cX7_readFeeOf 15 = .ok (.invokevirtual 133, 3) := by decide +kernel
theorem dX7_readFeeOf_18 : decode cX7_readFeeOf 18 = .ok (.aload_n 0, 1) := by decide +kernel
theorem dX7_readFeeOf_19 : decode cX7_readFeeOf 19 = .ok (.bipush 45, 2) := by decide +kernel
theorem dX7_readFeeOf_21 : decode cX7_readFeeOf 21 = .ok (.invokevirtual 169, 3) := by decide +kernel
theorem dX7_readFeeOf_24 : decode cX7_readFeeOf 24 = .ok (.istore_n 1, 1) := by decide +kernel
theorem dX7_readFeeOf_25 : decode cX7_readFeeOf 25 = .ok (.iload_n 1, 1) := by decide +kernel
theorem dX7_readFeeOf_26 : decode cX7_readFeeOf 26 = .ok (.ifCond .eq 7, 3) := by decide +kernel
theorem dX7_readFeeOf_29 : decode cX7_readFeeOf 29 = .ok (.aload_n 0, 1) := by decide +kernel
theorem dX7_readFeeOf_30 : decode cX7_readFeeOf 30 = .ok (.invokevirtual 133, 3) := by decide +kernel
theorem dX7_readFeeOf_33 : decode cX7_readFeeOf 33 = .ok (.aload_n 0, 1) := by decide +kernel
theorem dX7_readFeeOf_34 : decode cX7_readFeeOf 34 = .ok (.iconst 0, 1) := by decide +kernel
theorem dX7_readFeeOf_35 : decode cX7_readFeeOf 35 = .ok (.bipush 9, 2) := by decide +kernel
theorem dX7_readFeeOf_37 : decode cX7_readFeeOf 37 = .ok (.invokevirtual 140, 3) := by decide +kernel
theorem dX7_readFeeOf_40 : decode cX7_readFeeOf 40 = .ok (.istore_n 2, 1) := by decide +kernel
theorem dX7_readFeeOf_41 : decode cX7_readFeeOf 41 = .ok (.iload_n 1, 1) := by decide +kernel
theorem dX7_readFeeOf_42 : decode cX7_readFeeOf 42 = .ok (.ifCond .eq 8, 3) := by decide +kernel
theorem dX7_readFeeOf_45 : decode cX7_readFeeOf 45 = .ok (.iload_n 2, 1) := by decide +kernel
theorem dX7_readFeeOf_46 : decode cX7_readFeeOf 46 = .ok (.ineg, 1) := by decide +kernel
theorem dX7_readFeeOf_47 : decode cX7_readFeeOf 47 = .ok (.goto 4, 3) := by decide +kernel
theorem dX7_readFeeOf_50 : decode cX7_readFeeOf 50 = .ok (.iload_n 2, 1) := by decide +kernel
theorem dX7_readFeeOf_51 : decode cX7_readFeeOf 51 = .ok (.ireturn, 1) := by decide +kernel
theorem dX7_readVenueLine_0 : decode cX7_readVenueLine 0 = .ok (.aload_n 0, 1) := by decide +kernel
theorem dX7_readVenueLine_1 : decode cX7_readVenueLine 1 = .ok (.aload_n 0, 1) := by decide +kernel
theorem dX7_readVenueLine_2 : decode cX7_readVenueLine 2 = .ok (.getfield 150, 3) := by decide +kernel
theorem dX7_readVenueLine_5 : decode cX7_readVenueLine 5 = .ok (.iconst 5, 1) := by decide +kernel
theorem dX7_readVenueLine_6 : decode cX7_readVenueLine 6 = .ok (.if_icmp .ne 7, 3) := by decide +kernel
theorem dX7_readVenueLine_9 : decode cX7_readVenueLine 9 = .ok (.iconst 1, 1) := by decide +kernel
theorem dX7_readVenueLine_10 : decode cX7_readVenueLine 10 = .ok (.goto 4, 3) := by decide +kernel
theorem dX7_readVenueLine_13 : decode cX7_readVenueLine 13 = .ok (.iconst 0, 1) := by decide +kernel
theorem dX7_readVenueLine_14 : decode cX7_readVenueLine 14 = .ok (.invokevirtual 207, 3) := by decide +kernel
theorem dX7_readVenueLine_17 : decode cX7_readVenueLine 17 = .ok (.aload_n 0, 1) := by decide +kernel
theorem dX7_readVenueLine_18 : decode cX7_readVenueLine 18 = .ok (.invokevirtual 153, 3) := by decide +kernel
theorem dX7_readVenueLine_21 : decode cX7_readVenueLine 21 = .ok (.ifCond .ne 8, 3) := by decide +kernel
theorem dX7_readVenueLine_24 : decode cX7_readVenueLine 24 = .ok (.aload_n 0, 1) := by decide +kernel
theorem dX7_readVenueLine_25 : decode cX7_readVenueLine 25 = .ok (.iconst 1, 1) := by decide +kernel
theorem dX7_readVenueLine_26 : decode cX7_readVenueLine 26 = .ok (.invokevirtual 130, 3) := by decide +kernel
theorem dX7_readVenueLine_29 : decode cX7_readVenueLine 29 = .ok (.aload_n 0, 1) := by decide +kernel
theorem dX7_readVenueLine_30 : decode cX7_readVenueLine 30 = .ok (.getfield 84, 3) := by decide +kernel
theorem dX7_readVenueLine_33 : decode cX7_readVenueLine 33 = .ok (.ifCond .ne 16, 3) := by decide +kernel
theorem dX7_readVenueLine_36 : decode cX7_readVenueLine 36 = .ok (.aload_n 0, 1) := by decide +kernel
theorem dX7_readVenueLine_37 : decode cX7_readVenueLine 37 = .ok (.invokevirtual 157, 3) := by decide +kernel
theorem dX7_readVenueLine_40 : decode cX7_readVenueLine 40 = .ok (.iconst (-1), 1) := by decide +kernel
theorem dX7_readVenueLine_41 : decode cX7_readVenueLine 41 = .ok (.if_icmp .eq 8, 3) := by decide +kernel
theorem dX7_readVenueLine_44 : decode cX7_readVenueLine 44 = .ok (.aload_n 0, 1) := by decide +kernel
theorem dX7_readVenueLine_45 : decode cX7_readVenueLine 45 = .ok (.iconst 3, 1) := by decide +kernel
theorem dX7_readVenueLine_46 : decode cX7_readVenueLine 46 = .ok (.invokevirtual 130, 3) := by decide +kernel
theorem dX7_readVenueLine_49 : decode cX7_readVenueLine 49 = .ok (.aload_n 0, 1) := by decide +kernel
theorem dX7_readVenueLine_50 : decode cX7_readVenueLine 50 = .ok (.getfield 113, 3) := by decide +kernel
theorem dX7_readVenueLine_53 : decode cX7_readVenueLine 53 = .ok (.lstore_n 1, 1) := by decide +kernel
theorem dX7_readVenueLine_54 : decode cX7_readVenueLine 54 = .ok (.aload_n 0, 1) := by decide +kernel
theorem dX7_readVenueLine_55 : decode cX7_readVenueLine 55 = .ok (.invokevirtual 133, 3) := by decide +kernel
theorem dX7_readVenueLine_58 : decode cX7_readVenueLine 58 = .ok (.aload_n 0, 1) := by decide +kernel
theorem dX7_readVenueLine_59 : decode cX7_readVenueLine 59 = .ok (.invokevirtual 211, 3) := by decide +kernel
theorem dX7_readVenueLine_62 : decode cX7_readVenueLine 62 = .ok (.istore_n 3, 1) := by decide +kernel
theorem dX7_readVenueLine_63 : decode cX7_readVenueLine 63 = .ok (.aload_n 0, 1) := by decide +kernel
theorem dX7_readVenueLine_64 : decode cX7_readVenueLine 64 = .ok (.ldc 214, 2) := by decide +kernel
theorem dX7_readVenueLine_66 : decode cX7_readVenueLine 66 = .ok (.iconst 1, 1) := by decide +kernel
theorem dX7_readVenueLine_67 : decode cX7_readVenueLine 67 = .ok (.bipush 20, 2) := by decide +kernel
theorem dX7_readVenueLine_69 : decode cX7_readVenueLine 69 = .ok (.invokevirtual 187, 3) := by decide +kernel
theorem dX7_readVenueLine_72 : decode cX7_readVenueLine 72 = .ok (.istore 4, 2) := by decide +kernel
theorem dX7_readVenueLine_74 : decode cX7_readVenueLine 74 = .ok (.aload_n 0, 1) := by decide +kernel
theorem dX7_readVenueLine_75 : decode cX7_readVenueLine 75 = .ok (.invokevirtual 216, 3) := by decide +kernel
theorem dX7_readVenueLine_78 : decode cX7_readVenueLine 78 = .ok (.istore 5, 2) := by decide +kernel
theorem dX7_readVenueLine_80 : decode cX7_readVenueLine 80 = .ok (.aload_n 0, 1) := by decide +kernel
theorem dX7_readVenueLine_81 : decode cX7_readVenueLine 81 = .ok (.ldc 219, 2) := by decide +kernel
theorem dX7_readVenueLine_83 : decode cX7_readVenueLine 83 = .ok (.iconst 0, 1) := by decide +kernel
theorem dX7_readVenueLine_84 : decode cX7_readVenueLine 84 = .ok (.sipush 300, 3) := by decide +kernel
theorem dX7_readVenueLine_87 : decode cX7_readVenueLine 87 = .ok (.invokevirtual 187, 3) := by decide +kernel
theorem dX7_readVenueLine_90 : decode cX7_readVenueLine 90 = .ok (.istore 6, 2) := by decide +kernel
theorem dX7_readVenueLine_92 : decode cX7_readVenueLine 92 = .ok (.aload_n 0, 1) := by decide +kernel
theorem dX7_readVenueLine_93 : decode cX7_readVenueLine 93 = .ok (.ldc 221, 2) := by decide +kernel
theorem dX7_readVenueLine_95 : decode cX7_readVenueLine 95 = .ok (.iconst 1, 1) := by decide +kernel
theorem dX7_readVenueLine_96 : decode cX7_readVenueLine 96 = .ok (.bipush 9, 2) := by decide +kernel
theorem dX7_readVenueLine_98 : decode cX7_readVenueLine 98 = .ok (.invokevirtual 187, 3) := by decide +kernel
theorem dX7_readVenueLine_101 : decode cX7_readVenueLine 101 = .ok (.istore 7, 2) := by decide +kernel
theorem dX7_readVenueLine_103 : decode cX7_readVenueLine 103 = .ok (.aload_n 0, 1) := by decide +kernel
theorem dX7_readVenueLine_104 : decode cX7_readVenueLine 104 = .ok (.getfield 84, 3) := by decide +kernel
theorem dX7_readVenueLine_107 : decode cX7_readVenueLine 107 = .ok (.ifCond .le 4, 3) := by decide +kernel
theorem dX7_readVenueLine_110 : decode cX7_readVenueLine 110 = .ok (.return_, 1) := by decide +kernel
theorem dX7_readVenueLine_111 : decode cX7_readVenueLine 111 = .ok (.iconst 5, 1) := by decide +kernel
theorem dX7_readVenueLine_112 : decode cX7_readVenueLine 112 = .ok (.aload_n 0, 1) := by decide +kernel
theorem dX7_readVenueLine_113 : decode cX7_readVenueLine 113 = .ok (.getfield 150, 3) := by decide +kernel
theorem dX7_readVenueLine_116 : decode cX7_readVenueLine 116 = .ok (.imul, 1) := by decide +kernel
theorem dX7_readVenueLine_117 : decode cX7_readVenueLine 117 = .ok (.istore 8, 2) := by decide +kernel
theorem dX7_readVenueLine_119 : decode cX7_readVenueLine 119 = .ok (.aload_n 0, 1) := by decide +kernel
theorem dX7_readVenueLine_120 : decode cX7_readVenueLine 120 = .ok (.getfield 40, 3) := by decide +kernel
theorem dX7_readVenueLine_123 : decode cX7_readVenueLine 123 = .ok (.aload_n 0, 1) := by decide +kernel
theorem dX7_readVenueLine_124 : decode cX7_readVenueLine 124 = .ok (.getfield 150, 3) := by decide +kernel
theorem dX7_readVenueLine_127 : decode cX7_readVenueLine 127 = .ok (.lload_n 1, 1) := by decide +kernel
theorem dX7_readVenueLine_128 : decode cX7_readVenueLine 128 = .ok (.lastore, 1) := by decide +kernel
theorem dX7_readVenueLine_129 : decode cX7_readVenueLine 129 = .ok (.aload_n 0, 1) := by decide +kernel
theorem dX7_readVenueLine_130 : decode cX7_readVenueLine 130 = .ok (.getfield 25, 3) := by decide +kernel
theorem dX7_readVenueLine_133 : decode cX7_readVenueLine 133 = .ok (.iload 8, 2) := by decide +kernel
theorem dX7_readVenueLine_135 : decode cX7_readVenueLine 135 = .ok (.iconst 0, 1) := by decide +kernel
theorem dX7_readVenueLine_136 : decode cX7_readVenueLine 136 = .ok (.iadd, 1) := by decide +kernel
theorem dX7_readVenueLine_137 : decode cX7_readVenueLine 137 = .ok (.iload_n 3, 1) := by decide +kernel
theorem dX7_readVenueLine_138 : decode cX7_readVenueLine 138 = .ok (.iastore, 1) := by decide +kernel
theorem dX7_readVenueLine_139 : decode cX7_readVenueLine 139 = .ok (.aload_n 0, 1) := by decide +kernel
theorem dX7_readVenueLine_140 : decode cX7_readVenueLine 140 = .ok (.getfield 25, 3) := by decide +kernel
theorem dX7_readVenueLine_143 : decode cX7_readVenueLine 143 = .ok (.iload 8, 2) := by decide +kernel
theorem dX7_readVenueLine_145 : decode cX7_readVenueLine 145 = .ok (.iconst 1, 1) := by decide +kernel
theorem dX7_readVenueLine_146 : decode cX7_readVenueLine 146 = .ok (.iadd, 1) := by decide +kernel
theorem dX7_readVenueLine_147 : decode cX7_readVenueLine 147 = .ok (.iload 4, 2) := by decide +kernel
theorem dX7_readVenueLine_149 : decode cX7_readVenueLine 149 = .ok (.iastore, 1) := by decide +kernel
theorem dX7_readVenueLine_150 : decode cX7_readVenueLine 150 = .ok (.aload_n 0, 1) := by decide +kernel
theorem dX7_readVenueLine_151 : decode cX7_readVenueLine 151 = .ok (.getfield 25, 3) := by decide +kernel
theorem dX7_readVenueLine_154 : decode cX7_readVenueLine 154 = .ok (.iload 8, 2) := by decide +kernel
theorem dX7_readVenueLine_156 : decode cX7_readVenueLine 156 = .ok (.iconst 2, 1) := by decide +kernel
theorem dX7_readVenueLine_157 : decode cX7_readVenueLine 157 = .ok (.iadd, 1) := by decide +kernel
theorem dX7_readVenueLine_158 : decode cX7_readVenueLine 158 = .ok (.iload 6, 2) := by decide +kernel
theorem dX7_readVenueLine_160 : decode cX7_readVenueLine 160 = .ok (.iastore, 1) := by decide +kernel
theorem dX7_readVenueLine_161 : decode cX7_readVenueLine 161 = .ok (.aload_n 0, 1) := by decide +kernel
theorem dX7_readVenueLine_162 : decode cX7_readVenueLine 162 = .ok (.getfield 25, 3) := by decide +kernel
theorem dX7_readVenueLine_165 : decode cX7_readVenueLine 165 = .ok (.iload 8, 2) := by decide +kernel
theorem dX7_readVenueLine_167 : decode cX7_readVenueLine 167 = .ok (.iconst 3, 1) := by decide +kernel
theorem dX7_readVenueLine_168 : decode cX7_readVenueLine 168 = .ok (.iadd, 1) := by decide +kernel
theorem dX7_readVenueLine_169 : decode cX7_readVenueLine 169 = .ok (.iload 7, 2) := by decide +kernel
theorem dX7_readVenueLine_171 : decode cX7_readVenueLine 171 = .ok (.iastore, 1) := by decide +kernel
theorem dX7_readVenueLine_172 : decode cX7_readVenueLine 172 = .ok (.aload_n 0, 1) := by decide +kernel
theorem dX7_readVenueLine_173 : decode cX7_readVenueLine 173 = .ok (.getfield 25, 3) := by decide +kernel
theorem dX7_readVenueLine_176 : decode cX7_readVenueLine 176 = .ok (.iload 8, 2) := by decide +kernel
theorem dX7_readVenueLine_178 : decode cX7_readVenueLine 178 = .ok (.iconst 4, 1) := by decide +kernel
theorem dX7_readVenueLine_179 : decode cX7_readVenueLine 179 = .ok (.iadd, 1) := by decide +kernel
theorem dX7_readVenueLine_180 : decode cX7_readVenueLine 180 = .ok (.iconst 0, 1) := by decide +kernel
theorem dX7_readVenueLine_181 : decode cX7_readVenueLine 181 = .ok (.iastore, 1) := by decide +kernel
theorem dX7_readVenueLine_182 : decode cX7_readVenueLine 182 = .ok (.aload_n 0, 1) := by decide +kernel
theorem dX7_readVenueLine_183 : decode cX7_readVenueLine 183 = .ok (.getfield 37, 3) := by decide +kernel
theorem dX7_readVenueLine_186 : decode cX7_readVenueLine 186 = .ok (.aload_n 0, 1) := by decide +kernel
theorem dX7_readVenueLine_187 : decode cX7_readVenueLine 187 = .ok (.getfield 150, 3) := by decide +kernel
theorem dX7_readVenueLine_190 : decode cX7_readVenueLine 190 = .ok (.iload 5, 2) := by decide +kernel
theorem dX7_readVenueLine_192 : decode cX7_readVenueLine 192 = .ok (.iastore, 1) := by decide +kernel
theorem dX7_readVenueLine_193 : decode cX7_readVenueLine 193 = .ok (.aload_n 0, 1) := by decide +kernel
theorem dX7_readVenueLine_194 : decode cX7_readVenueLine 194 = .ok (.dup, 1) := by decide +kernel
theorem dX7_readVenueLine_195 : decode cX7_readVenueLine 195 = .ok (.getfield 150, 3) := by decide +kernel
theorem dX7_readVenueLine_198 : decode cX7_readVenueLine 198 = .ok (.iconst 1, 1) := by decide +kernel
theorem dX7_readVenueLine_199 : decode cX7_readVenueLine 199 = .ok (.iadd, 1) := by decide +kernel
theorem dX7_readVenueLine_200 : decode cX7_readVenueLine 200 = .ok (.putfield 150, 3) := by decide +kernel
theorem dX7_readVenueLine_203 : decode cX7_readVenueLine 203 = .ok (.return_, 1) := by decide +kernel
theorem dX7_readLevelLine_0 : decode cX7_readLevelLine 0 = .ok (.aload_n 0, 1) := by decide +kernel
theorem dX7_readLevelLine_1 : decode cX7_readLevelLine 1 = .ok (.iconst 0, 1) := by decide +kernel
theorem dX7_readLevelLine_2 : decode cX7_readLevelLine 2 = .ok (.invokevirtual 207, 3) := by decide +kernel
theorem dX7_readLevelLine_5 : decode cX7_readLevelLine 5 = .ok (.aload_n 0, 1) := by decide +kernel
theorem dX7_readLevelLine_6 : decode cX7_readLevelLine 6 = .ok (.invokevirtual 223, 3) := by decide +kernel
theorem dX7_readLevelLine_9 : decode cX7_readLevelLine 9 = .ok (.istore_n 1, 1) := by decide +kernel
theorem dX7_readLevelLine_10 : decode cX7_readLevelLine 10 = .ok (.aload_n 0, 1) := by decide +kernel
theorem dX7_readLevelLine_11 : decode cX7_readLevelLine 11 = .ok (.getfield 25, 3) := by decide +kernel
theorem dX7_readLevelLine_14 : decode cX7_readLevelLine 14 = .ok (.iconst 5, 1) := by decide +kernel
theorem dX7_readLevelLine_15 : decode cX7_readLevelLine 15 = .ok (.iload_n 1, 1) := by decide +kernel
theorem dX7_readLevelLine_16 : decode cX7_readLevelLine 16 = .ok (.imul, 1) := by decide +kernel
theorem dX7_readLevelLine_17 : decode cX7_readLevelLine 17 = .ok (.iconst 4, 1) := by decide +kernel
theorem dX7_readLevelLine_18 : decode cX7_readLevelLine 18 = .ok (.iadd, 1) := by decide +kernel
theorem dX7_readLevelLine_19 : decode cX7_readLevelLine 19 = .ok (.iaload, 1) := by decide +kernel
theorem dX7_readLevelLine_20 : decode cX7_readLevelLine 20 = .ok (.istore_n 2, 1) := by decide +kernel
theorem dX7_readLevelLine_21 : decode cX7_readLevelLine 21 = .ok (.aload_n 0, 1) := by decide +kernel
theorem dX7_readLevelLine_22 : decode cX7_readLevelLine 22 = .ok (.getfield 84, 3) := by decide +kernel
theorem dX7_readLevelLine_25 : decode cX7_readLevelLine 25 = .ok (.ifCond .ne 14, 3) := by decide +kernel
theorem dX7_readLevelLine_28 : decode cX7_readLevelLine 28 = .ok (.iload_n 2, 1) := by decide +kernel
theorem dX7_readLevelLine_29 : decode cX7_readLevelLine 29 = .ok (.bipush 6, 2) := by decide +kernel
theorem dX7_readLevelLine_31 : decode cX7_readLevelLine 31 = .ok (.if_icmp .ne 8, 3) := by decide +kernel
theorem dX7_readLevelLine_34 : decode cX7_readLevelLine 34 = .ok (.aload_n 0, 1) := by decide +kernel
theorem dX7_readLevelLine_35 : decode cX7_readLevelLine 35 = .ok (.iconst 5, 1) := by decide +kernel
theorem dX7_readLevelLine_36 : decode cX7_readLevelLine 36 = .ok (.invokevirtual 130, 3) := by decide +kernel
theorem dX7_readLevelLine_39 : decode cX7_readLevelLine 39 = .ok (.aload_n 0, 1) := by decide +kernel
theorem dX7_readLevelLine_40 : decode cX7_readLevelLine 40 = .ok (.invokevirtual 133, 3) := by decide +kernel
theorem dX7_readLevelLine_43 : decode cX7_readLevelLine 43 = .ok (.aload_n 0, 1) := by decide +kernel
theorem dX7_readLevelLine_44 : decode cX7_readLevelLine 44 = .ok (.iload_n 2, 1) := by decide +kernel
theorem dX7_readLevelLine_45 : decode cX7_readLevelLine 45 = .ok (.ifCond .eq 10, 3) := by decide +kernel
theorem dX7_readLevelLine_48 : decode cX7_readLevelLine 48 = .ok (.aload_n 0, 1) := by decide +kernel
theorem dX7_readLevelLine_49 : decode cX7_readLevelLine 49 = .ok (.getfield 84, 3) := by decide +kernel
theorem dX7_readLevelLine_52 : decode cX7_readLevelLine 52 = .ok (.ifCond .le 7, 3) := by decide +kernel
theorem dX7_readLevelLine_55 : decode cX7_readLevelLine 55 = .ok (.iconst 1, 1) := by decide +kernel
theorem dX7_readLevelLine_56 : decode cX7_readLevelLine 56 = .ok (.goto 18, 3) := by decide +kernel
theorem dX7_readLevelLine_59 : decode cX7_readLevelLine 59 = .ok (.aload_n 0, 1) := by decide +kernel
theorem dX7_readLevelLine_60 : decode cX7_readLevelLine 60 = .ok (.getfield 28, 3) := by decide +kernel
theorem dX7_readLevelLine_63 : decode cX7_readLevelLine 63 = .ok (.bipush 6, 2) := by decide +kernel
theorem dX7_readLevelLine_65 : decode cX7_readLevelLine 65 = .ok (.iload_n 1, 1) := by decide +kernel
theorem dX7_readLevelLine_66 : decode cX7_readLevelLine 66 = .ok (.imul, 1) := by decide +kernel
theorem dX7_readLevelLine_67 : decode cX7_readLevelLine 67 = .ok (.iload_n 2, 1) := by decide +kernel
theorem dX7_readLevelLine_68 : decode cX7_readLevelLine 68 = .ok (.iadd, 1) := by decide +kernel
theorem dX7_readLevelLine_69 : decode cX7_readLevelLine 69 = .ok (.iconst 1, 1) := by decide +kernel
theorem dX7_readLevelLine_70 : decode cX7_readLevelLine 70 = .ok (.isub, 1) := by decide +kernel
theorem dX7_readLevelLine_71 : decode cX7_readLevelLine 71 = .ok (.iaload, 1) := by decide +kernel
theorem dX7_readLevelLine_72 : decode cX7_readLevelLine 72 = .ok (.iconst 1, 1) := by decide +kernel
theorem dX7_readLevelLine_73 : decode cX7_readLevelLine 73 = .ok (.iadd, 1) := by decide +kernel
theorem dX7_readLevelLine_74 : decode cX7_readLevelLine 74 = .ok (.sipush 999, 3) := by decide +kernel
theorem dX7_readLevelLine_77 : decode cX7_readLevelLine 77 = .ok (.invokevirtual 140, 3) := by decide +kernel
theorem dX7_readLevelLine_80 : decode cX7_readLevelLine 80 = .ok (.istore_n 3, 1) := by decide +kernel
theorem dX7_readLevelLine_81 : decode cX7_readLevelLine 81 = .ok (.aload_n 0, 1) := by decide +kernel
theorem dX7_readLevelLine_82 : decode cX7_readLevelLine 82 = .ok (.iconst 1, 1) := by decide +kernel
theorem dX7_readLevelLine_83 : decode cX7_readLevelLine 83 = .ok (.bipush 99, 2) := by decide +kernel
theorem dX7_readLevelLine_85 : decode cX7_readLevelLine 85 = .ok (.invokevirtual 140, 3) := by decide +kernel
theorem dX7_readLevelLine_88 : decode cX7_readLevelLine 88 = .ok (.istore 4, 2) := by decide +kernel
theorem dX7_readLevelLine_90 : decode cX7_readLevelLine 90 = .ok (.aload_n 0, 1) := by decide +kernel
theorem dX7_readLevelLine_91 : decode cX7_readLevelLine 91 = .ok (.getfield 84, 3) := by decide +kernel
theorem dX7_readLevelLine_94 : decode cX7_readLevelLine 94 = .ok (.ifCond .le 4, 3) := by decide +kernel
theorem dX7_readLevelLine_97 : decode cX7_readLevelLine 97 = .ok (.return_, 1) := by decide +kernel
theorem dX7_readLevelLine_98 : decode cX7_readLevelLine 98 = .ok (.aload_n 0, 1) := by decide +kernel
theorem dX7_readLevelLine_99 : decode cX7_readLevelLine 99 = .ok (.getfield 28, 3) := by decide +kernel
theorem dX7_readLevelLine_102 : decode cX7_readLevelLine 102 = .ok (.bipush 6, 2) := by decide +kernel
theorem dX7_readLevelLine_104 : decode cX7_readLevelLine 104 = .ok (.iload_n 1, 1) := by decide +kernel
theorem dX7_readLevelLine_105 : decode cX7_readLevelLine 105 = .ok (.imul, 1) := by decide +kernel
theorem dX7_readLevelLine_106 : decode cX7_readLevelLine 106 = .ok (.iload_n 2, 1) := by decide +kernel
theorem dX7_readLevelLine_107 : decode cX7_readLevelLine 107 = .ok (.iadd, 1) := by decide +kernel
theorem dX7_readLevelLine_108 : decode cX7_readLevelLine 108 = .ok (.iload_n 3, 1) := by decide +kernel
theorem dX7_readLevelLine_109 : decode cX7_readLevelLine 109 = .ok (.iastore, 1) := by decide +kernel
theorem dX7_readLevelLine_110 : decode cX7_readLevelLine 110 = .ok (.aload_n 0, 1) := by decide +kernel
theorem dX7_readLevelLine_111 : decode cX7_readLevelLine 111 = .ok (.getfield 34, 3) := by decide +kernel
theorem dX7_readLevelLine_114 : decode cX7_readLevelLine 114 = .ok (.bipush 6, 2) := by decide +kernel
theorem dX7_readLevelLine_116 : decode cX7_readLevelLine 116 = .ok (.iload_n 1, 1) := by decide +kernel
theorem dX7_readLevelLine_117 : decode cX7_readLevelLine 117 = .ok (.imul, 1) := by decide +kernel
theorem dX7_readLevelLine_118 : decode cX7_readLevelLine 118 = .ok (.iload_n 2, 1) := by decide +kernel
theorem dX7_readLevelLine_119 : decode cX7_readLevelLine 119 = .ok (.iadd, 1) := by decide +kernel
theorem dX7_readLevelLine_120 : decode cX7_readLevelLine 120 = .ok (.iload 4, 2) := by decide +kernel
theorem dX7_readLevelLine_122 : decode cX7_readLevelLine 122 = .ok (.iastore, 1) := by decide +kernel
theorem dX7_readLevelLine_123 : decode cX7_readLevelLine 123 = .ok (.aload_n 0, 1) := by decide +kernel
theorem dX7_readLevelLine_124 : decode cX7_readLevelLine 124 = .ok (.getfield 25, 3) := by decide +kernel
theorem dX7_readLevelLine_127 : decode cX7_readLevelLine 127 = .ok (.iconst 5, 1) := by decide +kernel
theorem dX7_readLevelLine_128 : decode cX7_readLevelLine 128 = .ok (.iload_n 1, 1) := by decide +kernel
theorem dX7_readLevelLine_129 : decode cX7_readLevelLine 129 = .ok (.imul, 1) := by decide +kernel
theorem dX7_readLevelLine_130 : decode cX7_readLevelLine 130 = .ok (.iconst 4, 1) := by decide +kernel
theorem dX7_readLevelLine_131 : decode cX7_readLevelLine 131 = .ok (.iadd, 1) := by decide +kernel
theorem dX7_readLevelLine_132 : decode cX7_readLevelLine 132 = .ok (.dup2, 1) := by decide +kernel
theorem dX7_readLevelLine_133 : decode cX7_readLevelLine 133 = .ok (.iaload, 1) := by decide +kernel
theorem dX7_readLevelLine_134 : decode cX7_readLevelLine 134 = .ok (.iconst 1, 1) := by decide +kernel
theorem dX7_readLevelLine_135 : decode cX7_readLevelLine 135 = .ok (.iadd, 1) := by decide +kernel
theorem dX7_readLevelLine_136 : decode cX7_readLevelLine 136 = .ok (.iastore, 1) := by decide +kernel
theorem dX7_readLevelLine_137 : decode cX7_readLevelLine 137 = .ok (.return_, 1) := by decide +kernel
theorem dX7_readEventLine_0 : decode cX7_readEventLine 0 = .ok (.aload_n 0, 1) := by decide +kernel
theorem dX7_readEventLine_1 : decode cX7_readEventLine 1 = .ok (.aload_n 0, 1) := by decide +kernel
theorem dX7_readEventLine_2 : decode cX7_readEventLine 2 = .ok (.getfield 163, 3) := by decide +kernel
theorem dX7_readEventLine_5 : decode cX7_readEventLine 5 = .ok (.bipush 10, 2) := by decide +kernel
theorem dX7_readEventLine_7 : decode cX7_readEventLine 7 = .ok (.if_icmp .ne 7, 3) := by decide +kernel
theorem dX7_readEventLine_10 : decode cX7_readEventLine 10 = .ok (.iconst 1, 1) := by decide +kernel
theorem dX7_readEventLine_11 : decode cX7_readEventLine 11 = .ok (.goto 4, 3) := by decide +kernel
theorem dX7_readEventLine_14 : decode cX7_readEventLine 14 = .ok (.iconst 0, 1) := by decide +kernel
theorem dX7_readEventLine_15 : decode cX7_readEventLine 15 = .ok (.invokevirtual 207, 3) := by decide +kernel
theorem dX7_readEventLine_18 : decode cX7_readEventLine 18 = .ok (.aload_n 0, 1) := by decide +kernel
theorem dX7_readEventLine_19 : decode cX7_readEventLine 19 = .ok (.aload_n 0, 1) := by decide +kernel
theorem dX7_readEventLine_20 : decode cX7_readEventLine 20 = .ok (.getfield 163, 3) := by decide +kernel
theorem dX7_readEventLine_23 : decode cX7_readEventLine 23 = .ok (.ifCond .ne 7, 3) := by decide +kernel
theorem dX7_readEventLine_26 : decode cX7_readEventLine 26 = .ok (.iconst 1, 1) := by decide +kernel
theorem dX7_readEventLine_27 : decode cX7_readEventLine 27 = .ok (.goto 16, 3) := by decide +kernel
theorem dX7_readEventLine_30 : decode cX7_readEventLine 30 = .ok (.aload_n 0, 1) := by decide +kernel
theorem dX7_readEventLine_31 : decode cX7_readEventLine 31 = .ok (.getfield 31, 3) := by decide +kernel
theorem dX7_readEventLine_34 : decode cX7_readEventLine 34 = .ok (.iconst 4, 1) := by decide +kernel
theorem dX7_readEventLine_35 : decode cX7_readEventLine 35 = .ok (.aload_n 0, 1) := by decide +kernel
theorem dX7_readEventLine_36 : decode cX7_readEventLine 36 = .ok (.getfield 163, 3) := by decide +kernel
theorem dX7_readEventLine_39 : decode cX7_readEventLine 39 = .ok (.imul, 1) := by decide +kernel
theorem dX7_readEventLine_40 : decode cX7_readEventLine 40 = .ok (.iconst 4, 1) := by decide +kernel
theorem dX7_readEventLine_41 : decode cX7_readEventLine 41 = .ok (.isub, 1) := by decide +kernel
theorem dX7_readEventLine_42 : decode cX7_readEventLine 42 = .ok (.iaload, 1) := by decide +kernel
theorem dX7_readEventLine_43 : decode cX7_readEventLine 43 = .ok (.sipush 200, 3) := by decide +kernel
theorem dX7_readEventLine_46 : decode cX7_readEventLine 46 = .ok (.invokevirtual 140, 3) := by decide +kernel
theorem dX7_readEventLine_49 : decode cX7_readEventLine 49 = .ok (.istore_n 1, 1) := by decide +kernel
theorem dX7_readEventLine_50 : decode cX7_readEventLine 50 = .ok (.aload_n 0, 1) := by decide +kernel
theorem dX7_readEventLine_51 : decode cX7_readEventLine 51 = .ok (.invokevirtual 223, 3) := by decide +kernel
theorem dX7_readEventLine_54 : decode cX7_readEventLine 54 = .ok (.istore_n 2, 1) := by decide +kernel
theorem dX7_readEventLine_55 : decode cX7_readEventLine 55 = .ok (.aload_n 0, 1) := by decide +kernel
theorem dX7_readEventLine_56 : decode cX7_readEventLine 56 = .ok (.invokevirtual 133, 3) := by decide +kernel
theorem dX7_readEventLine_59 : decode cX7_readEventLine 59 = .ok (.aload_n 0, 1) := by decide +kernel
theorem dX7_readEventLine_60 : decode cX7_readEventLine 60 = .ok (.iconst 0, 1) := by decide +kernel
theorem dX7_readEventLine_61 : decode cX7_readEventLine 61 = .ok (.aload_n 0, 1) := by decide +kernel
theorem dX7_readEventLine_62 : decode cX7_readEventLine 62 = .ok (.getfield 25, 3) := by decide +kernel
theorem dX7_readEventLine_65 : decode cX7_readEventLine 65 = .ok (.iconst 5, 1) := by decide +kernel
theorem dX7_readEventLine_66 : decode cX7_readEventLine 66 = .ok (.iload_n 2, 1) := by decide +kernel
theorem dX7_readEventLine_67 : decode cX7_readEventLine 67 = .ok (.imul, 1) := by decide +kernel
theorem dX7_readEventLine_68 : decode cX7_readEventLine 68 = .ok (.iconst 4, 1) := by decide +kernel
theorem dX7_readEventLine_69 : decode cX7_readEventLine 69 = .ok (.iadd, 1) := by decide +kernel
theorem dX7_readEventLine_70 : decode cX7_readEventLine 70 = .ok (.iaload, 1) := by decide +kernel
theorem dX7_readEventLine_71 : decode cX7_readEventLine 71 = .ok (.iconst 1, 1) := by decide +kernel
theorem dX7_readEventLine_72 : decode cX7_readEventLine 72 = .ok (.isub, 1) := by decide +kernel
theorem dX7_readEventLine_73 : decode cX7_readEventLine 73 = .ok (.invokevirtual 140, 3) := by decide +kernel
theorem dX7_readEventLine_76 : decode cX7_readEventLine 76 = .ok (.istore_n 3, 1) := by decide +kernel
theorem dX7_readEventLine_77 : decode cX7_readEventLine 77 = .ok (.aload_n 0, 1) := by decide +kernel
theorem dX7_readEventLine_78 : decode cX7_readEventLine 78 = .ok (.iconst 0, 1) := by decide +kernel
theorem dX7_readEventLine_79 : decode cX7_readEventLine 79 = .ok (.bipush 99, 2) := by decide +kernel
theorem dX7_readEventLine_81 : decode cX7_readEventLine 81 = .ok (.invokevirtual 140, 3) := by decide +kernel
theorem dX7_readEventLine_84 : decode cX7_readEventLine 84 = .ok (.istore 4, 2) := by decide +kernel
theorem dX7_readEventLine_86 : decode cX7_readEventLine 86 = .ok (.aload_n 0, 1) := by decide +kernel
theorem dX7_readEventLine_87 : decode cX7_readEventLine 87 = .ok (.getfield 84, 3) := by decide +kernel
theorem dX7_readEventLine_90 : decode cX7_readEventLine 90 = .ok (.ifCond .le 4, 3) := by decide +kernel
theorem dX7_readEventLine_93 : decode cX7_readEventLine 93 = .ok (.return_, 1) := by decide +kernel
theorem dX7_readEventLine_94 : decode cX7_readEventLine 94 = .ok (.iconst 4, 1) := by decide +kernel
theorem dX7_readEventLine_95 : decode cX7_readEventLine 95 = .ok (.aload_n 0, 1) := by decide +kernel
theorem dX7_readEventLine_96 : decode cX7_readEventLine 96 = .ok (.getfield 163, 3) := by decide +kernel
theorem dX7_readEventLine_99 : decode cX7_readEventLine 99 = .ok (.imul, 1) := by decide +kernel
theorem dX7_readEventLine_100 : decode cX7_readEventLine 100 = .ok (.istore 5, 2) := by decide +kernel
theorem dX7_readEventLine_102 : decode cX7_readEventLine 102 = .ok (.aload_n 0, 1) := by decide +kernel
theorem dX7_readEventLine_103 : decode cX7_readEventLine 103 = .ok (.getfield 31, 3) := by decide +kernel
theorem dX7_readEventLine_106 : decode cX7_readEventLine 106 = .ok (.iload 5, 2) := by decide +kernel
theorem dX7_readEventLine_108 : decode cX7_readEventLine 108 = .ok (.iload_n 1, 1) := by decide +kernel
theorem dX7_readEventLine_109 : decode cX7_readEventLine 109 = .ok (.iastore, 1) := by decide +kernel
theorem dX7_readEventLine_110 : decode cX7_readEventLine 110 = .ok (.aload_n 0, 1) := by decide +kernel
theorem dX7_readEventLine_111 : decode cX7_readEventLine 111 = .ok (.getfield 31, 3) := by decide +kernel
theorem dX7_readEventLine_114 : decode cX7_readEventLine 114 = .ok (.iload 5, 2) := by decide +kernel
theorem dX7_readEventLine_116 : decode cX7_readEventLine 116 = .ok (.iconst 1, 1) := by decide +kernel
theorem dX7_readEventLine_117 : decode cX7_readEventLine 117 = .ok (.iadd, 1) := by decide +kernel
theorem dX7_readEventLine_118 : decode cX7_readEventLine 118 = .ok (.iload_n 2, 1) := by decide +kernel
theorem dX7_readEventLine_119 : decode cX7_readEventLine 119 = .ok (.iastore, 1) := by decide +kernel
theorem dX7_readEventLine_120 : decode cX7_readEventLine 120 = .ok (.aload_n 0, 1) := by decide +kernel
theorem dX7_readEventLine_121 : decode cX7_readEventLine 121 = .ok (.getfield 31, 3) := by decide +kernel
theorem dX7_readEventLine_124 : decode cX7_readEventLine 124 = .ok (.iload 5, 2) := by decide +kernel
theorem dX7_readEventLine_126 : decode cX7_readEventLine 126 = .ok (.iconst 2, 1) := by decide +kernel
theorem dX7_readEventLine_127 : decode cX7_readEventLine 127 = .ok (.iadd, 1) := by decide +kernel
theorem dX7_readEventLine_128 : decode cX7_readEventLine 128 = .ok (.iload_n 3, 1) := by decide +kernel
theorem dX7_readEventLine_129 : decode cX7_readEventLine 129 = .ok (.iastore, 1) := by decide +kernel
theorem dX7_readEventLine_130 : decode cX7_readEventLine 130 = .ok (.aload_n 0, 1) := by decide +kernel
theorem dX7_readEventLine_131 : decode cX7_readEventLine 131 = .ok (.getfield 31, 3) := by decide +kernel
theorem dX7_readEventLine_134 : decode cX7_readEventLine 134 = .ok (.iload 5, 2) := by decide +kernel
theorem dX7_readEventLine_136 : decode cX7_readEventLine 136 = .ok (.iconst 3, 1) := by decide +kernel
theorem dX7_readEventLine_137 : decode cX7_readEventLine 137 = .ok (.iadd, 1) := by decide +kernel
theorem dX7_readEventLine_138 : decode cX7_readEventLine 138 = .ok (.iload 4, 2) := by decide +kernel
theorem dX7_readEventLine_140 : decode cX7_readEventLine 140 = .ok (.iastore, 1) := by decide +kernel
theorem dX7_readEventLine_141 : decode cX7_readEventLine 141 = .ok (.aload_n 0, 1) := by decide +kernel
theorem dX7_readEventLine_142 : decode cX7_readEventLine 142 = .ok (.dup, 1) := by decide +kernel
theorem dX7_readEventLine_143 : decode cX7_readEventLine 143 = .ok (.getfield 163, 3) := by decide +kernel
theorem dX7_readEventLine_146 : decode cX7_readEventLine 146 = .ok (.iconst 1, 1) := by decide +kernel
theorem dX7_readEventLine_147 : decode cX7_readEventLine 147 = .ok (.iadd, 1) := by decide +kernel
theorem dX7_readEventLine_148 : decode cX7_readEventLine 148 = .ok (.putfield 163, 3) := by decide +kernel
theorem dX7_readEventLine_151 : decode cX7_readEventLine 151 = .ok (.return_, 1) := by decide +kernel
theorem dX7_feed_0 : decode cX7_feed 0 = .ok (.aload_n 0, 1) := by decide +kernel
theorem dX7_feed_1 : decode cX7_feed 1 = .ok (.iconst 0, 1) := by decide +kernel
theorem dX7_feed_2 : decode cX7_feed 2 = .ok (.putfield 70, 3) := by decide +kernel
theorem dX7_feed_5 : decode cX7_feed 5 = .ok (.aload_n 0, 1) := by decide +kernel
theorem dX7_feed_6 : decode cX7_feed 6 = .ok (.getfield 226, 3) := by decide +kernel
theorem dX7_feed_9 : decode cX7_feed 9 = .ok (.bipush 20, 2) := by decide +kernel
theorem dX7_feed_11 : decode cX7_feed 11 = .ok (.iadd, 1) := by decide +kernel
theorem dX7_feed_12 : decode cX7_feed 12 = .ok (.sipush 900, 3) := by decide +kernel
theorem dX7_feed_15 : decode cX7_feed 15 = .ok (.if_icmp .le 5, 3) := by decide +kernel
theorem dX7_feed_18 : decode cX7_feed 18 = .ok (.iconst (-1), 1) := by decide +kernel
theorem dX7_feed_19 : decode cX7_feed 19 = .ok (.ireturn, 1) := by decide +kernel
theorem dX7_feed_20 : decode cX7_feed 20 = .ok (.iconst 0, 1) := by decide +kernel
theorem dX7_feed_21 : decode cX7_feed 21 = .ok (.istore 6, 2) := by decide +kernel
theorem dX7_feed_23 : decode cX7_feed 23 = .ok (.iload 6, 2) := by decide +kernel
theorem dX7_feed_25 : decode cX7_feed 25 = .ok (.bipush 20, 2) := by decide +kernel
theorem dX7_feed_27 : decode cX7_feed 27 = .ok (.if_icmp .ge 90, 3) := by decide +kernel
theorem dX7_feed_30 : decode cX7_feed 30 = .ok (.iload 6, 2) := by decide +kernel
theorem dX7_feed_32 : decode cX7_feed 32 = .ok (.iconst 4, 1) := by decide +kernel
theorem dX7_feed_33 : decode cX7_feed 33 = .ok (.if_icmp .ge 7, 3) := by decide +kernel
theorem dX7_feed_36 : decode cX7_feed 36 = .ok (.iload_n 1, 1) := by decide +kernel
theorem dX7_feed_37 : decode cX7_feed 37 = .ok (.goto 39, 3) := by decide +kernel
theorem dX7_feed_40 : decode cX7_feed 40 = .ok (.iload 6, 2) := by decide +kernel
theorem dX7_feed_42 : decode cX7_feed 42 = .ok (.bipush 8, 2) := by decide +kernel
theorem dX7_feed_44 : decode cX7_feed 44 = .ok (.if_icmp .ge 7, 3) := by decide +kernel
theorem dX7_feed_47 : decode cX7_feed 47 = .ok (.iload_n 2, 1) := by decide +kernel
theorem dX7_feed_48 : decode cX7_feed 48 = .ok (.goto 28, 3) := by decide +kernel
theorem dX7_feed_51 : decode cX7_feed 51 = .ok (.iload 6, 2) := by decide +kernel
theorem dX7_feed_53 : decode cX7_feed 53 = .ok (.bipush 12, 2) := by decide +kernel
theorem dX7_feed_55 : decode cX7_feed 55 = .ok (.if_icmp .ge 7, 3) := by decide +kernel
theorem dX7_feed_58 : decode cX7_feed 58 = .ok (.iload_n 3, 1) := by decide +kernel
theorem dX7_feed_59 : decode cX7_feed 59 = .ok (.goto 17, 3) := by decide +kernel
theorem dX7_feed_62 : decode cX7_feed 62 = .ok (.iload 6, 2) := by decide +kernel
theorem dX7_feed_64 : decode cX7_feed 64 = .ok (.bipush 16, 2) := by decide +kernel
theorem dX7_feed_66 : decode cX7_feed 66 = .ok (.if_icmp .ge 8, 3) := by decide +kernel
theorem dX7_feed_69 : decode cX7_feed 69 = .ok (.iload 4, 2) := by decide +kernel
theorem dX7_feed_71 : decode cX7_feed 71 = .ok (.goto 5, 3) := by decide +kernel
theorem dX7_feed_74 : decode cX7_feed 74 = .ok (.iload 5, 2) := by decide +kernel
theorem dX7_feed_76 : decode cX7_feed 76 = .ok (.istore 7, 2) := by decide +kernel
theorem dX7_feed_78 : decode cX7_feed 78 = .ok (.aload_n 0, 1) := by decide +kernel
theorem dX7_feed_79 : decode cX7_feed 79 = .ok (.getfield 53, 3) := by decide +kernel
theorem dX7_feed_82 : decode cX7_feed 82 = .ok (.aload_n 0, 1) := by decide +kernel
theorem dX7_feed_83 : decode cX7_feed 83 = .ok (.getfield 226, 3) := by decide +kernel
theorem dX7_feed_86 : decode cX7_feed 86 = .ok (.iload 7, 2) := by decide +kernel
theorem dX7_feed_88 : decode cX7_feed 88 = .ok (.bipush 24, 2) := by decide +kernel
theorem dX7_feed_90 : decode cX7_feed 90 = .ok (.bipush 8, 2) := by decide +kernel
theorem dX7_feed_92 : decode cX7_feed 92 = .ok (.iload 6, 2) := by decide +kernel
theorem dX7_feed_94 : decode cX7_feed 94 = .ok (.iconst 4, 1) := by decide +kernel
theorem dX7_feed_95 : decode cX7_feed 95 = .ok (.irem, 1) := by decide +kernel
theorem dX7_feed_96 : decode cX7_feed 96 = .ok (.imul, 1) := by decide +kernel
theorem dX7_feed_97 : decode cX7_feed 97 = .ok (.isub, 1) := by decide +kernel
theorem dX7_feed_98 : decode cX7_feed 98 = .ok (.ishr, 1) := by decide +kernel
theorem dX7_feed_99 : decode cX7_feed 99 = .ok (.i2b, 1) := by decide +kernel
theorem dX7_feed_100 : decode cX7_feed 100 = .ok (.bastore, 1) := by decide +kernel
theorem dX7_feed_101 : decode cX7_feed 101 = .ok (.aload_n 0, 1) := by decide +kernel
theorem dX7_feed_102 : decode cX7_feed 102 = .ok (.dup, 1) := by decide +kernel
theorem dX7_feed_103 : decode cX7_feed 103 = .ok (.getfield 226, 3) := by decide +kernel
theorem dX7_feed_106 : decode cX7_feed 106 = .ok (.iconst 1, 1) := by decide +kernel
theorem dX7_feed_107 : decode cX7_feed 107 = .ok (.iadd, 1) := by decide +kernel
theorem dX7_feed_108 : decode cX7_feed 108 = .ok (.putfield 226, 3) := by decide +kernel
theorem dX7_feed_111 : decode cX7_feed 111 = .ok (.iinc 6 1, 3) := by decide +kernel
theorem dX7_feed_114 : decode cX7_feed 114 = .ok (.goto (-91), 3) := by decide +kernel
theorem dX7_feed_117 : decode cX7_feed 117 = .ok (.aload_n 0, 1) := by decide +kernel
theorem dX7_feed_118 : decode cX7_feed 118 = .ok (.getfield 226, 3) := by decide +kernel
theorem dX7_feed_121 : decode cX7_feed 121 = .ok (.ireturn, 1) := by decide +kernel
theorem dX7_split_0 : decode cX7_split 0 = .ok (.aload_n 0, 1) := by decide +kernel
theorem dX7_split_1 : decode cX7_split 1 = .ok (.iconst 0, 1) := by decide +kernel
theorem dX7_split_2 : decode cX7_split 2 = .ok (.putfield 70, 3) := by decide +kernel
theorem dX7_split_5 : decode cX7_split 5 = .ok (.iload_n 1, 1) := by decide +kernel
theorem dX7_split_6 : decode cX7_split 6 = .ok (.ifCond .lt 11, 3) := by decide +kernel
theorem dX7_split_9 : decode cX7_split 9 = .ok (.iload_n 1, 1) := by decide +kernel
theorem dX7_split_10 : decode cX7_split 10 = .ok (.aload_n 0, 1) := by decide +kernel
theorem dX7_split_11 : decode cX7_split 11 = .ok (.getfield 226, 3) := by decide +kernel
theorem dX7_split_14 : decode cX7_split 14 = .ok (.if_icmp .le 9, 3) := by decide +kernel
theorem dX7_split_17 : decode cX7_split 17 = .ok (.aload_n 0, 1) := by decide +kernel
theorem dX7_split_18 : decode cX7_split 18 = .ok (.iconst 2, 1) := by decide +kernel
theorem dX7_split_19 : decode cX7_split 19 = .ok (.invokevirtual 76, 3) := by decide +kernel
theorem dX7_split_22 : decode cX7_split 22 = .ok (.ireturn, 1) := by decide +kernel
theorem dX7_split_23 : decode cX7_split 23 = .ok (.aload_n 0, 1) := by decide +kernel
theorem dX7_split_24 : decode cX7_split 24 = .ok (.iload_n 1, 1) := by decide +kernel
theorem dX7_split_25 : decode cX7_split 25 = .ok (.putfield 81, 3) := by decide +kernel
theorem dX7_split_28 : decode cX7_split 28 = .ok (.aload_n 0, 1) := by decide +kernel
theorem dX7_split_29 : decode cX7_split 29 = .ok (.iconst 0, 1) := by decide +kernel
theorem dX7_split_30 : decode cX7_split 30 = .ok (.putfield 226, 3) := by decide +kernel
theorem dX7_split_33 : decode cX7_split 33 = .ok (.aload_n 0, 1) := by decide +kernel
theorem dX7_split_34 : decode cX7_split 34 = .ok (.iconst 0, 1) := by decide +kernel
theorem dX7_split_35 : decode cX7_split 35 = .ok (.putfield 87, 3) := by decide +kernel
theorem dX7_split_38 : decode cX7_split 38 = .ok (.aload_n 0, 1) := by decide +kernel
theorem dX7_split_39 : decode cX7_split 39 = .ok (.iconst 0, 1) := by decide +kernel
theorem dX7_split_40 : decode cX7_split 40 = .ok (.putfield 84, 3) := by decide +kernel
theorem dX7_split_43 : decode cX7_split 43 = .ok (.aload_n 0, 1) := by decide +kernel
theorem dX7_split_44 : decode cX7_split 44 = .ok (.invokevirtual 229, 3) := by decide +kernel
theorem dX7_split_47 : decode cX7_split 47 = .ok (.aload_n 0, 1) := by decide +kernel
theorem dX7_split_48 : decode cX7_split 48 = .ok (.getfield 84, 3) := by decide +kernel
theorem dX7_split_51 : decode cX7_split 51 = .ok (.ifCond .le 18, 3) := by decide +kernel
theorem dX7_split_54 : decode cX7_split 54 = .ok (.aload_n 0, 1) := by decide +kernel
theorem dX7_split_55 : decode cX7_split 55 = .ok (.iconst 4, 1) := by decide +kernel
theorem dX7_split_56 : decode cX7_split 56 = .ok (.putfield 73, 3) := by decide +kernel
theorem dX7_split_59 : decode cX7_split 59 = .ok (.aload_n 0, 1) := by decide +kernel
theorem dX7_split_60 : decode cX7_split 60 = .ok (.aload_n 0, 1) := by decide +kernel
theorem dX7_split_61 : decode cX7_split 61 = .ok (.getfield 93, 3) := by decide +kernel
theorem dX7_split_64 : decode cX7_split 64 = .ok (.putfield 11, 3) := by decide +kernel
theorem dX7_split_67 : decode cX7_split 67 = .ok (.iconst (-1), 1) := by decide +kernel
theorem dX7_split_68 : decode cX7_split 68 = .ok (.ireturn, 1) := by decide +kernel
theorem dX7_split_69 : decode cX7_split 69 = .ok (.aload_n 0, 1) := by decide +kernel
theorem dX7_split_70 : decode cX7_split 70 = .ok (.invokevirtual 232, 3) := by decide +kernel
theorem dX7_split_73 : decode cX7_split 73 = .ok (.aload_n 0, 1) := by decide +kernel
theorem dX7_split_74 : decode cX7_split 74 = .ok (.aload_n 0, 1) := by decide +kernel
theorem dX7_split_75 : decode cX7_split 75 = .ok (.getfield 235, 3) := by decide +kernel
theorem dX7_split_78 : decode cX7_split 78 = .ok (.invokevirtual 238, 3) := by decide +kernel
theorem dX7_split_81 : decode cX7_split 81 = .ok (.ireturn, 1) := by decide +kernel
theorem dX7_takesOver_0 : decode cX7_takesOver 0 = .ok (.aload_n 0, 1) := by decide +kernel
theorem dX7_takesOver_1 : decode cX7_takesOver 1 = .ok (.iconst 1, 1) := by decide +kernel
theorem dX7_takesOver_2 : decode cX7_takesOver 2 = .ok (.putfield 241, 3) := by decide +kernel
theorem dX7_takesOver_5 : decode cX7_takesOver 5 = .ok (.aload_n 0, 1) := by decide +kernel
theorem dX7_takesOver_6 : decode cX7_takesOver 6 = .ok (.iconst 0, 1) := by decide +kernel
theorem dX7_takesOver_7 : decode cX7_takesOver 7 = .ok (.putfield 245, 3) := by decide +kernel
theorem dX7_takesOver_10 : decode cX7_takesOver 10 = .ok (.aload_n 0, 1) := by decide +kernel
theorem dX7_takesOver_11 : decode cX7_takesOver 11 = .ok (.aload_n 0, 1) := by decide +kernel
theorem dX7_takesOver_12 : decode cX7_takesOver 12 = .ok (.getfield 193, 3) := by decide +kernel
theorem dX7_takesOver_15 : decode cX7_takesOver 15 = .ok (.putfield 248, 3) := by decide +kernel
theorem dX7_takesOver_18 : decode cX7_takesOver 18 = .ok (.aload_n 0, 1) := by decide +kernel
theorem dX7_takesOver_19 : decode cX7_takesOver 19 = .ok (.aload_n 0, 1) := by decide +kernel
theorem dX7_takesOver_20 : decode cX7_takesOver 20 = .ok (.getfield 196, 3) := by decide +kernel
theorem dX7_takesOver_23 : decode cX7_takesOver 23 = .ok (.putfield 250, 3) := by decide +kernel
theorem dX7_takesOver_26 : decode cX7_takesOver 26 = .ok (.aload_n 0, 1) := by decide +kernel
theorem dX7_takesOver_27 : decode cX7_takesOver 27 = .ok (.aload_n 0, 1) := by decide +kernel
theorem dX7_takesOver_28 : decode cX7_takesOver 28 = .ok (.getfield 150, 3) := by decide +kernel
theorem dX7_takesOver_31 : decode cX7_takesOver 31 = .ok (.putfield 235, 3) := by decide +kernel
theorem dX7_takesOver_34 : decode cX7_takesOver 34 = .ok (.aload_n 0, 1) := by decide +kernel
theorem dX7_takesOver_35 : decode cX7_takesOver 35 = .ok (.aload_n 0, 1) := by decide +kernel
theorem dX7_takesOver_36 : decode cX7_takesOver 36 = .ok (.getfield 163, 3) := by decide +kernel
theorem dX7_takesOver_39 : decode cX7_takesOver 39 = .ok (.putfield 252, 3) := by decide +kernel
theorem dX7_takesOver_42 : decode cX7_takesOver 42 = .ok (.iconst 0, 1) := by decide +kernel
theorem dX7_takesOver_43 : decode cX7_takesOver 43 = .ok (.istore_n 1, 1) := by decide +kernel
theorem dX7_takesOver_44 : decode cX7_takesOver 44 = .ok (.iload_n 1, 1) := by decide +kernel
theorem dX7_takesOver_45 : decode cX7_takesOver 45 = .ok (.bipush 25, 2) := by decide +kernel
theorem dX7_takesOver_47 : decode cX7_takesOver 47 = .ok (.if_icmp .ge 21, 3) := by decide +kernel
theorem dX7_takesOver_50 : decode cX7_takesOver 50 = .ok (.aload_n 0, 1) := by decide +kernel
theorem dX7_takesOver_51 : decode cX7_takesOver 51 = .ok (.getfield 15, 3) := by decide +kernel
theorem dX7_takesOver_54 : decode cX7_takesOver 54 = .ok (.iload_n 1, 1) := by decide +kernel
theorem dX7_takesOver_55 : decode cX7_takesOver 55 = .ok (.aload_n 0, 1) := by decide +kernel
theorem dX7_takesOver_56 : decode cX7_takesOver 56 = .ok (.getfield 25, 3) := by decide +kernel
theorem dX7_takesOver_59 : decode cX7_takesOver 59 = .ok (.iload_n 1, 1) := by decide +kernel
theorem dX7_takesOver_60 : decode cX7_takesOver 60 = .ok (.iaload, 1) := by decide +kernel
theorem dX7_takesOver_61 : decode cX7_takesOver 61 = .ok (.iastore, 1) := by decide +kernel
theorem dX7_takesOver_62 : decode cX7_takesOver 62 = .ok (.iinc 1 1, 3) := by decide +kernel
theorem dX7_takesOver_65 : decode cX7_takesOver 65 = .ok (.goto (-21), 3) := by decide +kernel
theorem dX7_takesOver_68 : decode cX7_takesOver 68 = .ok (.iconst 0, 1) := by decide +kernel
theorem dX7_takesOver_69 : decode cX7_takesOver 69 = .ok (.istore_n 1, 1) := by decide +kernel
theorem dX7_takesOver_70 : decode cX7_takesOver 70 = .ok (.iload_n 1, 1) := by decide +kernel
theorem dX7_takesOver_71 : decode cX7_takesOver 71 = .ok (.bipush 30, 2) := by decide +kernel
theorem dX7_takesOver_73 : decode cX7_takesOver 73 = .ok (.if_icmp .ge 21, 3) := by decide +kernel
theorem dX7_takesOver_76 : decode cX7_takesOver 76 = .ok (.aload_n 0, 1) := by decide +kernel
theorem dX7_takesOver_77 : decode cX7_takesOver 77 = .ok (.getfield 19, 3) := by decide +kernel
theorem dX7_takesOver_80 : decode cX7_takesOver 80 = .ok (.iload_n 1, 1) := by decide +kernel
theorem dX7_takesOver_81 : decode cX7_takesOver 81 = .ok (.aload_n 0, 1) := by decide +kernel
theorem dX7_takesOver_82 : decode cX7_takesOver 82 = .ok (.getfield 28, 3) := by decide +kernel
theorem dX7_takesOver_85 : decode cX7_takesOver 85 = .ok (.iload_n 1, 1) := by decide +kernel
theorem dX7_takesOver_86 : decode cX7_takesOver 86 = .ok (.iaload, 1) := by decide +kernel
theorem dX7_takesOver_87 : decode cX7_takesOver 87 = .ok (.iastore, 1) := by decide +kernel
theorem dX7_takesOver_88 : decode cX7_takesOver 88 = .ok (.iinc 1 1, 3) := by decide +kernel
theorem dX7_takesOver_91 : decode cX7_takesOver 91 = .ok (.goto (-21), 3) := by decide +kernel
theorem dX7_takesOver_94 : decode cX7_takesOver 94 = .ok (.iconst 0, 1) := by decide +kernel
theorem dX7_takesOver_95 : decode cX7_takesOver 95 = .ok (.istore_n 1, 1) := by decide +kernel
theorem dX7_takesOver_96 : decode cX7_takesOver 96 = .ok (.iload_n 1, 1) := by decide +kernel
theorem dX7_takesOver_97 : decode cX7_takesOver 97 = .ok (.bipush 40, 2) := by decide +kernel
theorem dX7_takesOver_99 : decode cX7_takesOver 99 = .ok (.if_icmp .ge 21, 3) := by decide +kernel
theorem dX7_takesOver_102 : decode cX7_takesOver 102 = .ok (.aload_n 0, 1) := by decide +kernel
theorem dX7_takesOver_103 : decode cX7_takesOver 103 = .ok (.getfield 22, 3) := by decide +kernel
theorem dX7_takesOver_106 : decode cX7_takesOver 106 = .ok (.iload_n 1, 1) := by decide +kernel
theorem dX7_takesOver_107 : decode cX7_takesOver 107 = .ok (.aload_n 0, 1) := by decide +kernel
theorem dX7_takesOver_108 : decode cX7_takesOver 108 = .ok (.getfield 31, 3) := by decide +kernel
theorem dX7_takesOver_111 : decode cX7_takesOver 111 = .ok (.iload_n 1, 1) := by decide +kernel
theorem dX7_takesOver_112 : decode cX7_takesOver 112 = .ok (.iaload, 1) := by decide +kernel
theorem dX7_takesOver_113 : decode cX7_takesOver 113 = .ok (.iastore, 1) := by decide +kernel
theorem dX7_takesOver_114 : decode cX7_takesOver 114 = .ok (.iinc 1 1, 3) := by decide +kernel
theorem dX7_takesOver_117 : decode cX7_takesOver 117 = .ok (.goto (-21), 3) := by decide +kernel
theorem dX7_takesOver_120 : decode cX7_takesOver 120 = .ok (.iconst 0, 1) := by decide +kernel
theorem dX7_takesOver_121 : decode cX7_takesOver 121 = .ok (.istore_n 1, 1) := by decide +kernel
theorem dX7_takesOver_122 : decode cX7_takesOver 122 = .ok (.iload_n 1, 1) := by decide +kernel
theorem dX7_takesOver_123 : decode cX7_takesOver 123 = .ok (.sipush 179, 3) := by decide +kernel
theorem dX7_takesOver_126 : decode cX7_takesOver 126 = .ok (.if_icmp .ge 16, 3) := by decide +kernel
theorem dX7_takesOver_129 : decode cX7_takesOver 129 = .ok (.aload_n 0, 1) := by decide +kernel
theorem dX7_takesOver_130 : decode cX7_takesOver 130 = .ok (.getfield 44, 3) := by decide +kernel
theorem dX7_takesOver_133 : decode cX7_takesOver 133 = .ok (.iload_n 1, 1) := by decide +kernel
theorem dX7_takesOver_134 : decode cX7_takesOver 134 = .ok (.iconst 0, 1) := by decide +kernel
theorem dX7_takesOver_135 : decode cX7_takesOver 135 = .ok (.iastore, 1) := by decide +kernel
theorem dX7_takesOver_136 : decode cX7_takesOver 136 = .ok (.iinc 1 1, 3) := by decide +kernel
theorem dX7_takesOver_139 : decode cX7_takesOver 139 = .ok (.goto (-17), 3) := by decide +kernel
theorem dX7_takesOver_142 : decode cX7_takesOver 142 = .ok (.aload_n 0, 1) := by decide +kernel
theorem dX7_takesOver_143 : decode cX7_takesOver 143 = .ok (.getfield 44, 3) := by decide +kernel
theorem dX7_takesOver_146 : decode cX7_takesOver 146 = .ok (.bipush 35, 2) := by decide +kernel
theorem dX7_takesOver_148 : decode cX7_takesOver 148 = .ok (.aload_n 0, 1) := by decide +kernel
theorem dX7_takesOver_149 : decode cX7_takesOver 149 = .ok (.getfield 160, 3) := by decide +kernel
theorem dX7_takesOver_152 : decode cX7_takesOver 152 = .ok (.iastore, 1) := by decide +kernel
theorem dX7_takesOver_153 : decode cX7_takesOver 153 = .ok (.iconst 0, 1) := by decide +kernel
theorem dX7_takesOver_154 : decode cX7_takesOver 154 = .ok (.istore_n 1, 1) := by decide +kernel
theorem dX7_takesOver_155 : decode cX7_takesOver 155 = .ok (.iload_n 1, 1) := by decide +kernel
theorem dX7_takesOver_156 : decode cX7_takesOver 156 = .ok (.aload_n 0, 1) := by decide +kernel
theorem dX7_takesOver_157 : decode cX7_takesOver 157 = .ok (.getfield 235, 3) := by decide +kernel
theorem dX7_takesOver_160 : decode cX7_takesOver 160 = .ok (.if_icmp .ge 70, 3) := by decide +kernel
theorem dX7_takesOver_163 : decode cX7_takesOver 163 = .ok (.aload_n 0, 1) := by decide +kernel
theorem dX7_takesOver_164 : decode cX7_takesOver 164 = .ok (.getfield 44, 3) := by decide +kernel
theorem dX7_takesOver_167 : decode cX7_takesOver 167 = .ok (.bipush 30, 2) := by decide +kernel
theorem dX7_takesOver_169 : decode cX7_takesOver 169 = .ok (.iload_n 1, 1) := by decide +kernel
theorem dX7_takesOver_170 : decode cX7_takesOver 170 = .ok (.iadd, 1) := by decide +kernel
theorem dX7_takesOver_171 : decode cX7_takesOver 171 = .ok (.aload_n 0, 1) := by decide +kernel
theorem dX7_takesOver_172 : decode cX7_takesOver 172 = .ok (.getfield 37, 3) := by decide +kernel
theorem dX7_takesOver_175 : decode cX7_takesOver 175 = .ok (.iload_n 1, 1) := by decide +kernel
theorem dX7_takesOver_176 : decode cX7_takesOver 176 = .ok (.iaload, 1) := by decide +kernel
theorem dX7_takesOver_177 : decode cX7_takesOver 177 = .ok (.iastore, 1) := by decide +kernel
theorem dX7_takesOver_178 : decode cX7_takesOver 178 = .ok (.iconst 0, 1) := by decide +kernel
theorem dX7_takesOver_179 : decode cX7_takesOver 179 = .ok (.istore_n 2, 1) := by decide +kernel
theorem dX7_takesOver_180 : decode cX7_takesOver 180 = .ok (.iload_n 2, 1) := by decide +kernel
theorem dX7_takesOver_181 : decode cX7_takesOver 181 = .ok (.aload_n 0, 1) := by decide +kernel
theorem dX7_takesOver_182 : decode cX7_takesOver 182 = .ok (.iload_n 1, 1) := by decide +kernel
theorem dX7_takesOver_183 : decode cX7_takesOver 183 = .ok (.invokevirtual 255, 3) := by decide +kernel
theorem dX7_takesOver_186 : decode cX7_takesOver 186 = .ok (.if_icmp .ge 33, 3) := by decide +kernel
theorem dX7_takesOver_189 : decode cX7_takesOver 189 = .ok (.aload_n 0, 1) := by decide +kernel
theorem dX7_takesOver_190 : decode cX7_takesOver 190 = .ok (.getfield 44, 3) := by decide +kernel
theorem dX7_takesOver_193 : decode cX7_takesOver 193 = .ok (.iconst 0, 1) := by decide +kernel
theorem dX7_takesOver_194 : decode cX7_takesOver 194 = .ok (.bipush 6, 2) := by decide +kernel
theorem dX7_takesOver_196 : decode cX7_takesOver 196 = .ok (.iload_n 1, 1) := by decide +kernel
theorem dX7_takesOver_197 : decode cX7_takesOver 197 = .ok (.imul, 1) := by decide +kernel
theorem dX7_takesOver_198 : decode cX7_takesOver 198 = .ok (.iadd, 1) := by decide +kernel
theorem dX7_takesOver_199 : decode cX7_takesOver 199 = .ok (.iload_n 2, 1) := by decide +kernel
theorem dX7_takesOver_200 : decode cX7_takesOver 200 = .ok (.iadd, 1) := by decide +kernel
theorem dX7_takesOver_201 : decode cX7_takesOver 201 = .ok (.aload_n 0, 1) := by decide +kernel
theorem dX7_takesOver_202 : decode cX7_takesOver 202 = .ok (.getfield 34, 3) := by decide +kernel
theorem dX7_takesOver_205 : decode cX7_takesOver 205 = .ok (.bipush 6, 2) := by decide +kernel
theorem dX7_takesOver_207 : decode cX7_takesOver 207 = .ok (.iload_n 1, 1) := by decide +kernel
theorem dX7_takesOver_208 : decode cX7_takesOver 208 = .ok (.imul, 1) := by decide +kernel
theorem dX7_takesOver_209 : decode cX7_takesOver 209 = .ok (.iload_n 2, 1) := by decide +kernel
theorem dX7_takesOver_210 : decode cX7_takesOver 210 = .ok (.iadd, 1) := by decide +kernel
theorem dX7_takesOver_211 : decode cX7_takesOver 211 = .ok (.iaload, 1) := by decide +kernel
theorem dX7_takesOver_212 : decode cX7_takesOver 212 = .ok (.iastore, 1) := by decide +kernel
theorem dX7_takesOver_213 : decode cX7_takesOver 213 = .ok (.iinc 2 1, 3) := by decide +kernel
theorem dX7_takesOver_216 : decode cX7_takesOver 216 = .ok (.goto (-36), 3) := by decide +kernel
theorem dX7_takesOver_219 : decode cX7_takesOver 219 = .ok (.aload_n 0, 1) := by decide +kernel
theorem dX7_takesOver_220 : decode cX7_takesOver 220 = .ok (.iload_n 1, 1) := by decide +kernel
theorem dX7_takesOver_221 : decode cX7_takesOver 221 = .ok (.invokevirtual 258, 3) := by decide +kernel
theorem dX7_takesOver_224 : decode cX7_takesOver 224 = .ok (.iinc 1 1, 3) := by decide +kernel
theorem dX7_takesOver_227 : decode cX7_takesOver 227 = .ok (.goto (-72), 3) := by decide +kernel
theorem dX7_takesOver_230 : decode cX7_takesOver 230 = .ok (.return_, 1) := by decide +kernel
theorem dX7_fault_0 : decode cX7_fault 0 = .ok (.aload_n 0, 1) := by decide +kernel
theorem dX7_fault_1 : decode cX7_fault 1 = .ok (.iconst 0, 1) := by decide +kernel
theorem dX7_fault_2 : decode cX7_fault 2 = .ok (.putfield 70, 3) := by decide +kernel
theorem dX7_fault_5 : decode cX7_fault 5 = .ok (.aload_n 0, 1) := by decide +kernel
theorem dX7_fault_6 : decode cX7_fault 6 = .ok (.getfield 84, 3) := by decide +kernel
theorem dX7_fault_9 : decode cX7_fault 9 = .ok (.ireturn, 1) := by decide +kernel
theorem dX7_where_0 : decode cX7_where 0 = .ok (.aload_n 0, 1) := by decide +kernel
theorem dX7_where_1 : decode cX7_where 1 = .ok (.iconst 0, 1) := by decide +kernel
theorem dX7_where_2 : decode cX7_where 2 = .ok (.putfield 70, 3) := by decide +kernel
theorem dX7_where_5 : decode cX7_where 5 = .ok (.aload_n 0, 1) := by decide +kernel
theorem dX7_where_6 : decode cX7_where 6 = .ok (.getfield 11, 3) := by decide +kernel
theorem dX7_where_9 : decode cX7_where 9 = .ok (.ireturn, 1) := by decide +kernel
theorem dX7_about_0 : decode cX7_about 0 = .ok (.aload_n 0, 1) := by decide +kernel
theorem dX7_about_1 : decode cX7_about 1 = .ok (.iconst 0, 1) := by decide +kernel
theorem dX7_about_2 : decode cX7_about 2 = .ok (.putfield 70, 3) := by decide +kernel
theorem dX7_about_5 : decode cX7_about 5 = .ok (.aload_n 0, 1) := by decide +kernel
theorem dX7_about_6 : decode cX7_about 6 = .ok (.getfield 241, 3) := by decide +kernel
theorem dX7_about_9 : decode cX7_about 9 = .ok (.ifCond .ne 9, 3) := by decide +kernel
theorem dX7_about_12 : decode cX7_about 12 = .ok (.aload_n 0, 1) := by decide +kernel
theorem dX7_about_13 : decode cX7_about 13 = .ok (.iconst 1, 1) := by decide +kernel
theorem dX7_about_14 : decode cX7_about 14 = .ok (.invokevirtual 76, 3) := by decide +kernel
theorem dX7_about_17 : decode cX7_about 17 = .ok (.ireturn, 1) := by decide +kernel
theorem dX7_about_18 : decode cX7_about 18 = .ok (.iload_n 1, 1) := by decide +kernel
theorem dX7_about_19 : decode cX7_about 19 = .ok (.tableswitch 81 0 4 #[33, 45, 54, 63, 72], 33) := by decide +kernel
theorem dX7_about_52 : decode cX7_about 52 = .ok (.aload_n 0, 1) := by decide +kernel
theorem dX7_about_53 : decode cX7_about 53 = .ok (.aload_n 0, 1) := by decide +kernel
theorem dX7_about_54 : decode cX7_about 54 = .ok (.getfield 44, 3) := by decide +kernel
theorem dX7_about_57 : decode cX7_about 57 = .ok (.bipush 35, 2) := by decide +kernel
theorem dX7_about_59 : decode cX7_about 59 = .ok (.iaload, 1) := by decide +kernel
theorem dX7_about_60 : decode cX7_about 60 = .ok (.invokevirtual 238, 3) := by decide +kernel
theorem dX7_about_63 : decode cX7_about 63 = .ok (.ireturn, 1) := by decide +kernel
theorem dX7_about_64 : decode cX7_about 64 = .ok (.aload_n 0, 1) := by decide +kernel
theorem dX7_about_65 : decode cX7_about 65 = .ok (.aload_n 0, 1) := by decide +kernel
theorem dX7_about_66 : decode cX7_about 66 = .ok (.getfield 248, 3) := by decide +kernel
theorem dX7_about_69 : decode cX7_about 69 = .ok (.invokevirtual 238, 3) := by decide +kernel
theorem dX7_about_72 : decode cX7_about 72 = .ok (.ireturn, 1) := by decide +kernel
theorem dX7_about_73 : decode cX7_about 73 = .ok (.aload_n 0, 1) := by decide +kernel
theorem dX7_about_74 : decode cX7_about 74 = .ok (.aload_n 0, 1) := by decide +kernel
theorem dX7_about_75 : decode cX7_about 75 = .ok (.getfield 250, 3) := by decide +kernel
theorem dX7_about_78 : decode cX7_about 78 = .ok (.invokevirtual 238, 3) := by decide +kernel
theorem dX7_about_81 : decode cX7_about 81 = .ok (.ireturn, 1) := by decide +kernel
theorem dX7_about_82 : decode cX7_about 82 = .ok (.aload_n 0, 1) := by decide +kernel
theorem dX7_about_83 : decode cX7_about 83 = .ok (.aload_n 0, 1) := by decide +kernel
theorem dX7_about_84 : decode cX7_about 84 = .ok (.getfield 235, 3) := by decide +kernel
theorem dX7_about_87 : decode cX7_about 87 = .ok (.invokevirtual 238, 3) := by decide +kernel
theorem dX7_about_90 : decode cX7_about 90 = .ok (.ireturn, 1) := by decide +kernel
theorem dX7_about_91 : decode cX7_about 91 = .ok (.aload_n 0, 1) := by decide +kernel
theorem dX7_about_92 : decode cX7_about 92 = .ok (.aload_n 0, 1) := by decide +kernel
theorem dX7_about_93 : decode cX7_about 93 = .ok (.getfield 252, 3) := by decide +kernel
theorem dX7_about_96 : decode cX7_about 96 = .ok (.invokevirtual 238, 3) := by decide +kernel
theorem dX7_about_99 : decode cX7_about 99 = .ok (.ireturn, 1) := by decide +kernel
theorem dX7_about_100 : decode cX7_about 100 = .ok (.aload_n 0, 1) := by decide +kernel
theorem dX7_about_101 : decode cX7_about 101 = .ok (.iconst 1, 1) := by decide +kernel
theorem dX7_about_102 : decode cX7_about 102 = .ok (.invokevirtual 76, 3) := by decide +kernel
theorem dX7_about_105 : decode cX7_about 105 = .ok (.ireturn, 1) := by decide +kernel
theorem dX7_isVenue_0 : decode cX7_isVenue 0 = .ok (.aload_n 0, 1) := by decide +kernel
theorem dX7_isVenue_1 : decode cX7_isVenue 1 = .ok (.getfield 241, 3) := by decide +kernel
theorem dX7_isVenue_4 : decode cX7_isVenue 4 = .ok (.ifCond .eq 21, 3) := by decide +kernel
theorem dX7_isVenue_7 : decode cX7_isVenue 7 = .ok (.iload_n 1, 1) := by decide +kernel
theorem dX7_isVenue_8 : decode cX7_isVenue 8 = .ok (.iconst 0, 1) := by decide +kernel
theorem dX7_isVenue_9 : decode cX7_isVenue 9 = .ok (.aload_n 0, 1) := by decide +kernel
theorem dX7_isVenue_10 : decode cX7_isVenue 10 = .ok (.getfield 235, 3) := by decide +kernel
theorem dX7_isVenue_13 : decode cX7_isVenue 13 = .ok (.iconst 1, 1) := by decide +kernel
theorem dX7_isVenue_14 : decode cX7_isVenue 14 = .ok (.isub, 1) := by decide +kernel
theorem dX7_isVenue_15 : decode cX7_isVenue 15 = .ok (.invokestatic 99, 3) := by decide +kernel
theorem dX7_isVenue_18 : decode cX7_isVenue 18 = .ok (.ifCond .eq 7, 3) := by decide +kernel
theorem dX7_isVenue_21 : decode cX7_isVenue 21 = .ok (.iconst 1, 1) := by decide +kernel
theorem dX7_isVenue_22 : decode cX7_isVenue 22 = .ok (.goto 4, 3) := by decide +kernel
theorem dX7_isVenue_25 : decode cX7_isVenue 25 = .ok (.iconst 0, 1) := by decide +kernel
theorem dX7_isVenue_26 : decode cX7_isVenue 26 = .ok (.ireturn, 1) := by decide +kernel
theorem dX7_told_0 : decode cX7_told 0 = .ok (.aload_n 0, 1) := by decide +kernel
theorem dX7_told_1 : decode cX7_told 1 = .ok (.getfield 15, 3) := by decide +kernel
theorem dX7_told_4 : decode cX7_told 4 = .ok (.iconst 5, 1) := by decide +kernel
theorem dX7_told_5 : decode cX7_told 5 = .ok (.iload_n 1, 1) := by decide +kernel
theorem dX7_told_6 : decode cX7_told 6 = .ok (.imul, 1) := by decide +kernel
theorem dX7_told_7 : decode cX7_told 7 = .ok (.iload_n 2, 1) := by decide +kernel
theorem dX7_told_8 : decode cX7_told 8 = .ok (.iadd, 1) := by decide +kernel
theorem dX7_told_9 : decode cX7_told 9 = .ok (.iaload, 1) := by decide +kernel
theorem dX7_told_10 : decode cX7_told 10 = .ok (.ireturn, 1) := by decide +kernel
theorem dX7_lot_0 : decode cX7_lot 0 = .ok (.aload_n 0, 1) := by decide +kernel
theorem dX7_lot_1 : decode cX7_lot 1 = .ok (.iload_n 1, 1) := by decide +kernel
theorem dX7_lot_2 : decode cX7_lot 2 = .ok (.iconst 1, 1) := by decide +kernel
theorem dX7_lot_3 : decode cX7_lot 3 = .ok (.invokevirtual 261, 3) := by decide +kernel
theorem dX7_lot_6 : decode cX7_lot 6 = .ok (.ireturn, 1) := by decide +kernel
theorem dX7_levels_0 : decode cX7_levels 0 = .ok (.aload_n 0, 1) := by decide +kernel
theorem dX7_levels_1 : decode cX7_levels 1 = .ok (.iload_n 1, 1) := by decide +kernel
theorem dX7_levels_2 : decode cX7_levels 2 = .ok (.iconst 4, 1) := by decide +kernel
theorem dX7_levels_3 : decode cX7_levels 3 = .ok (.invokevirtual 261, 3) := by decide +kernel
theorem dX7_levels_6 : decode cX7_levels 6 = .ok (.ireturn, 1) := by decide +kernel
theorem dX7_priceOf_0 : decode cX7_priceOf 0 = .ok (.aload_n 0, 1) := by decide +kernel
theorem dX7_priceOf_1 : decode cX7_priceOf 1 = .ok (.getfield 19, 3) := by decide +kernel
theorem dX7_priceOf_4 : decode cX7_priceOf 4 = .ok (.bipush 6, 2) := by decide +kernel
theorem dX7_priceOf_6 : decode cX7_priceOf 6 = .ok (.iload_n 1, 1) := by decide +kernel
theorem dX7_priceOf_7 : decode cX7_priceOf 7 = .ok (.imul, 1) := by decide +kernel
theorem dX7_priceOf_8 : decode cX7_priceOf 8 = .ok (.iload_n 2, 1) := by decide +kernel
theorem dX7_priceOf_9 : decode cX7_priceOf 9 = .ok (.iadd, 1) := by decide +kernel
theorem dX7_priceOf_10 : decode cX7_priceOf 10 = .ok (.iaload, 1) := by decide +kernel
theorem dX7_priceOf_11 : decode cX7_priceOf 11 = .ok (.ireturn, 1) := by decide +kernel
theorem dX7_sizeOf_0 : decode cX7_sizeOf 0 = .ok (.aload_n 0, 1) := by decide +kernel
theorem dX7_sizeOf_1 : decode cX7_sizeOf 1 = .ok (.getfield 44, 3) := by decide +kernel
theorem dX7_sizeOf_4 : decode cX7_sizeOf 4 = .ok (.iconst 0, 1) := by decide +kernel
theorem dX7_sizeOf_5 : decode cX7_sizeOf 5 = .ok (.bipush 6, 2) := by decide +kernel
theorem dX7_sizeOf_7 : decode cX7_sizeOf 7 = .ok (.iload_n 1, 1) := by decide +kernel
theorem dX7_sizeOf_8 : decode cX7_sizeOf 8 = .ok (.imul, 1) := by decide +kernel
theorem dX7_sizeOf_9 : decode cX7_sizeOf 9 = .ok (.iadd, 1) := by decide +kernel
theorem dX7_sizeOf_10 : decode cX7_sizeOf 10 = .ok (.iload_n 2, 1) := by decide +kernel
theorem dX7_sizeOf_11 : decode cX7_sizeOf 11 = .ok (.iadd, 1) := by decide +kernel
theorem dX7_sizeOf_12 : decode cX7_sizeOf 12 = .ok (.iaload, 1) := by decide +kernel
theorem dX7_sizeOf_13 : decode cX7_sizeOf 13 = .ok (.ireturn, 1) := by decide +kernel
theorem dX7_unitsTo_0 : decode cX7_unitsTo 0 = .ok (.iconst 0, 1) := by decide +kernel
theorem dX7_unitsTo_1 : decode cX7_unitsTo 1 = .ok (.istore_n 3, 1) := by decide +kernel
theorem dX7_unitsTo_2 : decode cX7_unitsTo 2 = .ok (.iconst 0, 1) := by decide +kernel
theorem dX7_unitsTo_3 : decode cX7_unitsTo 3 = .ok (.istore 4, 2) := by decide +kernel
theorem dX7_unitsTo_5 : decode cX7_unitsTo 5 = .ok (.iload 4, 2) := by decide +kernel
theorem dX7_unitsTo_7 : decode cX7_unitsTo 7 = .ok (.aload_n 0, 1) := by decide +kernel
theorem dX7_unitsTo_8 : decode cX7_unitsTo 8 = .ok (.iload_n 1, 1) := by decide +kernel
theorem dX7_unitsTo_9 : decode cX7_unitsTo 9 = .ok (.invokevirtual 255, 3) := by decide +kernel
theorem dX7_unitsTo_12 : decode cX7_unitsTo 12 = .ok (.if_icmp .ge 34, 3) := by decide +kernel
theorem dX7_unitsTo_15 : decode cX7_unitsTo 15 = .ok (.iload_n 3, 1) := by decide +kernel
theorem dX7_unitsTo_16 : decode cX7_unitsTo 16 = .ok (.aload_n 0, 1) := by decide +kernel
theorem dX7_unitsTo_17 : decode cX7_unitsTo 17 = .ok (.iload_n 1, 1) := by decide +kernel
theorem dX7_unitsTo_18 : decode cX7_unitsTo 18 = .ok (.iload 4, 2) := by decide +kernel
theorem dX7_unitsTo_20 : decode cX7_unitsTo 20 = .ok (.invokevirtual 264, 3) := by decide +kernel
theorem dX7_unitsTo_23 : decode cX7_unitsTo 23 = .ok (.iload_n 2, 1) := by decide +kernel
theorem dX7_unitsTo_24 : decode cX7_unitsTo 24 = .ok (.if_icmp .gt 13, 3) := by decide +kernel
theorem dX7_unitsTo_27 : decode cX7_unitsTo 27 = .ok (.aload_n 0, 1) := by decide +kernel
theorem dX7_unitsTo_28 : decode cX7_unitsTo 28 = .ok (.iload_n 1, 1) := by decide +kernel
theorem dX7_unitsTo_29 : decode cX7_unitsTo 29 = .ok (.iload 4, 2) := by decide +kernel
theorem dX7_unitsTo_31 : decode cX7_unitsTo 31 = .ok (.invokevirtual 267, 3) := by decide +kernel
theorem dX7_unitsTo_34 : decode cX7_unitsTo 34 = .ok (.goto 4, 3) := by decide +kernel
theorem dX7_unitsTo_37 : decode cX7_unitsTo 37 = .ok (.iconst 0, 1) := by decide +kernel
theorem dX7_unitsTo_38 : decode cX7_unitsTo 38 = .ok (.iadd, 1) := by decide +kernel
theorem dX7_unitsTo_39 : decode cX7_unitsTo 39 = .ok (.istore_n 3, 1) := by decide +kernel
theorem dX7_unitsTo_40 : decode cX7_unitsTo 40 = .ok (.iinc 4 1, 3) := by decide +kernel
theorem dX7_unitsTo_43 : decode cX7_unitsTo 43 = .ok (.goto (-38), 3) := by decide +kernel
theorem dX7_unitsTo_46 : decode cX7_unitsTo 46 = .ok (.iload_n 3, 1) := by decide +kernel
theorem dX7_unitsTo_47 : decode cX7_unitsTo 47 = .ok (.ireturn, 1) := by decide +kernel
theorem dX7_depth_0 : decode cX7_depth 0 = .ok (.aload_n 0, 1) := by decide +kernel
theorem dX7_depth_1 : decode cX7_depth 1 = .ok (.iload_n 1, 1) := by decide +kernel
theorem dX7_depth_2 : decode cX7_depth 2 = .ok (.aload_n 0, 1) := by decide +kernel
theorem dX7_depth_3 : decode cX7_depth 3 = .ok (.getfield 248, 3) := by decide +kernel
theorem dX7_depth_6 : decode cX7_depth 6 = .ok (.invokevirtual 270, 3) := by decide +kernel
theorem dX7_depth_9 : decode cX7_depth 9 = .ok (.ireturn, 1) := by decide +kernel
theorem dX7_chargeOf_0 : decode cX7_chargeOf 0 = .ok (.iload_n 2, 1) := by decide +kernel
theorem dX7_chargeOf_1 : decode cX7_chargeOf 1 = .ok (.ifCond .ne 5, 3) := by decide +kernel
theorem dX7_chargeOf_4 : decode cX7_chargeOf 4 = .ok (.iconst 0, 1) := by decide +kernel
theorem dX7_chargeOf_5 : decode cX7_chargeOf 5 = .ok (.ireturn, 1) := by decide +kernel
theorem dX7_chargeOf_6 : decode cX7_chargeOf 6 = .ok (.aload_n 0, 1) := by decide +kernel
theorem dX7_chargeOf_7 : decode cX7_chargeOf 7 = .ok (.iload_n 1, 1) := by decide +kernel
theorem dX7_chargeOf_8 : decode cX7_chargeOf 8 = .ok (.iconst 0, 1) := by decide +kernel
theorem dX7_chargeOf_9 : decode cX7_chargeOf 9 = .ok (.invokevirtual 261, 3) := by decide +kernel
theorem dX7_chargeOf_12 : decode cX7_chargeOf 12 = .ok (.iconst 2, 1) := by decide +kernel
theorem dX7_chargeOf_13 : decode cX7_chargeOf 13 = .ok (.if_icmp .ne 10, 3) := by decide +kernel
theorem dX7_chargeOf_16 : decode cX7_chargeOf 16 = .ok (.aload_n 0, 1) := by decide +kernel
theorem dX7_chargeOf_17 : decode cX7_chargeOf 17 = .ok (.iload_n 1, 1) := by decide +kernel
theorem dX7_chargeOf_18 : decode cX7_chargeOf 18 = .ok (.iconst 2, 1) := by decide +kernel
theorem dX7_chargeOf_19 : decode cX7_chargeOf 19 = .ok (.invokevirtual 261, 3) := by decide +kernel
theorem dX7_chargeOf_22 : decode cX7_chargeOf 22 = .ok (.ireturn, 1) := by decide +kernel
theorem dX7_chargeOf_23 : decode cX7_chargeOf 23 = .ok (.aload_n 0, 1) := by decide +kernel
theorem dX7_chargeOf_24 : decode cX7_chargeOf 24 = .ok (.getfield 44, 3) := by decide +kernel
theorem dX7_chargeOf_27 : decode cX7_chargeOf 27 = .ok (.bipush 30, 2) := by decide +kernel
theorem dX7_chargeOf_29 : decode cX7_chargeOf 29 = .ok (.iload_n 1, 1) := by decide +kernel
theorem dX7_chargeOf_30 : decode cX7_chargeOf 30 = .ok (.iadd, 1) := by decide +kernel
theorem dX7_chargeOf_31 : decode cX7_chargeOf 31 = .ok (.iaload, 1) := by decide +kernel
theorem dX7_chargeOf_32 : decode cX7_chargeOf 32 = .ok (.istore_n 3, 1) := by decide +kernel
theorem dX7_chargeOf_33 : decode cX7_chargeOf 33 = .ok (.iload_n 3, 1) := by decide +kernel
theorem dX7_chargeOf_34 : decode cX7_chargeOf 34 = .ok (.iload_n 2, 1) := by decide +kernel
theorem dX7_chargeOf_35 : decode cX7_chargeOf 35 = .ok (.imul, 1) := by decide +kernel
theorem dX7_chargeOf_36 : decode cX7_chargeOf 36 = .ok (.istore 4, 2) := by decide +kernel
theorem dX7_chargeOf_38 : decode cX7_chargeOf 38 = .ok (.aload_n 0, 1) := by decide +kernel
theorem dX7_chargeOf_39 : decode cX7_chargeOf 39 = .ok (.iload_n 1, 1) := by decide +kernel
theorem dX7_chargeOf_40 : decode cX7_chargeOf 40 = .ok (.iconst 0, 1) := by decide +kernel
theorem dX7_chargeOf_41 : decode cX7_chargeOf 41 = .ok (.invokevirtual 261, 3) := by decide +kernel
theorem dX7_chargeOf_44 : decode cX7_chargeOf 44 = .ok (.iconst 1, 1) := by decide +kernel
theorem dX7_chargeOf_45 : decode cX7_chargeOf 45 = .ok (.if_icmp .ne 26, 3) := by decide +kernel
theorem dX7_chargeOf_48 : decode cX7_chargeOf 48 = .ok (.iload_n 2, 1) := by decide +kernel
theorem dX7_chargeOf_49 : decode cX7_chargeOf 49 = .ok (.bipush 20, 2) := by decide +kernel
theorem dX7_chargeOf_51 : decode cX7_chargeOf 51 = .ok (.if_icmp .le 20, 3) := by decide +kernel
theorem dX7_chargeOf_54 : decode cX7_chargeOf 54 = .ok (.iload_n 3, 1) := by decide +kernel
theorem dX7_chargeOf_55 : decode cX7_chargeOf 55 = .ok (.bipush 20, 2) := by decide +kernel
theorem dX7_chargeOf_57 : decode cX7_chargeOf 57 = .ok (.imul, 1) := by decide +kernel
theorem dX7_chargeOf_58 : decode cX7_chargeOf 58 = .ok (.iload_n 3, 1) := by decide +kernel
theorem dX7_chargeOf_59 : decode cX7_chargeOf 59 = .ok (.iconst 2, 1) := by decide +kernel
theorem dX7_chargeOf_60 : decode cX7_chargeOf 60 = .ok (.invokestatic 273, 3) := by decide +kernel
theorem dX7_chargeOf_63 : decode cX7_chargeOf 63 = .ok (.iload_n 2, 1) := by decide +kernel
theorem dX7_chargeOf_64 : decode cX7_chargeOf 64 = .ok (.bipush 20, 2) := by decide +kernel
theorem dX7_chargeOf_66 : decode cX7_chargeOf 66 = .ok (.isub, 1) := by decide +kernel
theorem dX7_chargeOf_67 : decode cX7_chargeOf 67 = .ok (.imul, 1) := by decide +kernel
theorem dX7_chargeOf_68 : decode cX7_chargeOf 68 = .ok (.iadd, 1) := by decide +kernel
theorem dX7_chargeOf_69 : decode cX7_chargeOf 69 = .ok (.istore 4, 2) := by decide +kernel
theorem dX7_chargeOf_71 : decode cX7_chargeOf 71 = .ok (.iload_n 3, 1) := by decide +kernel
theorem dX7_chargeOf_72 : decode cX7_chargeOf 72 = .ok (.ifCond .lt 23, 3) := by decide +kernel
theorem dX7_chargeOf_75 : decode cX7_chargeOf 75 = .ok (.iload 4, 2) := by decide +kernel
theorem dX7_chargeOf_77 : decode cX7_chargeOf 77 = .ok (.aload_n 0, 1) := by decide +kernel
theorem dX7_chargeOf_78 : decode cX7_chargeOf 78 = .ok (.iload_n 1, 1) := by decide +kernel
theorem dX7_chargeOf_79 : decode cX7_chargeOf 79 = .ok (.iconst 2, 1) := by decide +kernel
theorem dX7_chargeOf_80 : decode cX7_chargeOf 80 = .ok (.invokevirtual 261, 3) := by decide +kernel
theorem dX7_chargeOf_83 : decode cX7_chargeOf 83 = .ok (.if_icmp .ge 12, 3) := by decide +kernel
theorem dX7_chargeOf_86 : decode cX7_chargeOf 86 = .ok (.aload_n 0, 1) := by decide +kernel
theorem dX7_chargeOf_87 : decode cX7_chargeOf 87 = .ok (.iload_n 1, 1) := by decide +kernel
theorem dX7_chargeOf_88 : decode cX7_chargeOf 88 = .ok (.iconst 2, 1) := by decide +kernel
theorem dX7_chargeOf_89 : decode cX7_chargeOf 89 = .ok (.invokevirtual 261, 3) := by decide +kernel
theorem dX7_chargeOf_92 : decode cX7_chargeOf 92 = .ok (.goto 5, 3) := by decide +kernel
theorem dX7_chargeOf_95 : decode cX7_chargeOf 95 = .ok (.iload 4, 2) := by decide +kernel
theorem dX7_chargeOf_97 : decode cX7_chargeOf 97 = .ok (.ireturn, 1) := by decide +kernel
theorem dX7_pricesOf_0 : decode cX7_pricesOf 0 = .ok (.iload_n 2, 1) := by decide +kernel
theorem dX7_pricesOf_1 : decode cX7_pricesOf 1 = .ok (.istore_n 3, 1) := by decide +kernel
theorem dX7_pricesOf_2 : decode cX7_pricesOf 2 = .ok (.iconst 0, 1) := by decide +kernel
theorem dX7_pricesOf_3 : decode cX7_pricesOf 3 = .ok (.istore 4, 2) := by decide +kernel
theorem dX7_pricesOf_5 : decode cX7_pricesOf 5 = .ok (.iconst 0, 1) := by decide +kernel
theorem dX7_pricesOf_6 : decode cX7_pricesOf 6 = .ok (.istore 5, 2) := by decide +kernel
theorem dX7_pricesOf_8 : decode cX7_pricesOf 8 = .ok (.iload 5, 2) := by decide +kernel
theorem dX7_pricesOf_10 : decode cX7_pricesOf 10 = .ok (.aload_n 0, 1) := by decide +kernel
theorem dX7_pricesOf_11 : decode cX7_pricesOf 11 = .ok (.iload_n 1, 1) := by decide +kernel
theorem dX7_pricesOf_12 : decode cX7_pricesOf 12 = .ok (.invokevirtual 255, 3) := by decide +kernel
theorem dX7_pricesOf_15 : decode cX7_pricesOf 15 = .ok (.if_icmp .ge 57, 3) := by decide +kernel
theorem dX7_pricesOf_18 : decode cX7_pricesOf 18 = .ok (.iload_n 3, 1) := by decide +kernel
theorem dX7_pricesOf_19 : decode cX7_pricesOf 19 = .ok (.ifCond .le 53, 3) := by decide +kernel
theorem dX7_pricesOf_22 : decode cX7_pricesOf 22 = .ok (.iload_n 3, 1) := by decide +kernel
theorem dX7_pricesOf_23 : decode cX7_pricesOf 23 = .ok (.aload_n 0, 1) := by decide +kernel
theorem dX7_pricesOf_24 : decode cX7_pricesOf 24 = .ok (.iload_n 1, 1) := by decide +kernel
theorem dX7_pricesOf_25 : decode cX7_pricesOf 25 = .ok (.iload 5, 2) := by decide +kernel
theorem dX7_pricesOf_27 : decode cX7_pricesOf 27 = .ok (.invokevirtual 267, 3) := by decide +kernel
theorem dX7_pricesOf_30 : decode cX7_pricesOf 30 = .ok (.if_icmp .ge 7, 3) := by decide +kernel
theorem dX7_pricesOf_33 : decode cX7_pricesOf 33 = .ok (.iload_n 3, 1) := by decide +kernel
theorem dX7_pricesOf_34 : decode cX7_pricesOf 34 = .ok (.goto 10, 3) := by decide +kernel
theorem dX7_pricesOf_37 : decode cX7_pricesOf 37 = .ok (.aload_n 0, 1) := by decide +kernel
theorem dX7_pricesOf_38 : decode cX7_pricesOf 38 = .ok (.iload_n 1, 1) := by decide +kernel
theorem dX7_pricesOf_39 : decode cX7_pricesOf 39 = .ok (.iload 5, 2) := by decide +kernel
theorem dX7_pricesOf_41 : decode cX7_pricesOf 41 = .ok (.invokevirtual 267, 3) := by decide +kernel
theorem dX7_pricesOf_44 : decode cX7_pricesOf 44 = .ok (.istore 6, 2) := by decide +kernel
theorem dX7_pricesOf_46 : decode cX7_pricesOf 46 = .ok (.iload 4, 2) := by decide +kernel
theorem dX7_pricesOf_48 : decode cX7_pricesOf 48 = .ok (.iload 6, 2) := by decide +kernel
theorem dX7_pricesOf_50 : decode cX7_pricesOf 50 = .ok (.aload_n 0, 1) := by decide +kernel
theorem dX7_pricesOf_51 : decode cX7_pricesOf 51 = .ok (.iload_n 1, 1) := by decide +kernel
theorem dX7_pricesOf_52 : decode cX7_pricesOf 52 = .ok (.iload 5, 2) := by decide +kernel
theorem dX7_pricesOf_54 : decode cX7_pricesOf 54 = .ok (.invokevirtual 264, 3) := by decide +kernel
theorem dX7_pricesOf_57 : decode cX7_pricesOf 57 = .ok (.imul, 1) := by decide +kernel
theorem dX7_pricesOf_58 : decode cX7_pricesOf 58 = .ok (.iadd, 1) := by decide +kernel
theorem dX7_pricesOf_59 : decode cX7_pricesOf 59 = .ok (.istore 4, 2) := by decide +kernel
theorem dX7_pricesOf_61 : decode cX7_pricesOf 61 = .ok (.iload_n 3, 1) := by decide +kernel
theorem dX7_pricesOf_62 : decode cX7_pricesOf 62 = .ok (.iload 6, 2) := by decide +kernel
theorem dX7_pricesOf_64 : decode cX7_pricesOf 64 = .ok (.isub, 1) := by decide +kernel
theorem dX7_pricesOf_65 : decode cX7_pricesOf 65 = .ok (.istore_n 3, 1) := by decide +kernel
theorem dX7_pricesOf_66 : decode cX7_pricesOf 66 = .ok (.iinc 5 1, 3) := by decide +kernel
theorem dX7_pricesOf_69 : decode cX7_pricesOf 69 = .ok (.goto (-61), 3) := by decide +kernel
theorem dX7_pricesOf_72 : decode cX7_pricesOf 72 = .ok (.iload 4, 2) := by decide +kernel
theorem dX7_pricesOf_74 : decode cX7_pricesOf 74 = .ok (.ireturn, 1) := by decide +kernel
theorem dX7_costOf_0 : decode cX7_costOf 0 = .ok (.aload_n 0, 1) := by decide +kernel
theorem dX7_costOf_1 : decode cX7_costOf 1 = .ok (.iload_n 1, 1) := by decide +kernel
theorem dX7_costOf_2 : decode cX7_costOf 2 = .ok (.iload_n 2, 1) := by decide +kernel
theorem dX7_costOf_3 : decode cX7_costOf 3 = .ok (.invokevirtual 276, 3) := by decide +kernel
theorem dX7_costOf_6 : decode cX7_costOf 6 = .ok (.aload_n 0, 1) := by decide +kernel
theorem dX7_costOf_7 : decode cX7_costOf 7 = .ok (.iload_n 1, 1) := by decide +kernel
theorem dX7_costOf_8 : decode cX7_costOf 8 = .ok (.iload_n 2, 1) := by decide +kernel
theorem dX7_costOf_9 : decode cX7_costOf 9 = .ok (.invokevirtual 279, 3) := by decide +kernel
theorem dX7_costOf_12 : decode cX7_costOf 12 = .ok (.iadd, 1) := by decide +kernel
theorem dX7_costOf_13 : decode cX7_costOf 13 = .ok (.ireturn, 1) := by decide +kernel
theorem dX7_capOf_0 : decode cX7_capOf 0 = .ok (.iload_n 2, 1) := by decide +kernel
theorem dX7_capOf_1 : decode cX7_capOf 1 = .ok (.istore_n 3, 1) := by decide +kernel
theorem dX7_capOf_2 : decode cX7_capOf 2 = .ok (.iconst 0, 1) := by decide +kernel
theorem dX7_capOf_3 : decode cX7_capOf 3 = .ok (.istore 4, 2) := by decide +kernel
theorem dX7_capOf_5 : decode cX7_capOf 5 = .ok (.iconst 0, 1) := by decide +kernel
theorem dX7_capOf_6 : decode cX7_capOf 6 = .ok (.istore 5, 2) := by decide +kernel
theorem dX7_capOf_8 : decode cX7_capOf 8 = .ok (.iload 5, 2) := by decide +kernel
theorem dX7_capOf_10 : decode cX7_capOf 10 = .ok (.aload_n 0, 1) := by decide +kernel
theorem dX7_capOf_11 : decode cX7_capOf 11 = .ok (.iload_n 1, 1) := by decide +kernel
theorem dX7_capOf_12 : decode cX7_capOf 12 = .ok (.invokevirtual 255, 3) := by decide +kernel
theorem dX7_capOf_15 : decode cX7_capOf 15 = .ok (.if_icmp .ge 45, 3) := by decide +kernel
theorem dX7_capOf_18 : decode cX7_capOf 18 = .ok (.iload_n 3, 1) := by decide +kernel
theorem dX7_capOf_19 : decode cX7_capOf 19 = .ok (.ifCond .le 41, 3) := by decide +kernel
theorem dX7_capOf_22 : decode cX7_capOf 22 = .ok (.aload_n 0, 1) := by decide +kernel
theorem dX7_capOf_23 : decode cX7_capOf 23 = .ok (.iload_n 1, 1) := by decide +kernel
theorem dX7_capOf_24 : decode cX7_capOf 24 = .ok (.iload 5, 2) := by decide +kernel
theorem dX7_capOf_26 : decode cX7_capOf 26 = .ok (.invokevirtual 267, 3) := by decide +kernel
theorem dX7_capOf_29 : decode cX7_capOf 29 = .ok (.ifCond .ne 6, 3) := by decide +kernel
theorem dX7_capOf_32 : decode cX7_capOf 32 = .ok (.goto 22, 3) := by decide +kernel
theorem dX7_capOf_35 : decode cX7_capOf 35 = .ok (.aload_n 0, 1) := by decide +kernel
theorem dX7_capOf_36 : decode cX7_capOf 36 = .ok (.iload_n 1, 1) := by decide +kernel
theorem dX7_capOf_37 : decode cX7_capOf 37 = .ok (.iload 5, 2) := by decide +kernel
theorem dX7_capOf_39 : decode cX7_capOf 39 = .ok (.invokevirtual 264, 3) := by decide +kernel
theorem dX7_capOf_42 : decode cX7_capOf 42 = .ok (.istore 4, 2) := by decide +kernel
theorem dX7_capOf_44 : decode cX7_capOf 44 = .ok (.iload_n 3, 1) := by decide +kernel
theorem dX7_capOf_45 : decode cX7_capOf 45 = .ok (.aload_n 0, 1) := by decide +kernel
theorem dX7_capOf_46 : decode cX7_capOf 46 = .ok (.iload_n 1, 1) := by decide +kernel
theorem dX7_capOf_47 : decode cX7_capOf 47 = .ok (.iload 5, 2) := by decide +kernel
theorem dX7_capOf_49 : decode cX7_capOf 49 = .ok (.invokevirtual 267, 3) := by decide +kernel
theorem dX7_capOf_52 : decode cX7_capOf 52 = .ok (.isub, 1) := by decide +kernel
theorem dX7_capOf_53 : decode cX7_capOf 53 = .ok (.istore_n 3, 1) := by decide +kernel
theorem dX7_capOf_54 : decode cX7_capOf 54 = .ok (.iinc 5 1, 3) := by decide +kernel
theorem dX7_capOf_57 : decode cX7_capOf 57 = .ok (.goto (-49), 3) := by decide +kernel
theorem dX7_capOf_60 : decode cX7_capOf 60 = .ok (.iload 4, 2) := by decide +kernel
theorem dX7_capOf_62 : decode cX7_capOf 62 = .ok (.ireturn, 1) := by decide +kernel
theorem dX7_venue_0 : decode cX7_venue 0 = .ok (.aload_n 0, 1) := by decide +kernel
theorem dX7_venue_1 : decode cX7_venue 1 = .ok (.iconst 0, 1) := by decide +kernel
theorem dX7_venue_2 : decode cX7_venue 2 = .ok (.putfield 70, 3) := by decide +kernel
theorem dX7_venue_5 : decode cX7_venue 5 = .ok (.aload_n 0, 1) := by decide +kernel
theorem dX7_venue_6 : decode cX7_venue 6 = .ok (.iload_n 1, 1) := by decide +kernel
theorem dX7_venue_7 : decode cX7_venue 7 = .ok (.invokevirtual 282, 3) := by decide +kernel
theorem dX7_venue_10 : decode cX7_venue 10 = .ok (.ifCond .ne 9, 3) := by decide +kernel
theorem dX7_venue_13 : decode cX7_venue 13 = .ok (.aload_n 0, 1) := by decide +kernel
theorem dX7_venue_14 : decode cX7_venue 14 = .ok (.iconst 1, 1) := by decide +kernel
theorem dX7_venue_15 : decode cX7_venue 15 = .ok (.invokevirtual 285, 3) := by decide +kernel
theorem dX7_venue_18 : decode cX7_venue 18 = .ok (.ireturn, 1) := by decide +kernel
theorem dX7_venue_19 : decode cX7_venue 19 = .ok (.iload_n 2, 1) := by decide +kernel
theorem dX7_venue_20 : decode cX7_venue 20 = .ok (.tableswitch 121 0 6 #[44, 55, 65, 79, 90, 101, 111], 44) := by decide +kernel
theorem dX7_venue_64 : decode cX7_venue 64 = .ok (.aload_n 0, 1) := by decide +kernel
theorem dX7_venue_65 : decode cX7_venue 65 = .ok (.aload_n 0, 1) := by decide +kernel
theorem dX7_venue_66 : decode cX7_venue 66 = .ok (.iload_n 1, 1) := by decide +kernel
theorem dX7_venue_67 : decode cX7_venue 67 = .ok (.iconst 0, 1) := by decide +kernel
theorem dX7_venue_68 : decode cX7_venue 68 = .ok (.invokevirtual 261, 3) := by decide +kernel
theorem dX7_venue_71 : decode cX7_venue 71 = .ok (.invokevirtual 238, 3) := by decide +kernel
theorem dX7_venue_74 : decode cX7_venue 74 = .ok (.ireturn, 1) := by decide +kernel
theorem dX7_venue_75 : decode cX7_venue 75 = .ok (.aload_n 0, 1) := by decide +kernel
theorem dX7_venue_76 : decode cX7_venue 76 = .ok (.aload_n 0, 1) := by decide +kernel
theorem dX7_venue_77 : decode cX7_venue 77 = .ok (.iload_n 1, 1) := by decide +kernel
theorem dX7_venue_78 : decode cX7_venue 78 = .ok (.invokevirtual 288, 3) := by decide +kernel
theorem dX7_venue_81 : decode cX7_venue 81 = .ok (.invokevirtual 238, 3) := by decide +kernel
theorem dX7_venue_84 : decode cX7_venue 84 = .ok (.ireturn, 1) := by decide +kernel
theorem dX7_venue_85 : decode cX7_venue 85 = .ok (.aload_n 0, 1) := by decide +kernel
theorem dX7_venue_86 : decode cX7_venue 86 = .ok (.aload_n 0, 1) := by decide +kernel
theorem dX7_venue_87 : decode cX7_venue 87 = .ok (.getfield 44, 3) := by decide +kernel
theorem dX7_venue_90 : decode cX7_venue 90 = .ok (.bipush 30, 2) := by decide +kernel
theorem dX7_venue_92 : decode cX7_venue 92 = .ok (.iload_n 1, 1) := by decide +kernel
theorem dX7_venue_93 : decode cX7_venue 93 = .ok (.iadd, 1) := by decide +kernel
theorem dX7_venue_94 : decode cX7_venue 94 = .ok (.iaload, 1) := by decide +kernel
theorem dX7_venue_95 : decode cX7_venue 95 = .ok (.invokevirtual 238, 3) := by decide +kernel
theorem dX7_venue_98 : decode cX7_venue 98 = .ok (.ireturn, 1) := by decide +kernel
theorem dX7_venue_99 : decode cX7_venue 99 = .ok (.aload_n 0, 1) := by decide +kernel
theorem dX7_venue_100 : decode cX7_venue 100 = .ok (.aload_n 0, 1) := by decide +kernel
theorem dX7_venue_101 : decode cX7_venue 101 = .ok (.iload_n 1, 1) := by decide +kernel
theorem dX7_venue_102 : decode cX7_venue 102 = .ok (.iconst 2, 1) := by decide +kernel
theorem dX7_venue_103 : decode cX7_venue 103 = .ok (.invokevirtual 261, 3) := by decide +kernel
theorem dX7_venue_106 : decode cX7_venue 106 = .ok (.invokevirtual 238, 3) := by decide +kernel
theorem dX7_venue_109 : decode cX7_venue 109 = .ok (.ireturn, 1) := by decide +kernel
theorem dX7_venue_110 : decode cX7_venue 110 = .ok (.aload_n 0, 1) := by decide +kernel
theorem dX7_venue_111 : decode cX7_venue 111 = .ok (.aload_n 0, 1) := by decide +kernel
theorem dX7_venue_112 : decode cX7_venue 112 = .ok (.iload_n 1, 1) := by decide +kernel
theorem dX7_venue_113 : decode cX7_venue 113 = .ok (.iconst 3, 1) := by decide +kernel
theorem dX7_venue_114 : decode cX7_venue 114 = .ok (.invokevirtual 261, 3) := by decide +kernel
theorem dX7_venue_117 : decode cX7_venue 117 = .ok (.invokevirtual 238, 3) := by decide +kernel
theorem dX7_venue_120 : decode cX7_venue 120 = .ok (.ireturn, 1) := by decide +kernel
theorem dX7_venue_121 : decode cX7_venue 121 = .ok (.aload_n 0, 1) := by decide +kernel
theorem dX7_venue_122 : decode cX7_venue 122 = .ok (.aload_n 0, 1) := by decide +kernel
theorem dX7_venue_123 : decode cX7_venue 123 = .ok (.iload_n 1, 1) := by decide +kernel
theorem dX7_venue_124 : decode cX7_venue 124 = .ok (.invokevirtual 255, 3) := by decide +kernel
theorem dX7_venue_127 : decode cX7_venue 127 = .ok (.invokevirtual 238, 3) := by decide +kernel
theorem dX7_venue_130 : decode cX7_venue 130 = .ok (.ireturn, 1) := by decide +kernel
theorem dX7_venue_131 : decode cX7_venue 131 = .ok (.aload_n 0, 1) := by decide +kernel
theorem dX7_venue_132 : decode cX7_venue 132 = .ok (.aload_n 0, 1) := by decide +kernel
theorem dX7_venue_133 : decode cX7_venue 133 = .ok (.iload_n 1, 1) := by decide +kernel
theorem dX7_venue_134 : decode cX7_venue 134 = .ok (.invokevirtual 290, 3) := by decide +kernel
theorem dX7_venue_137 : decode cX7_venue 137 = .ok (.invokevirtual 238, 3) := by decide +kernel
theorem dX7_venue_140 : decode cX7_venue 140 = .ok (.ireturn, 1) := by decide +kernel
theorem dX7_venue_141 : decode cX7_venue 141 = .ok (.aload_n 0, 1) := by decide +kernel
theorem dX7_venue_142 : decode cX7_venue 142 = .ok (.iconst 1, 1) := by decide +kernel
theorem dX7_venue_143 : decode cX7_venue 143 = .ok (.invokevirtual 285, 3) := by decide +kernel
theorem dX7_venue_146 : decode cX7_venue 146 = .ok (.ireturn, 1) := by decide +kernel
theorem dX7_level_0 : decode cX7_level 0 = .ok (.aload_n 0, 1) := by decide +kernel
theorem dX7_level_1 : decode cX7_level 1 = .ok (.iconst 0, 1) := by decide +kernel
theorem dX7_level_2 : decode cX7_level 2 = .ok (.putfield 70, 3) := by decide +kernel
theorem dX7_level_5 : decode cX7_level 5 = .ok (.aload_n 0, 1) := by decide +kernel
theorem dX7_level_6 : decode cX7_level 6 = .ok (.iload_n 1, 1) := by decide +kernel
theorem dX7_level_7 : decode cX7_level 7 = .ok (.invokevirtual 282, 3) := by decide +kernel
theorem dX7_level_10 : decode cX7_level 10 = .ok (.ifCond .eq 27, 3) := by decide +kernel
theorem dX7_level_13 : decode cX7_level 13 = .ok (.iload_n 2, 1) := by decide +kernel
theorem dX7_level_14 : decode cX7_level 14 = .ok (.iconst 0, 1) := by decide +kernel
theorem dX7_level_15 : decode cX7_level 15 = .ok (.aload_n 0, 1) := by decide +kernel
theorem dX7_level_16 : decode cX7_level 16 = .ok (.iload_n 1, 1) := by decide +kernel
theorem dX7_level_17 : decode cX7_level 17 = .ok (.invokevirtual 255, 3) := by decide +kernel
theorem dX7_level_20 : decode cX7_level 20 = .ok (.iconst 1, 1) := by decide +kernel
theorem dX7_level_21 : decode cX7_level 21 = .ok (.isub, 1) := by decide +kernel
theorem dX7_level_22 : decode cX7_level 22 = .ok (.invokestatic 99, 3) := by decide +kernel
theorem dX7_level_25 : decode cX7_level 25 = .ok (.ifCond .eq 12, 3) := by decide +kernel
theorem dX7_level_28 : decode cX7_level 28 = .ok (.iload_n 3, 1) := by decide +kernel
theorem dX7_level_29 : decode cX7_level 29 = .ok (.iconst 0, 1) := by decide +kernel
theorem dX7_level_30 : decode cX7_level 30 = .ok (.iconst 1, 1) := by decide +kernel
theorem dX7_level_31 : decode cX7_level 31 = .ok (.invokestatic 99, 3) := by decide +kernel
theorem dX7_level_34 : decode cX7_level 34 = .ok (.ifCond .ne 9, 3) := by decide +kernel
theorem dX7_level_37 : decode cX7_level 37 = .ok (.aload_n 0, 1) := by decide +kernel
theorem dX7_level_38 : decode cX7_level 38 = .ok (.iconst 1, 1) := by decide +kernel
theorem dX7_level_39 : decode cX7_level 39 = .ok (.invokevirtual 76, 3) := by decide +kernel
theorem dX7_level_42 : decode cX7_level 42 = .ok (.ireturn, 1) := by decide +kernel
theorem dX7_level_43 : decode cX7_level 43 = .ok (.aload_n 0, 1) := by decide +kernel
theorem dX7_level_44 : decode cX7_level 44 = .ok (.iload_n 3, 1) := by decide +kernel
theorem dX7_level_45 : decode cX7_level 45 = .ok (.ifCond .ne 12, 3) := by decide +kernel
theorem dX7_level_48 : decode cX7_level 48 = .ok (.aload_n 0, 1) := by decide +kernel
theorem dX7_level_49 : decode cX7_level 49 = .ok (.iload_n 1, 1) := by decide +kernel
theorem dX7_level_50 : decode cX7_level 50 = .ok (.iload_n 2, 1) := by decide +kernel
theorem dX7_level_51 : decode cX7_level 51 = .ok (.invokevirtual 264, 3) := by decide +kernel
theorem dX7_level_54 : decode cX7_level 54 = .ok (.goto 9, 3) := by decide +kernel
theorem dX7_level_57 : decode cX7_level 57 = .ok (.aload_n 0, 1) := by decide +kernel
theorem dX7_level_58 : decode cX7_level 58 = .ok (.iload_n 1, 1) := by decide +kernel
theorem dX7_level_59 : decode cX7_level 59 = .ok (.iload_n 2, 1) := by decide +kernel
theorem dX7_level_60 : decode cX7_level 60 = .ok (.invokevirtual 267, 3) := by decide +kernel
theorem dX7_level_63 : decode cX7_level 63 = .ok (.invokevirtual 238, 3) := by decide +kernel
theorem dX7_level_66 : decode cX7_level 66 = .ok (.ireturn, 1) := by decide +kernel
theorem dX7_charge_0 : decode cX7_charge 0 = .ok (.aload_n 0, 1) := by decide +kernel
theorem dX7_charge_1 : decode cX7_charge 1 = .ok (.iconst 0, 1) := by decide +kernel
theorem dX7_charge_2 : decode cX7_charge 2 = .ok (.putfield 70, 3) := by decide +kernel
theorem dX7_charge_5 : decode cX7_charge 5 = .ok (.aload_n 0, 1) := by decide +kernel
theorem dX7_charge_6 : decode cX7_charge 6 = .ok (.iload_n 1, 1) := by decide +kernel
theorem dX7_charge_7 : decode cX7_charge 7 = .ok (.invokevirtual 282, 3) := by decide +kernel
theorem dX7_charge_10 : decode cX7_charge 10 = .ok (.ifCond .ne 9, 3) := by decide +kernel
theorem dX7_charge_13 : decode cX7_charge 13 = .ok (.aload_n 0, 1) := by decide +kernel
theorem dX7_charge_14 : decode cX7_charge 14 = .ok (.iconst 1, 1) := by decide +kernel
theorem dX7_charge_15 : decode cX7_charge 15 = .ok (.invokevirtual 285, 3) := by decide +kernel
theorem dX7_charge_18 : decode cX7_charge 18 = .ok (.ireturn, 1) := by decide +kernel
theorem dX7_charge_19 : decode cX7_charge 19 = .ok (.iload_n 2, 1) := by decide +kernel
theorem dX7_charge_20 : decode cX7_charge 20 = .ok (.iconst 0, 1) := by decide +kernel
theorem dX7_charge_21 : decode cX7_charge 21 = .ok (.bipush 120, 2) := by decide +kernel
theorem dX7_charge_23 : decode cX7_charge 23 = .ok (.invokestatic 99, 3) := by decide +kernel
theorem dX7_charge_26 : decode cX7_charge 26 = .ok (.ifCond .eq 16, 3) := by decide +kernel
theorem dX7_charge_29 : decode cX7_charge 29 = .ok (.aload_n 0, 1) := by decide +kernel
theorem dX7_charge_30 : decode cX7_charge 30 = .ok (.aload_n 0, 1) := by decide +kernel
theorem dX7_charge_31 : decode cX7_charge 31 = .ok (.iload_n 1, 1) := by decide +kernel
theorem dX7_charge_32 : decode cX7_charge 32 = .ok (.iload_n 2, 1) := by decide +kernel
theorem dX7_charge_33 : decode cX7_charge 33 = .ok (.invokevirtual 279, 3) := by decide +kernel
theorem dX7_charge_36 : decode cX7_charge 36 = .ok (.invokevirtual 238, 3) := by decide +kernel
theorem dX7_charge_39 : decode cX7_charge 39 = .ok (.goto 8, 3) := by decide +kernel
theorem dX7_charge_42 : decode cX7_charge 42 = .ok (.aload_n 0, 1) := by decide +kernel
theorem dX7_charge_43 : decode cX7_charge 43 = .ok (.iconst 2, 1) := by decide +kernel
theorem dX7_charge_44 : decode cX7_charge 44 = .ok (.invokevirtual 285, 3) := by decide +kernel
theorem dX7_charge_47 : decode cX7_charge 47 = .ok (.ireturn, 1) := by decide +kernel
theorem dX7_canHave_0 : decode cX7_canHave 0 = .ok (.iload_n 2, 1) := by decide +kernel
theorem dX7_canHave_1 : decode cX7_canHave 1 = .ok (.ifCond .lt 26, 3) := by decide +kernel
theorem dX7_canHave_4 : decode cX7_canHave 4 = .ok (.iload_n 2, 1) := by decide +kernel
theorem dX7_canHave_5 : decode cX7_canHave 5 = .ok (.aload_n 0, 1) := by decide +kernel
theorem dX7_canHave_6 : decode cX7_canHave 6 = .ok (.iload_n 1, 1) := by decide +kernel
theorem dX7_canHave_7 : decode cX7_canHave 7 = .ok (.invokevirtual 288, 3) := by decide +kernel
theorem dX7_canHave_10 : decode cX7_canHave 10 = .ok (.irem, 1) := by decide +kernel
theorem dX7_canHave_11 : decode cX7_canHave 11 = .ok (.ifCond .ne 16, 3) := by decide +kernel
theorem dX7_canHave_14 : decode cX7_canHave 14 = .ok (.iload_n 2, 1) := by decide +kernel
theorem dX7_canHave_15 : decode cX7_canHave 15 = .ok (.aload_n 0, 1) := by decide +kernel
theorem dX7_canHave_16 : decode cX7_canHave 16 = .ok (.iload_n 1, 1) := by decide +kernel
theorem dX7_canHave_17 : decode cX7_canHave 17 = .ok (.invokevirtual 290, 3) := by decide +kernel
theorem dX7_canHave_20 : decode cX7_canHave 20 = .ok (.if_icmp .gt 7, 3) := by decide +kernel
theorem dX7_canHave_23 : decode cX7_canHave 23 = .ok (.iconst 1, 1) := by decide +kernel
theorem dX7_canHave_24 : decode cX7_canHave 24 = .ok (.goto 4, 3) := by decide +kernel
theorem dX7_canHave_27 : decode cX7_canHave 27 = .ok (.iconst 0, 1) := by decide +kernel
theorem dX7_canHave_28 : decode cX7_canHave 28 = .ok (.ireturn, 1) := by decide +kernel
theorem dX7_cost_0 : decode cX7_cost 0 = .ok (.aload_n 0, 1) := by decide +kernel
theorem dX7_cost_1 : decode cX7_cost 1 = .ok (.iconst 0, 1) := by decide +kernel
theorem dX7_cost_2 : decode cX7_cost 2 = .ok (.putfield 70, 3) := by decide +kernel
theorem dX7_cost_5 : decode cX7_cost 5 = .ok (.aload_n 0, 1) := by decide +kernel
theorem dX7_cost_6 : decode cX7_cost 6 = .ok (.iload_n 1, 1) := by decide +kernel
theorem dX7_cost_7 : decode cX7_cost 7 = .ok (.invokevirtual 282, 3) := by decide +kernel
theorem dX7_cost_10 : decode cX7_cost 10 = .ok (.ifCond .ne 9, 3) := by decide +kernel
theorem dX7_cost_13 : decode cX7_cost 13 = .ok (.aload_n 0, 1) := by decide +kernel
theorem dX7_cost_14 : decode cX7_cost 14 = .ok (.iconst 1, 1) := by decide +kernel
theorem dX7_cost_15 : decode cX7_cost 15 = .ok (.invokevirtual 285, 3) := by decide +kernel
theorem dX7_cost_18 : decode cX7_cost 18 = .ok (.ireturn, 1) := by decide +kernel
theorem dX7_cost_19 : decode cX7_cost 19 = .ok (.iload_n 2, 1) := by decide +kernel
theorem dX7_cost_20 : decode cX7_cost 20 = .ok (.iconst 0, 1) := by decide +kernel
theorem dX7_cost_21 : decode cX7_cost 21 = .ok (.bipush 120, 2) := by decide +kernel
theorem dX7_cost_23 : decode cX7_cost 23 = .ok (.invokestatic 99, 3) := by decide +kernel
theorem dX7_cost_26 : decode cX7_cost 26 = .ok (.ifCond .eq 25, 3) := by decide +kernel
theorem dX7_cost_29 : decode cX7_cost 29 = .ok (.aload_n 0, 1) := by decide +kernel
theorem dX7_cost_30 : decode cX7_cost 30 = .ok (.iload_n 1, 1) := by decide +kernel
theorem dX7_cost_31 : decode cX7_cost 31 = .ok (.iload_n 2, 1) := by decide +kernel
theorem dX7_cost_32 : decode cX7_cost 32 = .ok (.invokevirtual 293, 3) := by decide +kernel
theorem dX7_cost_35 : decode cX7_cost 35 = .ok (.ifCond .eq 16, 3) := by decide +kernel
theorem dX7_cost_38 : decode cX7_cost 38 = .ok (.aload_n 0, 1) := by decide +kernel
theorem dX7_cost_39 : decode cX7_cost 39 = .ok (.aload_n 0, 1) := by decide +kernel
theorem dX7_cost_40 : decode cX7_cost 40 = .ok (.iload_n 1, 1) := by decide +kernel
theorem dX7_cost_41 : decode cX7_cost 41 = .ok (.iload_n 2, 1) := by decide +kernel
theorem dX7_cost_42 : decode cX7_cost 42 = .ok (.invokevirtual 297, 3) := by decide +kernel
theorem dX7_cost_45 : decode cX7_cost 45 = .ok (.invokevirtual 238, 3) := by decide +kernel
theorem dX7_cost_48 : decode cX7_cost 48 = .ok (.goto 8, 3) := by decide +kernel
theorem dX7_cost_51 : decode cX7_cost 51 = .ok (.aload_n 0, 1) := by decide +kernel
theorem dX7_cost_52 : decode cX7_cost 52 = .ok (.iconst 2, 1) := by decide +kernel
theorem dX7_cost_53 : decode cX7_cost 53 = .ok (.invokevirtual 285, 3) := by decide +kernel
theorem dX7_cost_56 : decode cX7_cost 56 = .ok (.ireturn, 1) := by decide +kernel
theorem dX7_under_0 : decode cX7_under 0 = .ok (.aload_n 0, 1) := by decide +kernel
theorem dX7_under_1 : decode cX7_under 1 = .ok (.iconst 0, 1) := by decide +kernel
theorem dX7_under_2 : decode cX7_under 2 = .ok (.putfield 70, 3) := by decide +kernel
theorem dX7_under_5 : decode cX7_under 5 = .ok (.aload_n 0, 1) := by decide +kernel
theorem dX7_under_6 : decode cX7_under 6 = .ok (.iload_n 1, 1) := by decide +kernel
theorem dX7_under_7 : decode cX7_under 7 = .ok (.invokevirtual 282, 3) := by decide +kernel
theorem dX7_under_10 : decode cX7_under 10 = .ok (.ifCond .ne 9, 3) := by decide +kernel
theorem dX7_under_13 : decode cX7_under 13 = .ok (.aload_n 0, 1) := by decide +kernel
theorem dX7_under_14 : decode cX7_under 14 = .ok (.iconst 1, 1) := by decide +kernel
theorem dX7_under_15 : decode cX7_under 15 = .ok (.invokevirtual 76, 3) := by decide +kernel
theorem dX7_under_18 : decode cX7_under 18 = .ok (.ireturn, 1) := by decide +kernel
theorem dX7_under_19 : decode cX7_under 19 = .ok (.iload_n 2, 1) := by decide +kernel
theorem dX7_under_20 : decode cX7_under 20 = .ok (.iconst 1, 1) := by decide +kernel
theorem dX7_under_21 : decode cX7_under 21 = .ok (.sipush 999, 3) := by decide +kernel
theorem dX7_under_24 : decode cX7_under 24 = .ok (.invokestatic 99, 3) := by decide +kernel
theorem dX7_under_27 : decode cX7_under 27 = .ok (.ifCond .eq 16, 3) := by decide +kernel
theorem dX7_under_30 : decode cX7_under 30 = .ok (.aload_n 0, 1) := by decide +kernel
theorem dX7_under_31 : decode cX7_under 31 = .ok (.aload_n 0, 1) := by decide +kernel
theorem dX7_under_32 : decode cX7_under 32 = .ok (.iload_n 1, 1) := by decide +kernel
theorem dX7_under_33 : decode cX7_under 33 = .ok (.iload_n 2, 1) := by decide +kernel
theorem dX7_under_34 : decode cX7_under 34 = .ok (.invokevirtual 270, 3) := by decide +kernel
theorem dX7_under_37 : decode cX7_under 37 = .ok (.invokevirtual 238, 3) := by decide +kernel
theorem dX7_under_40 : decode cX7_under 40 = .ok (.goto 8, 3) := by decide +kernel
theorem dX7_under_43 : decode cX7_under 43 = .ok (.aload_n 0, 1) := by decide +kernel
theorem dX7_under_44 : decode cX7_under 44 = .ok (.iconst 2, 1) := by decide +kernel
theorem dX7_under_45 : decode cX7_under 45 = .ok (.invokevirtual 76, 3) := by decide +kernel
theorem dX7_under_48 : decode cX7_under 48 = .ok (.ireturn, 1) := by decide +kernel
theorem dX7_laysBest_0 : decode cX7_laysBest 0 = .ok (.iconst 0, 1) := by decide +kernel
theorem dX7_laysBest_1 : decode cX7_laysBest 1 = .ok (.istore_n 3, 1) := by decide +kernel
theorem dX7_laysBest_2 : decode cX7_laysBest 2 = .ok (.iload_n 3, 1) := by decide +kernel
theorem dX7_laysBest_3 : decode cX7_laysBest 3 = .ok (.bipush 120, 2) := by decide +kernel
theorem dX7_laysBest_5 : decode cX7_laysBest 5 = .ok (.if_icmp .gt 34, 3) := by decide +kernel
theorem dX7_laysBest_8 : decode cX7_laysBest 8 = .ok (.aload_n 0, 1) := by decide +kernel
theorem dX7_laysBest_9 : decode cX7_laysBest 9 = .ok (.getfield 57, 3) := by decide +kernel
theorem dX7_laysBest_12 : decode cX7_laysBest 12 = .ok (.bipush 121, 2) := by decide +kernel
theorem dX7_laysBest_14 : decode cX7_laysBest 14 = .ok (.aload_n 0, 1) := by decide +kernel
theorem dX7_laysBest_15 : decode cX7_laysBest 15 = .ok (.getfield 235, 3) := by decide +kernel
theorem dX7_laysBest_18 : decode cX7_laysBest 18 = .ok (.imul, 1) := by decide +kernel
theorem dX7_laysBest_19 : decode cX7_laysBest 19 = .ok (.iload_n 3, 1) := by decide +kernel
theorem dX7_laysBest_20 : decode cX7_laysBest 20 = .ok (.iadd, 1) := by decide +kernel
theorem dX7_laysBest_21 : decode cX7_laysBest 21 = .ok (.iload_n 3, 1) := by decide +kernel
theorem dX7_laysBest_22 : decode cX7_laysBest 22 = .ok (.ifCond .ne 7, 3) := by decide +kernel
theorem dX7_laysBest_25 : decode cX7_laysBest 25 = .ok (.iconst 0, 1) := by decide +kernel
theorem dX7_laysBest_26 : decode cX7_laysBest 26 = .ok (.goto 6, 3) := by decide +kernel
theorem dX7_laysBest_29 : decode cX7_laysBest 29 = .ok (.ldc_w 300, 3) := by decide +kernel
theorem dX7_laysBest_32 : decode cX7_laysBest 32 = .ok (.iastore, 1) := by decide +kernel
theorem dX7_laysBest_33 : decode cX7_laysBest 33 = .ok (.iinc 3 1, 3) := by decide +kernel
theorem dX7_laysBest_36 : decode cX7_laysBest 36 = .ok (.goto (-34), 3) := by decide +kernel
theorem dX7_laysBest_39 : decode cX7_laysBest 39 = .ok (.aload_n 0, 1) := by decide +kernel
theorem dX7_laysBest_40 : decode cX7_laysBest 40 = .ok (.getfield 235, 3) := by decide +kernel
theorem dX7_laysBest_43 : decode cX7_laysBest 43 = .ok (.iconst 1, 1) := by decide +kernel
theorem dX7_laysBest_44 : decode cX7_laysBest 44 = .ok (.isub, 1) := by decide +kernel
theorem dX7_laysBest_45 : decode cX7_laysBest 45 = .ok (.istore_n 3, 1) := by decide +kernel
theorem dX7_laysBest_46 : decode cX7_laysBest 46 = .ok (.iload_n 3, 1) := by decide +kernel
theorem dX7_laysBest_47 : decode cX7_laysBest 47 = .ok (.ifCond .lt 45, 3) := by decide +kernel
theorem dX7_laysBest_50 : decode cX7_laysBest 50 = .ok (.iconst 0, 1) := by decide +kernel
theorem dX7_laysBest_51 : decode cX7_laysBest 51 = .ok (.istore 4, 2) := by decide +kernel
theorem dX7_laysBest_53 : decode cX7_laysBest 53 = .ok (.iload 4, 2) := by decide +kernel
theorem dX7_laysBest_55 : decode cX7_laysBest 55 = .ok (.bipush 120, 2) := by decide +kernel
theorem dX7_laysBest_57 : decode cX7_laysBest 57 = .ok (.if_icmp .gt 29, 3) := by decide +kernel
theorem dX7_laysBest_60 : decode cX7_laysBest 60 = .ok (.aload_n 0, 1) := by decide +kernel
theorem dX7_laysBest_61 : decode cX7_laysBest 61 = .ok (.getfield 57, 3) := by decide +kernel
theorem dX7_laysBest_64 : decode cX7_laysBest 64 = .ok (.bipush 121, 2) := by decide +kernel
theorem dX7_laysBest_66 : decode cX7_laysBest 66 = .ok (.iload_n 3, 1) := by decide +kernel
theorem dX7_laysBest_67 : decode cX7_laysBest 67 = .ok (.imul, 1) := by decide +kernel
theorem dX7_laysBest_68 : decode cX7_laysBest 68 = .ok (.iload 4, 2) := by decide +kernel
theorem dX7_laysBest_70 : decode cX7_laysBest 70 = .ok (.iadd, 1) := by decide +kernel
theorem dX7_laysBest_71 : decode cX7_laysBest 71 = .ok (.aload_n 0, 1) := by decide +kernel
theorem dX7_laysBest_72 : decode cX7_laysBest 72 = .ok (.iload_n 3, 1) := by decide +kernel
theorem dX7_laysBest_73 : decode cX7_laysBest 73 = .ok (.iload 4, 2) := by decide +kernel
theorem dX7_laysBest_75 : decode cX7_laysBest 75 = .ok (.iload_n 2, 1) := by decide +kernel
theorem dX7_laysBest_76 : decode cX7_laysBest 76 = .ok (.invokevirtual 301, 3) := by decide +kernel
theorem dX7_laysBest_79 : decode cX7_laysBest 79 = .ok (.iastore, 1) := by decide +kernel
theorem dX7_laysBest_80 : decode cX7_laysBest 80 = .ok (.iinc 4 1, 3) := by decide +kernel
theorem dX7_laysBest_83 : decode cX7_laysBest 83 = .ok (.goto (-30), 3) := by decide +kernel
theorem dX7_laysBest_86 : decode cX7_laysBest 86 = .ok (.iinc 3 (-1), 3) := by decide +kernel
theorem dX7_laysBest_89 : decode cX7_laysBest 89 = .ok (.goto (-43), 3) := by decide +kernel
theorem dX7_laysBest_92 : decode cX7_laysBest 92 = .ok (.aload_n 0, 1) := by decide +kernel
theorem dX7_laysBest_93 : decode cX7_laysBest 93 = .ok (.iload_n 1, 1) := by decide +kernel
theorem dX7_laysBest_94 : decode cX7_laysBest 94 = .ok (.putfield 305, 3) := by decide +kernel
theorem dX7_laysBest_97 : decode cX7_laysBest 97 = .ok (.aload_n 0, 1) := by decide +kernel
theorem dX7_laysBest_98 : decode cX7_laysBest 98 = .ok (.getfield 57, 3) := by decide +kernel
theorem dX7_laysBest_101 : decode cX7_laysBest 101 = .ok (.aload_n 0, 1) := by decide +kernel
theorem dX7_laysBest_102 : decode cX7_laysBest 102 = .ok (.getfield 305, 3) := by decide +kernel
theorem dX7_laysBest_105 : decode cX7_laysBest 105 = .ok (.iaload, 1) := by decide +kernel
theorem dX7_laysBest_106 : decode cX7_laysBest 106 = .ok (.ldc_w 308, 3) := by decide +kernel
theorem dX7_laysBest_109 : decode cX7_laysBest 109 = .ok (.if_icmp .lt 16, 3) := by decide +kernel
theorem dX7_laysBest_112 : decode cX7_laysBest 112 = .ok (.aload_n 0, 1) := by decide +kernel
theorem dX7_laysBest_113 : decode cX7_laysBest 113 = .ok (.dup, 1) := by decide +kernel
theorem dX7_laysBest_114 : decode cX7_laysBest 114 = .ok (.getfield 305, 3) := by decide +kernel
theorem dX7_laysBest_117 : decode cX7_laysBest 117 = .ok (.iconst 1, 1) := by decide +kernel
theorem dX7_laysBest_118 : decode cX7_laysBest 118 = .ok (.isub, 1) := by decide +kernel
theorem dX7_laysBest_119 : decode cX7_laysBest 119 = .ok (.putfield 305, 3) := by decide +kernel
theorem dX7_laysBest_122 : decode cX7_laysBest 122 = .ok (.goto (-25), 3) := by decide +kernel
theorem dX7_laysBest_125 : decode cX7_laysBest 125 = .ok (.aload_n 0, 1) := by decide +kernel
theorem dX7_laysBest_126 : decode cX7_laysBest 126 = .ok (.aload_n 0, 1) := by decide +kernel
theorem dX7_laysBest_127 : decode cX7_laysBest 127 = .ok (.getfield 57, 3) := by decide +kernel
theorem dX7_laysBest_130 : decode cX7_laysBest 130 = .ok (.aload_n 0, 1) := by decide +kernel
theorem dX7_laysBest_131 : decode cX7_laysBest 131 = .ok (.getfield 305, 3) := by decide +kernel
theorem dX7_laysBest_134 : decode cX7_laysBest 134 = .ok (.iaload, 1) := by decide +kernel
theorem dX7_laysBest_135 : decode cX7_laysBest 135 = .ok (.putfield 309, 3) := by decide +kernel
theorem dX7_laysBest_138 : decode cX7_laysBest 138 = .ok (.aload_n 0, 1) := by decide +kernel
theorem dX7_laysBest_139 : decode cX7_laysBest 139 = .ok (.iload_n 2, 1) := by decide +kernel
theorem dX7_laysBest_140 : decode cX7_laysBest 140 = .ok (.invokevirtual 312, 3) := by decide +kernel
theorem dX7_laysBest_143 : decode cX7_laysBest 143 = .ok (.return_, 1) := by decide +kernel
theorem dX7_mostAt_0 : decode cX7_mostAt 0 = .ok (.iload_n 1, 1) := by decide +kernel
theorem dX7_mostAt_1 : decode cX7_mostAt 1 = .ok (.iload_n 3, 1) := by decide +kernel
theorem dX7_mostAt_2 : decode cX7_mostAt 2 = .ok (.if_icmp .ne 5, 3) := by decide +kernel
theorem dX7_mostAt_5 : decode cX7_mostAt 5 = .ok (.iconst 0, 1) := by decide +kernel
theorem dX7_mostAt_6 : decode cX7_mostAt 6 = .ok (.ireturn, 1) := by decide +kernel
theorem dX7_mostAt_7 : decode cX7_mostAt 7 = .ok (.aload_n 0, 1) := by decide +kernel
theorem dX7_mostAt_8 : decode cX7_mostAt 8 = .ok (.iload_n 1, 1) := by decide +kernel
theorem dX7_mostAt_9 : decode cX7_mostAt 9 = .ok (.invokevirtual 290, 3) := by decide +kernel
theorem dX7_mostAt_12 : decode cX7_mostAt 12 = .ok (.iload_n 2, 1) := by decide +kernel
theorem dX7_mostAt_13 : decode cX7_mostAt 13 = .ok (.if_icmp .ge 11, 3) := by decide +kernel
theorem dX7_mostAt_16 : decode cX7_mostAt 16 = .ok (.aload_n 0, 1) := by decide +kernel
theorem dX7_mostAt_17 : decode cX7_mostAt 17 = .ok (.iload_n 1, 1) := by decide +kernel
theorem dX7_mostAt_18 : decode cX7_mostAt 18 = .ok (.invokevirtual 290, 3) := by decide +kernel
theorem dX7_mostAt_21 : decode cX7_mostAt 21 = .ok (.goto 4, 3) := by decide +kernel
theorem dX7_mostAt_24 : decode cX7_mostAt 24 = .ok (.iload_n 2, 1) := by decide +kernel
theorem dX7_mostAt_25 : decode cX7_mostAt 25 = .ok (.istore 4, 2) := by decide +kernel
theorem dX7_mostAt_27 : decode cX7_mostAt 27 = .ok (.iload 4, 2) := by decide +kernel
theorem dX7_mostAt_29 : decode cX7_mostAt 29 = .ok (.aload_n 0, 1) := by decide +kernel
theorem dX7_mostAt_30 : decode cX7_mostAt 30 = .ok (.iload_n 1, 1) := by decide +kernel
theorem dX7_mostAt_31 : decode cX7_mostAt 31 = .ok (.invokevirtual 288, 3) := by decide +kernel
theorem dX7_mostAt_34 : decode cX7_mostAt 34 = .ok (.idiv, 1) := by decide +kernel
theorem dX7_mostAt_35 : decode cX7_mostAt 35 = .ok (.aload_n 0, 1) := by decide +kernel
theorem dX7_mostAt_36 : decode cX7_mostAt 36 = .ok (.iload_n 1, 1) := by decide +kernel
theorem dX7_mostAt_37 : decode cX7_mostAt 37 = .ok (.invokevirtual 288, 3) := by decide +kernel
theorem dX7_mostAt_40 : decode cX7_mostAt 40 = .ok (.imul, 1) := by decide +kernel
theorem dX7_mostAt_41 : decode cX7_mostAt 41 = .ok (.ireturn, 1) := by decide +kernel
theorem dX7_leastFrom_0 : decode cX7_leastFrom 0 = .ok (.ldc_w 300, 3) := by decide +kernel
theorem dX7_leastFrom_3 : decode cX7_leastFrom 3 = .ok (.istore 4, 2) := by decide +kernel
theorem dX7_leastFrom_5 : decode cX7_leastFrom 5 = .ok (.aload_n 0, 1) := by decide +kernel
theorem dX7_leastFrom_6 : decode cX7_leastFrom 6 = .ok (.iload_n 1, 1) := by decide +kernel
theorem dX7_leastFrom_7 : decode cX7_leastFrom 7 = .ok (.iload_n 2, 1) := by decide +kernel
theorem dX7_leastFrom_8 : decode cX7_leastFrom 8 = .ok (.iload_n 3, 1) := by decide +kernel
theorem dX7_leastFrom_9 : decode cX7_leastFrom 9 = .ok (.invokevirtual 315, 3) := by decide +kernel
theorem dX7_leastFrom_12 : decode cX7_leastFrom 12 = .ok (.istore 5, 2) := by decide +kernel
theorem dX7_leastFrom_14 : decode cX7_leastFrom 14 = .ok (.iload 5, 2) := by decide +kernel
theorem dX7_leastFrom_16 : decode cX7_leastFrom 16 = .ok (.ifCond .lt 68, 3) := by decide +kernel
theorem dX7_leastFrom_19 : decode cX7_leastFrom 19 = .ok (.aload_n 0, 1) := by decide +kernel
theorem dX7_leastFrom_20 : decode cX7_leastFrom 20 = .ok (.getfield 57, 3) := by decide +kernel
theorem dX7_leastFrom_23 : decode cX7_leastFrom 23 = .ok (.bipush 121, 2) := by decide +kernel
theorem dX7_leastFrom_25 : decode cX7_leastFrom 25 = .ok (.iload_n 1, 1) := by decide +kernel
theorem dX7_leastFrom_26 : decode cX7_leastFrom 26 = .ok (.iconst 1, 1) := by decide +kernel
theorem dX7_leastFrom_27 : decode cX7_leastFrom 27 = .ok (.iadd, 1) := by decide +kernel
theorem dX7_leastFrom_28 : decode cX7_leastFrom 28 = .ok (.imul, 1) := by decide +kernel
theorem dX7_leastFrom_29 : decode cX7_leastFrom 29 = .ok (.iload_n 2, 1) := by decide +kernel
theorem dX7_leastFrom_30 : decode cX7_leastFrom 30 = .ok (.iadd, 1) := by decide +kernel
theorem dX7_leastFrom_31 : decode cX7_leastFrom 31 = .ok (.iload 5, 2) := by decide +kernel
theorem dX7_leastFrom_33 : decode cX7_leastFrom 33 = .ok (.isub, 1) := by decide +kernel
theorem dX7_leastFrom_34 : decode cX7_leastFrom 34 = .ok (.iaload, 1) := by decide +kernel
theorem dX7_leastFrom_35 : decode cX7_leastFrom 35 = .ok (.istore 6, 2) := by decide +kernel
theorem dX7_leastFrom_37 : decode cX7_leastFrom 37 = .ok (.iload 6, 2) := by decide +kernel
theorem dX7_leastFrom_39 : decode cX7_leastFrom 39 = .ok (.ldc_w 308, 3) := by decide +kernel
theorem dX7_leastFrom_42 : decode cX7_leastFrom 42 = .ok (.if_icmp .lt 6, 3) := by decide +kernel
theorem dX7_leastFrom_45 : decode cX7_leastFrom 45 = .ok (.goto 26, 3) := by decide +kernel
theorem dX7_leastFrom_48 : decode cX7_leastFrom 48 = .ok (.aload_n 0, 1) := by decide +kernel
theorem dX7_leastFrom_49 : decode cX7_leastFrom 49 = .ok (.iload_n 1, 1) := by decide +kernel
theorem dX7_leastFrom_50 : decode cX7_leastFrom 50 = .ok (.iload 5, 2) := by decide +kernel
theorem dX7_leastFrom_52 : decode cX7_leastFrom 52 = .ok (.invokevirtual 297, 3) := by decide +kernel
theorem dX7_leastFrom_55 : decode cX7_leastFrom 55 = .ok (.iload 6, 2) := by decide +kernel
theorem dX7_leastFrom_57 : decode cX7_leastFrom 57 = .ok (.iadd, 1) := by decide +kernel
theorem dX7_leastFrom_58 : decode cX7_leastFrom 58 = .ok (.istore 7, 2) := by decide +kernel
theorem dX7_leastFrom_60 : decode cX7_leastFrom 60 = .ok (.iload 7, 2) := by decide +kernel
theorem dX7_leastFrom_62 : decode cX7_leastFrom 62 = .ok (.iload 4, 2) := by decide +kernel
theorem dX7_leastFrom_64 : decode cX7_leastFrom 64 = .ok (.if_icmp .ge 7, 3) := by decide +kernel
theorem dX7_leastFrom_67 : decode cX7_leastFrom 67 = .ok (.iload 7, 2) := by decide +kernel
theorem dX7_leastFrom_69 : decode cX7_leastFrom 69 = .ok (.istore 4, 2) := by decide +kernel
theorem dX7_leastFrom_71 : decode cX7_leastFrom 71 = .ok (.iload 5, 2) := by decide +kernel
theorem dX7_leastFrom_73 : decode cX7_leastFrom 73 = .ok (.aload_n 0, 1) := by decide +kernel
theorem dX7_leastFrom_74 : decode cX7_leastFrom 74 = .ok (.iload_n 1, 1) := by decide +kernel
theorem dX7_leastFrom_75 : decode cX7_leastFrom 75 = .ok (.invokevirtual 288, 3) := by decide +kernel
theorem dX7_leastFrom_78 : decode cX7_leastFrom 78 = .ok (.isub, 1) := by decide +kernel
theorem dX7_leastFrom_79 : decode cX7_leastFrom 79 = .ok (.istore 5, 2) := by decide +kernel
theorem dX7_leastFrom_81 : decode cX7_leastFrom 81 = .ok (.goto (-67), 3) := by decide +kernel
theorem dX7_leastFrom_84 : decode cX7_leastFrom 84 = .ok (.iload 4, 2) := by decide +kernel
theorem dX7_leastFrom_86 : decode cX7_leastFrom 86 = .ok (.ireturn, 1) := by decide +kernel
theorem dX7_laysShares_0 : decode cX7_laysShares 0 = .ok (.aload_n 0, 1) := by decide +kernel
theorem dX7_laysShares_1 : decode cX7_laysShares 1 = .ok (.getfield 305, 3) := by decide +kernel
theorem dX7_laysShares_4 : decode cX7_laysShares 4 = .ok (.istore_n 2, 1) := by decide +kernel
theorem dX7_laysShares_5 : decode cX7_laysShares 5 = .ok (.iconst 0, 1) := by decide +kernel
theorem dX7_laysShares_6 : decode cX7_laysShares 6 = .ok (.istore_n 3, 1) := by decide +kernel
theorem dX7_laysShares_7 : decode cX7_laysShares 7 = .ok (.iload_n 3, 1) := by decide +kernel
theorem dX7_laysShares_8 : decode cX7_laysShares 8 = .ok (.aload_n 0, 1) := by decide +kernel
theorem dX7_laysShares_9 : decode cX7_laysShares 9 = .ok (.getfield 235, 3) := by decide +kernel
theorem dX7_laysShares_12 : decode cX7_laysShares 12 = .ok (.if_icmp .ge 104, 3) := by decide +kernel
theorem dX7_laysShares_15 : decode cX7_laysShares 15 = .ok (.aload_n 0, 1) := by decide +kernel
theorem dX7_laysShares_16 : decode cX7_laysShares 16 = .ok (.iload_n 3, 1) := by decide +kernel
theorem dX7_laysShares_17 : decode cX7_laysShares 17 = .ok (.iload_n 2, 1) := by decide +kernel
theorem dX7_laysShares_18 : decode cX7_laysShares 18 = .ok (.iload_n 1, 1) := by decide +kernel
theorem dX7_laysShares_19 : decode cX7_laysShares 19 = .ok (.invokevirtual 315, 3) := by decide +kernel
theorem dX7_laysShares_22 : decode cX7_laysShares 22 = .ok (.istore 4, 2) := by decide +kernel
theorem dX7_laysShares_24 : decode cX7_laysShares 24 = .ok (.aload_n 0, 1) := by decide +kernel
theorem dX7_laysShares_25 : decode cX7_laysShares 25 = .ok (.getfield 57, 3) := by decide +kernel
theorem dX7_laysShares_28 : decode cX7_laysShares 28 = .ok (.bipush 121, 2) := by decide +kernel
theorem dX7_laysShares_30 : decode cX7_laysShares 30 = .ok (.iload_n 3, 1) := by decide +kernel
theorem dX7_laysShares_31 : decode cX7_laysShares 31 = .ok (.iconst 1, 1) := by decide +kernel
theorem dX7_laysShares_32 : decode cX7_laysShares 32 = .ok (.iadd, 1) := by decide +kernel
theorem dX7_laysShares_33 : decode cX7_laysShares 33 = .ok (.imul, 1) := by decide +kernel
theorem dX7_laysShares_34 : decode cX7_laysShares 34 = .ok (.iload_n 2, 1) := by decide +kernel
theorem dX7_laysShares_35 : decode cX7_laysShares 35 = .ok (.iadd, 1) := by decide +kernel
theorem dX7_laysShares_36 : decode cX7_laysShares 36 = .ok (.iload 4, 2) := by decide +kernel
theorem dX7_laysShares_38 : decode cX7_laysShares 38 = .ok (.isub, 1) := by decide +kernel
theorem dX7_laysShares_39 : decode cX7_laysShares 39 = .ok (.iaload, 1) := by decide +kernel
theorem dX7_laysShares_40 : decode cX7_laysShares 40 = .ok (.ldc_w 308, 3) := by decide +kernel
theorem dX7_laysShares_43 : decode cX7_laysShares 43 = .ok (.if_icmp .ge 41, 3) := by decide +kernel
theorem dX7_laysShares_46 : decode cX7_laysShares 46 = .ok (.aload_n 0, 1) := by decide +kernel
theorem dX7_laysShares_47 : decode cX7_laysShares 47 = .ok (.iload_n 3, 1) := by decide +kernel
theorem dX7_laysShares_48 : decode cX7_laysShares 48 = .ok (.iload 4, 2) := by decide +kernel
theorem dX7_laysShares_50 : decode cX7_laysShares 50 = .ok (.invokevirtual 297, 3) := by decide +kernel
theorem dX7_laysShares_53 : decode cX7_laysShares 53 = .ok (.aload_n 0, 1) := by decide +kernel
theorem dX7_laysShares_54 : decode cX7_laysShares 54 = .ok (.getfield 57, 3) := by decide +kernel
theorem dX7_laysShares_57 : decode cX7_laysShares 57 = .ok (.bipush 121, 2) := by decide +kernel
theorem dX7_laysShares_59 : decode cX7_laysShares 59 = .ok (.iload_n 3, 1) := by decide +kernel
theorem dX7_laysShares_60 : decode cX7_laysShares 60 = .ok (.iconst 1, 1) := by decide +kernel
theorem dX7_laysShares_61 : decode cX7_laysShares 61 = .ok (.iadd, 1) := by decide +kernel
theorem dX7_laysShares_62 : decode cX7_laysShares 62 = .ok (.imul, 1) := by decide +kernel
theorem dX7_laysShares_63 : decode cX7_laysShares 63 = .ok (.iload_n 2, 1) := by decide +kernel
theorem dX7_laysShares_64 : decode cX7_laysShares 64 = .ok (.iadd, 1) := by decide +kernel
theorem dX7_laysShares_65 : decode cX7_laysShares 65 = .ok (.iload 4, 2) := by decide +kernel
theorem dX7_laysShares_67 : decode cX7_laysShares 67 = .ok (.isub, 1) := by decide +kernel
theorem dX7_laysShares_68 : decode cX7_laysShares 68 = .ok (.iaload, 1) := by decide +kernel
theorem dX7_laysShares_69 : decode cX7_laysShares 69 = .ok (.iadd, 1) := by decide +kernel
theorem dX7_laysShares_70 : decode cX7_laysShares 70 = .ok (.aload_n 0, 1) := by decide +kernel
theorem dX7_laysShares_71 : decode cX7_laysShares 71 = .ok (.getfield 57, 3) := by decide +kernel
theorem dX7_laysShares_74 : decode cX7_laysShares 74 = .ok (.bipush 121, 2) := by decide +kernel
theorem dX7_laysShares_76 : decode cX7_laysShares 76 = .ok (.iload_n 3, 1) := by decide +kernel
theorem dX7_laysShares_77 : decode cX7_laysShares 77 = .ok (.imul, 1) := by decide +kernel
theorem dX7_laysShares_78 : decode cX7_laysShares 78 = .ok (.iload_n 2, 1) := by decide +kernel
theorem dX7_laysShares_79 : decode cX7_laysShares 79 = .ok (.iadd, 1) := by decide +kernel
theorem dX7_laysShares_80 : decode cX7_laysShares 80 = .ok (.iaload, 1) := by decide +kernel
theorem dX7_laysShares_81 : decode cX7_laysShares 81 = .ok (.if_icmp .eq 16, 3) := by decide +kernel
theorem dX7_laysShares_84 : decode cX7_laysShares 84 = .ok (.iload 4, 2) := by decide +kernel
theorem dX7_laysShares_86 : decode cX7_laysShares 86 = .ok (.aload_n 0, 1) := by decide +kernel
theorem dX7_laysShares_87 : decode cX7_laysShares 87 = .ok (.iload_n 3, 1) := by decide +kernel
theorem dX7_laysShares_88 : decode cX7_laysShares 88 = .ok (.invokevirtual 288, 3) := by decide +kernel
theorem dX7_laysShares_91 : decode cX7_laysShares 91 = .ok (.isub, 1) := by decide +kernel
theorem dX7_laysShares_92 : decode cX7_laysShares 92 = .ok (.istore 4, 2) := by decide +kernel
theorem dX7_laysShares_94 : decode cX7_laysShares 94 = .ok (.goto (-70), 3) := by decide +kernel
theorem dX7_laysShares_97 : decode cX7_laysShares 97 = .ok (.aload_n 0, 1) := by decide +kernel
theorem dX7_laysShares_98 : decode cX7_laysShares 98 = .ok (.getfield 60, 3) := by decide +kernel
theorem dX7_laysShares_101 : decode cX7_laysShares 101 = .ok (.iload_n 3, 1) := by decide +kernel
theorem dX7_laysShares_102 : decode cX7_laysShares 102 = .ok (.iload 4, 2) := by decide +kernel
theorem dX7_laysShares_104 : decode cX7_laysShares 104 = .ok (.iastore, 1) := by decide +kernel
theorem dX7_laysShares_105 : decode cX7_laysShares 105 = .ok (.iload_n 2, 1) := by decide +kernel
theorem dX7_laysShares_106 : decode cX7_laysShares 106 = .ok (.iload 4, 2) := by decide +kernel
theorem dX7_laysShares_108 : decode cX7_laysShares 108 = .ok (.isub, 1) := by decide +kernel
theorem dX7_laysShares_109 : decode cX7_laysShares 109 = .ok (.istore_n 2, 1) := by decide +kernel
theorem dX7_laysShares_110 : decode cX7_laysShares 110 = .ok (.iinc 3 1, 3) := by decide +kernel
theorem dX7_laysShares_113 : decode cX7_laysShares 113 = .ok (.goto (-106), 3) := by decide +kernel
theorem dX7_laysShares_116 : decode cX7_laysShares 116 = .ok (.return_, 1) := by decide +kernel
theorem dX7_refusesQ_0 : decode cX7_refusesQ 0 = .ok (.aload_n 0, 1) := by decide +kernel
theorem dX7_refusesQ_1 : decode cX7_refusesQ 1 = .ok (.getfield 241, 3) := by decide +kernel
theorem dX7_refusesQ_4 : decode cX7_refusesQ 4 = .ok (.ifCond .eq 7, 3) := by decide +kernel
theorem dX7_refusesQ_7 : decode cX7_refusesQ 7 = .ok (.iload_n 1, 1) := by decide +kernel
theorem dX7_refusesQ_8 : decode cX7_refusesQ 8 = .ok (.ifCond .ne 7, 3) := by decide +kernel
theorem dX7_refusesQ_11 : decode cX7_refusesQ 11 = .ok (.iconst 1, 1) := by decide +kernel
theorem dX7_refusesQ_12 : decode cX7_refusesQ 12 = .ok (.goto 18, 3) := by decide +kernel
theorem dX7_refusesQ_15 : decode cX7_refusesQ 15 = .ok (.iload_n 2, 1) := by decide +kernel
theorem dX7_refusesQ_16 : decode cX7_refusesQ 16 = .ok (.iconst 1, 1) := by decide +kernel
theorem dX7_refusesQ_17 : decode cX7_refusesQ 17 = .ok (.bipush 120, 2) := by decide +kernel
theorem dX7_refusesQ_19 : decode cX7_refusesQ 19 = .ok (.invokestatic 99, 3) := by decide +kernel
theorem dX7_refusesQ_22 : decode cX7_refusesQ 22 = .ok (.ifCond .eq 7, 3) := by decide +kernel
theorem dX7_refusesQ_25 : decode cX7_refusesQ 25 = .ok (.iconst 0, 1) := by decide +kernel
theorem dX7_refusesQ_26 : decode cX7_refusesQ 26 = .ok (.goto 4, 3) := by decide +kernel
theorem dX7_refusesQ_29 : decode cX7_refusesQ 29 = .ok (.iconst 2, 1) := by decide +kernel
theorem dX7_refusesQ_30 : decode cX7_refusesQ 30 = .ok (.ireturn, 1) := by decide +kernel
theorem dX7_units_0 : decode cX7_units 0 = .ok (.aload_n 0, 1) := by decide +kernel
theorem dX7_units_1 : decode cX7_units 1 = .ok (.iconst 0, 1) := by decide +kernel
theorem dX7_units_2 : decode cX7_units 2 = .ok (.putfield 70, 3) := by decide +kernel
theorem dX7_units_5 : decode cX7_units 5 = .ok (.aload_n 0, 1) := by decide +kernel
theorem dX7_units_6 : decode cX7_units 6 = .ok (.iconst 1, 1) := by decide +kernel
theorem dX7_units_7 : decode cX7_units 7 = .ok (.iload_n 1, 1) := by decide +kernel
theorem dX7_units_8 : decode cX7_units 8 = .ok (.invokevirtual 318, 3) := by decide +kernel
theorem dX7_units_11 : decode cX7_units 11 = .ok (.istore_n 2, 1) := by decide +kernel
theorem dX7_units_12 : decode cX7_units 12 = .ok (.iload_n 2, 1) := by decide +kernel
theorem dX7_units_13 : decode cX7_units 13 = .ok (.ifCond .le 9, 3) := by decide +kernel
theorem dX7_units_16 : decode cX7_units 16 = .ok (.aload_n 0, 1) := by decide +kernel
theorem dX7_units_17 : decode cX7_units 17 = .ok (.iload_n 2, 1) := by decide +kernel
theorem dX7_units_18 : decode cX7_units 18 = .ok (.invokevirtual 76, 3) := by decide +kernel
theorem dX7_units_21 : decode cX7_units 21 = .ok (.ireturn, 1) := by decide +kernel
theorem dX7_units_22 : decode cX7_units 22 = .ok (.aload_n 0, 1) := by decide +kernel
theorem dX7_units_23 : decode cX7_units 23 = .ok (.iload_n 1, 1) := by decide +kernel
theorem dX7_units_24 : decode cX7_units 24 = .ok (.iconst (-1), 1) := by decide +kernel
theorem dX7_units_25 : decode cX7_units 25 = .ok (.invokevirtual 322, 3) := by decide +kernel
theorem dX7_units_28 : decode cX7_units 28 = .ok (.aload_n 0, 1) := by decide +kernel
theorem dX7_units_29 : decode cX7_units 29 = .ok (.aload_n 0, 1) := by decide +kernel
theorem dX7_units_30 : decode cX7_units 30 = .ok (.getfield 305, 3) := by decide +kernel
theorem dX7_units_33 : decode cX7_units 33 = .ok (.invokevirtual 238, 3) := by decide +kernel
theorem dX7_units_36 : decode cX7_units 36 = .ok (.ireturn, 1) := by decide +kernel
theorem dX7_best_0 : decode cX7_best 0 = .ok (.aload_n 0, 1) := by decide +kernel
theorem dX7_best_1 : decode cX7_best 1 = .ok (.iconst 0, 1) := by decide +kernel
theorem dX7_best_2 : decode cX7_best 2 = .ok (.putfield 70, 3) := by decide +kernel
theorem dX7_best_5 : decode cX7_best 5 = .ok (.aload_n 0, 1) := by decide +kernel
theorem dX7_best_6 : decode cX7_best 6 = .ok (.iconst 1, 1) := by decide +kernel
theorem dX7_best_7 : decode cX7_best 7 = .ok (.iload_n 1, 1) := by decide +kernel
theorem dX7_best_8 : decode cX7_best 8 = .ok (.invokevirtual 318, 3) := by decide +kernel
theorem dX7_best_11 : decode cX7_best 11 = .ok (.istore_n 2, 1) := by decide +kernel
theorem dX7_best_12 : decode cX7_best 12 = .ok (.iload_n 2, 1) := by decide +kernel
theorem dX7_best_13 : decode cX7_best 13 = .ok (.ifCond .le 9, 3) := by decide +kernel
theorem dX7_best_16 : decode cX7_best 16 = .ok (.aload_n 0, 1) := by decide +kernel
theorem dX7_best_17 : decode cX7_best 17 = .ok (.iload_n 2, 1) := by decide +kernel
theorem dX7_best_18 : decode cX7_best 18 = .ok (.invokevirtual 285, 3) := by decide +kernel
theorem dX7_best_21 : decode cX7_best 21 = .ok (.ireturn, 1) := by decide +kernel
theorem dX7_best_22 : decode cX7_best 22 = .ok (.aload_n 0, 1) := by decide +kernel
theorem dX7_best_23 : decode cX7_best 23 = .ok (.iload_n 1, 1) := by decide +kernel
theorem dX7_best_24 : decode cX7_best 24 = .ok (.iconst (-1), 1) := by decide +kernel
theorem dX7_best_25 : decode cX7_best 25 = .ok (.invokevirtual 322, 3) := by decide +kernel
theorem dX7_best_28 : decode cX7_best 28 = .ok (.aload_n 0, 1) := by decide +kernel
theorem dX7_best_29 : decode cX7_best 29 = .ok (.aload_n 0, 1) := by decide +kernel
theorem dX7_best_30 : decode cX7_best 30 = .ok (.getfield 309, 3) := by decide +kernel
theorem dX7_best_33 : decode cX7_best 33 = .ok (.invokevirtual 238, 3) := by decide +kernel
theorem dX7_best_36 : decode cX7_best 36 = .ok (.ireturn, 1) := by decide +kernel
theorem dX7_share_0 : decode cX7_share 0 = .ok (.aload_n 0, 1) := by decide +kernel
theorem dX7_share_1 : decode cX7_share 1 = .ok (.iconst 0, 1) := by decide +kernel
theorem dX7_share_2 : decode cX7_share 2 = .ok (.putfield 70, 3) := by decide +kernel
theorem dX7_share_5 : decode cX7_share 5 = .ok (.aload_n 0, 1) := by decide +kernel
theorem dX7_share_6 : decode cX7_share 6 = .ok (.aload_n 0, 1) := by decide +kernel
theorem dX7_share_7 : decode cX7_share 7 = .ok (.iload_n 2, 1) := by decide +kernel
theorem dX7_share_8 : decode cX7_share 8 = .ok (.invokevirtual 282, 3) := by decide +kernel
theorem dX7_share_11 : decode cX7_share 11 = .ok (.iload_n 1, 1) := by decide +kernel
theorem dX7_share_12 : decode cX7_share 12 = .ok (.invokevirtual 318, 3) := by decide +kernel
theorem dX7_share_15 : decode cX7_share 15 = .ok (.istore_n 3, 1) := by decide +kernel
theorem dX7_share_16 : decode cX7_share 16 = .ok (.iload_n 3, 1) := by decide +kernel
theorem dX7_share_17 : decode cX7_share 17 = .ok (.ifCond .le 9, 3) := by decide +kernel
theorem dX7_share_20 : decode cX7_share 20 = .ok (.aload_n 0, 1) := by decide +kernel
theorem dX7_share_21 : decode cX7_share 21 = .ok (.iload_n 3, 1) := by decide +kernel
theorem dX7_share_22 : decode cX7_share 22 = .ok (.invokevirtual 76, 3) := by decide +kernel
theorem dX7_share_25 : decode cX7_share 25 = .ok (.ireturn, 1) := by decide +kernel
theorem dX7_share_26 : decode cX7_share 26 = .ok (.aload_n 0, 1) := by decide +kernel
theorem dX7_share_27 : decode cX7_share 27 = .ok (.iload_n 1, 1) := by decide +kernel
theorem dX7_share_28 : decode cX7_share 28 = .ok (.iconst (-1), 1) := by decide +kernel
theorem dX7_share_29 : decode cX7_share 29 = .ok (.invokevirtual 322, 3) := by decide +kernel
theorem dX7_share_32 : decode cX7_share 32 = .ok (.aload_n 0, 1) := by decide +kernel
theorem dX7_share_33 : decode cX7_share 33 = .ok (.aload_n 0, 1) := by decide +kernel
theorem dX7_share_34 : decode cX7_share 34 = .ok (.getfield 60, 3) := by decide +kernel
theorem dX7_share_37 : decode cX7_share 37 = .ok (.iload_n 2, 1) := by decide +kernel
theorem dX7_share_38 : decode cX7_share 38 = .ok (.iaload, 1) := by decide +kernel
theorem dX7_share_39 : decode cX7_share 39 = .ok (.invokevirtual 238, 3) := by decide +kernel
theorem dX7_share_42 : decode cX7_share 42 = .ok (.ireturn, 1) := by decide +kernel
theorem dX7_worthAt_0 : decode cX7_worthAt 0 = .ok (.aload_n 0, 1) := by decide +kernel
theorem dX7_worthAt_1 : decode cX7_worthAt 1 = .ok (.getfield 44, 3) := by decide +kernel
theorem dX7_worthAt_4 : decode cX7_worthAt 4 = .ok (.bipush 30, 2) := by decide +kernel
theorem dX7_worthAt_6 : decode cX7_worthAt 6 = .ok (.iload_n 1, 1) := by decide +kernel
theorem dX7_worthAt_7 : decode cX7_worthAt 7 = .ok (.iadd, 1) := by decide +kernel
theorem dX7_worthAt_8 : decode cX7_worthAt 8 = .ok (.iaload, 1) := by decide +kernel
theorem dX7_worthAt_9 : decode cX7_worthAt 9 = .ok (.istore_n 3, 1) := by decide +kernel
theorem dX7_worthAt_10 : decode cX7_worthAt 10 = .ok (.aload_n 0, 1) := by decide +kernel
theorem dX7_worthAt_11 : decode cX7_worthAt 11 = .ok (.iload_n 1, 1) := by decide +kernel
theorem dX7_worthAt_12 : decode cX7_worthAt 12 = .ok (.iconst 0, 1) := by decide +kernel
theorem dX7_worthAt_13 : decode cX7_worthAt 13 = .ok (.invokevirtual 261, 3) := by decide +kernel
theorem dX7_worthAt_16 : decode cX7_worthAt 16 = .ok (.iconst 2, 1) := by decide +kernel
theorem dX7_worthAt_17 : decode cX7_worthAt 17 = .ok (.if_icmp .ne 7, 3) := by decide +kernel
theorem dX7_worthAt_20 : decode cX7_worthAt 20 = .ok (.iconst 0, 1) := by decide +kernel
theorem dX7_worthAt_21 : decode cX7_worthAt 21 = .ok (.goto 31, 3) := by decide +kernel
theorem dX7_worthAt_24 : decode cX7_worthAt 24 = .ok (.aload_n 0, 1) := by decide +kernel
theorem dX7_worthAt_25 : decode cX7_worthAt 25 = .ok (.iload_n 1, 1) := by decide +kernel
theorem dX7_worthAt_26 : decode cX7_worthAt 26 = .ok (.iconst 0, 1) := by decide +kernel
theorem dX7_worthAt_27 : decode cX7_worthAt 27 = .ok (.invokevirtual 261, 3) := by decide +kernel
theorem dX7_worthAt_30 : decode cX7_worthAt 30 = .ok (.iconst 1, 1) := by decide +kernel
theorem dX7_worthAt_31 : decode cX7_worthAt 31 = .ok (.if_icmp .ne 20, 3) := by decide +kernel
theorem dX7_worthAt_34 : decode cX7_worthAt 34 = .ok (.iload_n 3, 1) := by decide +kernel
theorem dX7_worthAt_35 : decode cX7_worthAt 35 = .ok (.iconst 2, 1) := by decide +kernel
theorem dX7_worthAt_36 : decode cX7_worthAt 36 = .ok (.invokestatic 273, 3) := by decide +kernel
theorem dX7_worthAt_39 : decode cX7_worthAt 39 = .ok (.iload_n 3, 1) := by decide +kernel
theorem dX7_worthAt_40 : decode cX7_worthAt 40 = .ok (.if_icmp .ge 11, 3) := by decide +kernel
theorem dX7_worthAt_43 : decode cX7_worthAt 43 = .ok (.iload_n 3, 1) := by decide +kernel
theorem dX7_worthAt_44 : decode cX7_worthAt 44 = .ok (.iconst 2, 1) := by decide +kernel
theorem dX7_worthAt_45 : decode cX7_worthAt 45 = .ok (.invokestatic 273, 3) := by decide +kernel
theorem dX7_worthAt_48 : decode cX7_worthAt 48 = .ok (.goto 4, 3) := by decide +kernel
theorem dX7_worthAt_51 : decode cX7_worthAt 51 = .ok (.iload_n 3, 1) := by decide +kernel
theorem dX7_worthAt_52 : decode cX7_worthAt 52 = .ok (.istore 4, 2) := by decide +kernel
theorem dX7_worthAt_54 : decode cX7_worthAt 54 = .ok (.aload_n 0, 1) := by decide +kernel
theorem dX7_worthAt_55 : decode cX7_worthAt 55 = .ok (.iload_n 1, 1) := by decide +kernel
theorem dX7_worthAt_56 : decode cX7_worthAt 56 = .ok (.iload_n 2, 1) := by decide +kernel
theorem dX7_worthAt_57 : decode cX7_worthAt 57 = .ok (.invokevirtual 264, 3) := by decide +kernel
theorem dX7_worthAt_60 : decode cX7_worthAt 60 = .ok (.iload 4, 2) := by decide +kernel
theorem dX7_worthAt_62 : decode cX7_worthAt 62 = .ok (.iadd, 1) := by decide +kernel
theorem dX7_worthAt_63 : decode cX7_worthAt 63 = .ok (.ireturn, 1) := by decide +kernel
theorem dX7_unitsWorth_0 : decode cX7_unitsWorth 0 = .ok (.iconst 0, 1) := by decide +kernel
theorem dX7_unitsWorth_1 : decode cX7_unitsWorth 1 = .ok (.istore_n 2, 1) := by decide +kernel
theorem dX7_unitsWorth_2 : decode cX7_unitsWorth 2 = .ok (.iconst 0, 1) := by decide +kernel
theorem dX7_unitsWorth_3 : decode cX7_unitsWorth 3 = .ok (.istore_n 3, 1) := by decide +kernel
theorem dX7_unitsWorth_4 : decode cX7_unitsWorth 4 = .ok (.iload_n 3, 1) := by decide +kernel
theorem dX7_unitsWorth_5 : decode cX7_unitsWorth 5 = .ok (.aload_n 0, 1) := by decide +kernel
theorem dX7_unitsWorth_6 : decode cX7_unitsWorth 6 = .ok (.getfield 235, 3) := by decide +kernel
theorem dX7_unitsWorth_9 : decode cX7_unitsWorth 9 = .ok (.if_icmp .ge 67, 3) := by decide +kernel
theorem dX7_unitsWorth_12 : decode cX7_unitsWorth 12 = .ok (.iconst 0, 1) := by decide +kernel
theorem dX7_unitsWorth_13 : decode cX7_unitsWorth 13 = .ok (.istore 4, 2) := by decide +kernel
theorem dX7_unitsWorth_15 : decode cX7_unitsWorth 15 = .ok (.iload 4, 2) := by decide +kernel
theorem dX7_unitsWorth_17 : decode cX7_unitsWorth 17 = .ok (.aload_n 0, 1) := by decide +kernel
theorem dX7_unitsWorth_18 : decode cX7_unitsWorth 18 = .ok (.iload_n 3, 1) := by decide +kernel
theorem dX7_unitsWorth_19 : decode cX7_unitsWorth 19 = .ok (.invokevirtual 255, 3) := by decide +kernel
theorem dX7_unitsWorth_22 : decode cX7_unitsWorth 22 = .ok (.if_icmp .ge 48, 3) := by decide +kernel
theorem dX7_unitsWorth_25 : decode cX7_unitsWorth 25 = .ok (.iload_n 2, 1) := by decide +kernel
theorem dX7_unitsWorth_26 : decode cX7_unitsWorth 26 = .ok (.aload_n 0, 1) := by decide +kernel
theorem dX7_unitsWorth_27 : decode cX7_unitsWorth 27 = .ok (.iload_n 3, 1) := by decide +kernel
theorem dX7_unitsWorth_28 : decode cX7_unitsWorth 28 = .ok (.iload 4, 2) := by decide +kernel
theorem dX7_unitsWorth_30 : decode cX7_unitsWorth 30 = .ok (.invokevirtual 264, 3) := by decide +kernel
theorem dX7_unitsWorth_33 : decode cX7_unitsWorth 33 = .ok (.aload_n 0, 1) := by decide +kernel
theorem dX7_unitsWorth_34 : decode cX7_unitsWorth 34 = .ok (.getfield 248, 3) := by decide +kernel
theorem dX7_unitsWorth_37 : decode cX7_unitsWorth 37 = .ok (.if_icmp .gt 24, 3) := by decide +kernel
theorem dX7_unitsWorth_40 : decode cX7_unitsWorth 40 = .ok (.aload_n 0, 1) := by decide +kernel
theorem dX7_unitsWorth_41 : decode cX7_unitsWorth 41 = .ok (.iload_n 3, 1) := by decide +kernel
theorem dX7_unitsWorth_42 : decode cX7_unitsWorth 42 = .ok (.iload 4, 2) := by decide +kernel
theorem dX7_unitsWorth_44 : decode cX7_unitsWorth 44 = .ok (.invokevirtual 326, 3) := by decide +kernel
theorem dX7_unitsWorth_47 : decode cX7_unitsWorth 47 = .ok (.iload_n 1, 1) := by decide +kernel
theorem dX7_unitsWorth_48 : decode cX7_unitsWorth 48 = .ok (.if_icmp .ne 13, 3) := by decide +kernel
theorem dX7_unitsWorth_51 : decode cX7_unitsWorth 51 = .ok (.aload_n 0, 1) := by decide +kernel
theorem dX7_unitsWorth_52 : decode cX7_unitsWorth 52 = .ok (.iload_n 3, 1) := by decide +kernel
theorem dX7_unitsWorth_53 : decode cX7_unitsWorth 53 = .ok (.iload 4, 2) := by decide +kernel
theorem dX7_unitsWorth_55 : decode cX7_unitsWorth 55 = .ok (.invokevirtual 267, 3) := by decide +kernel
theorem dX7_unitsWorth_58 : decode cX7_unitsWorth 58 = .ok (.goto 4, 3) := by decide +kernel
theorem dX7_unitsWorth_61 : decode cX7_unitsWorth 61 = .ok (.iconst 0, 1) := by decide +kernel
theorem dX7_unitsWorth_62 : decode cX7_unitsWorth 62 = .ok (.iadd, 1) := by decide +kernel
theorem dX7_unitsWorth_63 : decode cX7_unitsWorth 63 = .ok (.istore_n 2, 1) := by decide +kernel
theorem dX7_unitsWorth_64 : decode cX7_unitsWorth 64 = .ok (.iinc 4 1, 3) := by decide +kernel
theorem dX7_unitsWorth_67 : decode cX7_unitsWorth 67 = .ok (.goto (-52), 3) := by decide +kernel
theorem dX7_unitsWorth_70 : decode cX7_unitsWorth 70 = .ok (.iinc 3 1, 3) := by decide +kernel
theorem dX7_unitsWorth_73 : decode cX7_unitsWorth 73 = .ok (.goto (-69), 3) := by decide +kernel
theorem dX7_unitsWorth_76 : decode cX7_unitsWorth 76 = .ok (.iload_n 2, 1) := by decide +kernel
theorem dX7_unitsWorth_77 : decode cX7_unitsWorth 77 = .ok (.ireturn, 1) := by decide +kernel
theorem dX7_boundOf_0 : decode cX7_boundOf 0 = .ok (.iload_n 1, 1) := by decide +kernel
theorem dX7_boundOf_1 : decode cX7_boundOf 1 = .ok (.istore_n 2, 1) := by decide +kernel
theorem dX7_boundOf_2 : decode cX7_boundOf 2 = .ok (.iconst 0, 1) := by decide +kernel
theorem dX7_boundOf_3 : decode cX7_boundOf 3 = .ok (.istore_n 3, 1) := by decide +kernel
theorem dX7_boundOf_4 : decode cX7_boundOf 4 = .ok (.aload_n 0, 1) := by decide +kernel
theorem dX7_boundOf_5 : decode cX7_boundOf 5 = .ok (.ldc 80, 2) := by decide +kernel
theorem dX7_boundOf_7 : decode cX7_boundOf 7 = .ok (.putfield 329, 3) := by decide +kernel
theorem dX7_boundOf_10 : decode cX7_boundOf 10 = .ok (.bipush (-20), 2) := by decide +kernel
theorem dX7_boundOf_12 : decode cX7_boundOf 12 = .ok (.istore 4, 2) := by decide +kernel
theorem dX7_boundOf_14 : decode cX7_boundOf 14 = .ok (.iload 4, 2) := by decide +kernel
theorem dX7_boundOf_16 : decode cX7_boundOf 16 = .ok (.sipush 1019, 3) := by decide +kernel
theorem dX7_boundOf_19 : decode cX7_boundOf 19 = .ok (.if_icmp .gt 62, 3) := by decide +kernel
theorem dX7_boundOf_22 : decode cX7_boundOf 22 = .ok (.iload_n 2, 1) := by decide +kernel
theorem dX7_boundOf_23 : decode cX7_boundOf 23 = .ok (.ifCond .le 58, 3) := by decide +kernel
theorem dX7_boundOf_26 : decode cX7_boundOf 26 = .ok (.aload_n 0, 1) := by decide +kernel
theorem dX7_boundOf_27 : decode cX7_boundOf 27 = .ok (.iload 4, 2) := by decide +kernel
theorem dX7_boundOf_29 : decode cX7_boundOf 29 = .ok (.invokevirtual 332, 3) := by decide +kernel
theorem dX7_boundOf_32 : decode cX7_boundOf 32 = .ok (.istore 5, 2) := by decide +kernel
theorem dX7_boundOf_34 : decode cX7_boundOf 34 = .ok (.iload 5, 2) := by decide +kernel
theorem dX7_boundOf_36 : decode cX7_boundOf 36 = .ok (.ifCond .ne 6, 3) := by decide +kernel
theorem dX7_boundOf_39 : decode cX7_boundOf 39 = .ok (.goto 36, 3) := by decide +kernel
theorem dX7_boundOf_42 : decode cX7_boundOf 42 = .ok (.aload_n 0, 1) := by decide +kernel
theorem dX7_boundOf_43 : decode cX7_boundOf 43 = .ok (.iload 4, 2) := by decide +kernel
theorem dX7_boundOf_45 : decode cX7_boundOf 45 = .ok (.putfield 329, 3) := by decide +kernel
theorem dX7_boundOf_48 : decode cX7_boundOf 48 = .ok (.iload 5, 2) := by decide +kernel
theorem dX7_boundOf_50 : decode cX7_boundOf 50 = .ok (.iload_n 2, 1) := by decide +kernel
theorem dX7_boundOf_51 : decode cX7_boundOf 51 = .ok (.if_icmp .ge 8, 3) := by decide +kernel
theorem dX7_boundOf_54 : decode cX7_boundOf 54 = .ok (.iload 5, 2) := by decide +kernel
theorem dX7_boundOf_56 : decode cX7_boundOf 56 = .ok (.goto 4, 3) := by decide +kernel
theorem dX7_boundOf_59 : decode cX7_boundOf 59 = .ok (.iload_n 2, 1) := by decide +kernel
theorem dX7_boundOf_60 : decode cX7_boundOf 60 = .ok (.istore 6, 2) := by decide +kernel
theorem dX7_boundOf_62 : decode cX7_boundOf 62 = .ok (.iload_n 3, 1) := by decide +kernel
theorem dX7_boundOf_63 : decode cX7_boundOf 63 = .ok (.iload 6, 2) := by decide +kernel
theorem dX7_boundOf_65 : decode cX7_boundOf 65 = .ok (.iload 4, 2) := by decide +kernel
theorem dX7_boundOf_67 : decode cX7_boundOf 67 = .ok (.imul, 1) := by decide +kernel
theorem dX7_boundOf_68 : decode cX7_boundOf 68 = .ok (.iadd, 1) := by decide +kernel
theorem dX7_boundOf_69 : decode cX7_boundOf 69 = .ok (.istore_n 3, 1) := by decide +kernel
theorem dX7_boundOf_70 : decode cX7_boundOf 70 = .ok (.iload_n 2, 1) := by decide +kernel
theorem dX7_boundOf_71 : decode cX7_boundOf 71 = .ok (.iload 6, 2) := by decide +kernel
theorem dX7_boundOf_73 : decode cX7_boundOf 73 = .ok (.isub, 1) := by decide +kernel
theorem dX7_boundOf_74 : decode cX7_boundOf 74 = .ok (.istore_n 2, 1) := by decide +kernel
theorem dX7_boundOf_75 : decode cX7_boundOf 75 = .ok (.iinc 4 1, 3) := by decide +kernel
theorem dX7_boundOf_78 : decode cX7_boundOf 78 = .ok (.goto (-64), 3) := by decide +kernel
theorem dX7_boundOf_81 : decode cX7_boundOf 81 = .ok (.iload_n 3, 1) := by decide +kernel
theorem dX7_boundOf_82 : decode cX7_boundOf 82 = .ok (.ireturn, 1) := by decide +kernel
theorem dX7_bound_0 : decode cX7_bound 0 = .ok (.aload_n 0, 1) := by decide +kernel
theorem dX7_bound_1 : decode cX7_bound 1 = .ok (.iconst 0, 1) := by decide +kernel
theorem dX7_bound_2 : decode cX7_bound 2 = .ok (.putfield 70, 3) := by decide +kernel
theorem dX7_bound_5 : decode cX7_bound 5 = .ok (.aload_n 0, 1) := by decide +kernel
theorem dX7_bound_6 : decode cX7_bound 6 = .ok (.iconst 1, 1) := by decide +kernel
theorem dX7_bound_7 : decode cX7_bound 7 = .ok (.iload_n 1, 1) := by decide +kernel
theorem dX7_bound_8 : decode cX7_bound 8 = .ok (.invokevirtual 318, 3) := by decide +kernel
theorem dX7_bound_11 : decode cX7_bound 11 = .ok (.istore_n 2, 1) := by decide +kernel
theorem dX7_bound_12 : decode cX7_bound 12 = .ok (.iload_n 2, 1) := by decide +kernel
theorem dX7_bound_13 : decode cX7_bound 13 = .ok (.ifCond .le 11, 3) := by decide +kernel
theorem dX7_bound_16 : decode cX7_bound 16 = .ok (.aload_n 0, 1) := by decide +kernel
theorem dX7_bound_17 : decode cX7_bound 17 = .ok (.iload_n 2, 1) := by decide +kernel
theorem dX7_bound_18 : decode cX7_bound 18 = .ok (.invokevirtual 285, 3) := by decide +kernel
theorem dX7_bound_21 : decode cX7_bound 21 = .ok (.goto 12, 3) := by decide +kernel
theorem dX7_bound_24 : decode cX7_bound 24 = .ok (.aload_n 0, 1) := by decide +kernel
theorem dX7_bound_25 : decode cX7_bound 25 = .ok (.aload_n 0, 1) := by decide +kernel
theorem dX7_bound_26 : decode cX7_bound 26 = .ok (.iload_n 1, 1) := by decide +kernel
theorem dX7_bound_27 : decode cX7_bound 27 = .ok (.invokevirtual 335, 3) := by decide +kernel
theorem dX7_bound_30 : decode cX7_bound 30 = .ok (.invokevirtual 238, 3) := by decide +kernel
theorem dX7_bound_33 : decode cX7_bound 33 = .ok (.ireturn, 1) := by decide +kernel
theorem dX7_margin_0 : decode cX7_margin 0 = .ok (.aload_n 0, 1) := by decide +kernel
theorem dX7_margin_1 : decode cX7_margin 1 = .ok (.iconst 0, 1) := by decide +kernel
theorem dX7_margin_2 : decode cX7_margin 2 = .ok (.putfield 70, 3) := by decide +kernel
theorem dX7_margin_5 : decode cX7_margin 5 = .ok (.aload_n 0, 1) := by decide +kernel
theorem dX7_margin_6 : decode cX7_margin 6 = .ok (.iconst 1, 1) := by decide +kernel
theorem dX7_margin_7 : decode cX7_margin 7 = .ok (.iload_n 1, 1) := by decide +kernel
theorem dX7_margin_8 : decode cX7_margin 8 = .ok (.invokevirtual 318, 3) := by decide +kernel
theorem dX7_margin_11 : decode cX7_margin 11 = .ok (.istore_n 2, 1) := by decide +kernel
theorem dX7_margin_12 : decode cX7_margin 12 = .ok (.iload_n 2, 1) := by decide +kernel
theorem dX7_margin_13 : decode cX7_margin 13 = .ok (.ifCond .le 9, 3) := by decide +kernel
theorem dX7_margin_16 : decode cX7_margin 16 = .ok (.aload_n 0, 1) := by decide +kernel
theorem dX7_margin_17 : decode cX7_margin 17 = .ok (.iload_n 2, 1) := by decide +kernel
theorem dX7_margin_18 : decode cX7_margin 18 = .ok (.invokevirtual 285, 3) := by decide +kernel
theorem dX7_margin_21 : decode cX7_margin 21 = .ok (.ireturn, 1) := by decide +kernel
theorem dX7_margin_22 : decode cX7_margin 22 = .ok (.aload_n 0, 1) := by decide +kernel
theorem dX7_margin_23 : decode cX7_margin 23 = .ok (.iload_n 1, 1) := by decide +kernel
theorem dX7_margin_24 : decode cX7_margin 24 = .ok (.invokevirtual 335, 3) := by decide +kernel
theorem dX7_margin_27 : decode cX7_margin 27 = .ok (.pop, 1) := by decide +kernel
theorem dX7_margin_28 : decode cX7_margin 28 = .ok (.aload_n 0, 1) := by decide +kernel
theorem dX7_margin_29 : decode cX7_margin 29 = .ok (.aload_n 0, 1) := by decide +kernel
theorem dX7_margin_30 : decode cX7_margin 30 = .ok (.getfield 329, 3) := by decide +kernel
theorem dX7_margin_33 : decode cX7_margin 33 = .ok (.invokevirtual 238, 3) := by decide +kernel
theorem dX7_margin_36 : decode cX7_margin 36 = .ok (.ireturn, 1) := by decide +kernel
theorem dX7_gap_0 : decode cX7_gap 0 = .ok (.aload_n 0, 1) := by decide +kernel
theorem dX7_gap_1 : decode cX7_gap 1 = .ok (.iconst 0, 1) := by decide +kernel
theorem dX7_gap_2 : decode cX7_gap 2 = .ok (.putfield 70, 3) := by decide +kernel
theorem dX7_gap_5 : decode cX7_gap 5 = .ok (.aload_n 0, 1) := by decide +kernel
theorem dX7_gap_6 : decode cX7_gap 6 = .ok (.iconst 1, 1) := by decide +kernel
theorem dX7_gap_7 : decode cX7_gap 7 = .ok (.iload_n 1, 1) := by decide +kernel
theorem dX7_gap_8 : decode cX7_gap 8 = .ok (.invokevirtual 318, 3) := by decide +kernel
theorem dX7_gap_11 : decode cX7_gap 11 = .ok (.istore_n 2, 1) := by decide +kernel
theorem dX7_gap_12 : decode cX7_gap 12 = .ok (.iload_n 2, 1) := by decide +kernel
theorem dX7_gap_13 : decode cX7_gap 13 = .ok (.ifCond .le 9, 3) := by decide +kernel
theorem dX7_gap_16 : decode cX7_gap 16 = .ok (.aload_n 0, 1) := by decide +kernel
theorem dX7_gap_17 : decode cX7_gap 17 = .ok (.iload_n 2, 1) := by decide +kernel
theorem dX7_gap_18 : decode cX7_gap 18 = .ok (.invokevirtual 76, 3) := by decide +kernel
theorem dX7_gap_21 : decode cX7_gap 21 = .ok (.ireturn, 1) := by decide +kernel
theorem dX7_gap_22 : decode cX7_gap 22 = .ok (.aload_n 0, 1) := by decide +kernel
theorem dX7_gap_23 : decode cX7_gap 23 = .ok (.iload_n 1, 1) := by decide +kernel
theorem dX7_gap_24 : decode cX7_gap 24 = .ok (.iconst (-1), 1) := by decide +kernel
theorem dX7_gap_25 : decode cX7_gap 25 = .ok (.invokevirtual 322, 3) := by decide +kernel
theorem dX7_gap_28 : decode cX7_gap 28 = .ok (.aload_n 0, 1) := by decide +kernel
theorem dX7_gap_29 : decode cX7_gap 29 = .ok (.aload_n 0, 1) := by decide +kernel
theorem dX7_gap_30 : decode cX7_gap 30 = .ok (.getfield 309, 3) := by decide +kernel
theorem dX7_gap_33 : decode cX7_gap 33 = .ok (.aload_n 0, 1) := by decide +kernel
theorem dX7_gap_34 : decode cX7_gap 34 = .ok (.aload_n 0, 1) := by decide +kernel
theorem dX7_gap_35 : decode cX7_gap 35 = .ok (.getfield 305, 3) := by decide +kernel
theorem dX7_gap_38 : decode cX7_gap 38 = .ok (.invokevirtual 335, 3) := by decide +kernel
theorem dX7_gap_41 : decode cX7_gap 41 = .ok (.isub, 1) := by decide +kernel
theorem dX7_gap_42 : decode cX7_gap 42 = .ok (.invokevirtual 238, 3) := by decide +kernel

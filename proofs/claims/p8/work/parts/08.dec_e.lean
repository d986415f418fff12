theorem dX7_gap_45 : decode cX7_gap 45 = .ok (.ireturn, 1) := by decide +kernel
theorem dX7_nextCost_0 : decode cX7_nextCost 0 = .ok (.aload_n 0, 1) := by decide +kernel
theorem dX7_nextCost_1 : decode cX7_nextCost 1 = .ok (.iload_n 1, 1) := by decide +kernel
theorem dX7_nextCost_2 : decode cX7_nextCost 2 = .ok (.aload_n 0, 1) := by decide +kernel
theorem dX7_nextCost_3 : decode cX7_nextCost 3 = .ok (.getfield 63, 3) := by decide +kernel
theorem dX7_nextCost_6 : decode cX7_nextCost 6 = .ok (.iload_n 1, 1) := by decide +kernel
theorem dX7_nextCost_7 : decode cX7_nextCost 7 = .ok (.iaload, 1) := by decide +kernel
theorem dX7_nextCost_8 : decode cX7_nextCost 8 = .ok (.aload_n 0, 1) := by decide +kernel
theorem dX7_nextCost_9 : decode cX7_nextCost 9 = .ok (.iload_n 1, 1) := by decide +kernel
theorem dX7_nextCost_10 : decode cX7_nextCost 10 = .ok (.invokevirtual 288, 3) := by decide +kernel
theorem dX7_nextCost_13 : decode cX7_nextCost 13 = .ok (.iadd, 1) := by decide +kernel
theorem dX7_nextCost_14 : decode cX7_nextCost 14 = .ok (.invokevirtual 297, 3) := by decide +kernel
theorem dX7_nextCost_17 : decode cX7_nextCost 17 = .ok (.aload_n 0, 1) := by decide +kernel
theorem dX7_nextCost_18 : decode cX7_nextCost 18 = .ok (.iload_n 1, 1) := by decide +kernel
theorem dX7_nextCost_19 : decode cX7_nextCost 19 = .ok (.aload_n 0, 1) := by decide +kernel
theorem dX7_nextCost_20 : decode cX7_nextCost 20 = .ok (.getfield 63, 3) := by decide +kernel
theorem dX7_nextCost_23 : decode cX7_nextCost 23 = .ok (.iload_n 1, 1) := by decide +kernel
theorem dX7_nextCost_24 : decode cX7_nextCost 24 = .ok (.iaload, 1) := by decide +kernel
theorem dX7_nextCost_25 : decode cX7_nextCost 25 = .ok (.invokevirtual 297, 3) := by decide +kernel
theorem dX7_nextCost_28 : decode cX7_nextCost 28 = .ok (.isub, 1) := by decide +kernel
theorem dX7_nextCost_29 : decode cX7_nextCost 29 = .ok (.ireturn, 1) := by decide +kernel
theorem dX7_nextGreedy_0 : decode cX7_nextGreedy 0 = .ok (.iconst (-1), 1) := by decide +kernel
theorem dX7_nextGreedy_1 : decode cX7_nextGreedy 1 = .ok (.istore_n 2, 1) := by decide +kernel
theorem dX7_nextGreedy_2 : decode cX7_nextGreedy 2 = .ok (.iconst 0, 1) := by decide +kernel
theorem dX7_nextGreedy_3 : decode cX7_nextGreedy 3 = .ok (.istore_n 3, 1) := by decide +kernel
theorem dX7_nextGreedy_4 : decode cX7_nextGreedy 4 = .ok (.iload_n 3, 1) := by decide +kernel
theorem dX7_nextGreedy_5 : decode cX7_nextGreedy 5 = .ok (.aload_n 0, 1) := by decide +kernel
theorem dX7_nextGreedy_6 : decode cX7_nextGreedy 6 = .ok (.getfield 235, 3) := by decide +kernel
theorem dX7_nextGreedy_9 : decode cX7_nextGreedy 9 = .ok (.if_icmp .ge 73, 3) := by decide +kernel
theorem dX7_nextGreedy_12 : decode cX7_nextGreedy 12 = .ok (.aload_n 0, 1) := by decide +kernel
theorem dX7_nextGreedy_13 : decode cX7_nextGreedy 13 = .ok (.iload_n 3, 1) := by decide +kernel
theorem dX7_nextGreedy_14 : decode cX7_nextGreedy 14 = .ok (.invokevirtual 288, 3) := by decide +kernel
theorem dX7_nextGreedy_17 : decode cX7_nextGreedy 17 = .ok (.iload_n 1, 1) := by decide +kernel
theorem dX7_nextGreedy_18 : decode cX7_nextGreedy 18 = .ok (.if_icmp .gt 58, 3) := by decide +kernel
theorem dX7_nextGreedy_21 : decode cX7_nextGreedy 21 = .ok (.aload_n 0, 1) := by decide +kernel
theorem dX7_nextGreedy_22 : decode cX7_nextGreedy 22 = .ok (.getfield 63, 3) := by decide +kernel
theorem dX7_nextGreedy_25 : decode cX7_nextGreedy 25 = .ok (.iload_n 3, 1) := by decide +kernel
theorem dX7_nextGreedy_26 : decode cX7_nextGreedy 26 = .ok (.iaload, 1) := by decide +kernel
theorem dX7_nextGreedy_27 : decode cX7_nextGreedy 27 = .ok (.aload_n 0, 1) := by decide +kernel
theorem dX7_nextGreedy_28 : decode cX7_nextGreedy 28 = .ok (.iload_n 3, 1) := by decide +kernel
theorem dX7_nextGreedy_29 : decode cX7_nextGreedy 29 = .ok (.invokevirtual 288, 3) := by decide +kernel
theorem dX7_nextGreedy_32 : decode cX7_nextGreedy 32 = .ok (.iadd, 1) := by decide +kernel
theorem dX7_nextGreedy_33 : decode cX7_nextGreedy 33 = .ok (.aload_n 0, 1) := by decide +kernel
theorem dX7_nextGreedy_34 : decode cX7_nextGreedy 34 = .ok (.iload_n 3, 1) := by decide +kernel
theorem dX7_nextGreedy_35 : decode cX7_nextGreedy 35 = .ok (.invokevirtual 290, 3) := by decide +kernel
theorem dX7_nextGreedy_38 : decode cX7_nextGreedy 38 = .ok (.if_icmp .le 6, 3) := by decide +kernel
theorem dX7_nextGreedy_41 : decode cX7_nextGreedy 41 = .ok (.goto 35, 3) := by decide +kernel
theorem dX7_nextGreedy_44 : decode cX7_nextGreedy 44 = .ok (.iload_n 2, 1) := by decide +kernel
theorem dX7_nextGreedy_45 : decode cX7_nextGreedy 45 = .ok (.iconst (-1), 1) := by decide +kernel
theorem dX7_nextGreedy_46 : decode cX7_nextGreedy 46 = .ok (.if_icmp .eq 28, 3) := by decide +kernel
theorem dX7_nextGreedy_49 : decode cX7_nextGreedy 49 = .ok (.aload_n 0, 1) := by decide +kernel
theorem dX7_nextGreedy_50 : decode cX7_nextGreedy 50 = .ok (.iload_n 3, 1) := by decide +kernel
theorem dX7_nextGreedy_51 : decode cX7_nextGreedy 51 = .ok (.invokevirtual 338, 3) := by decide +kernel
theorem dX7_nextGreedy_54 : decode cX7_nextGreedy 54 = .ok (.aload_n 0, 1) := by decide +kernel
theorem dX7_nextGreedy_55 : decode cX7_nextGreedy 55 = .ok (.iload_n 2, 1) := by decide +kernel
theorem dX7_nextGreedy_56 : decode cX7_nextGreedy 56 = .ok (.invokevirtual 288, 3) := by decide +kernel
theorem dX7_nextGreedy_59 : decode cX7_nextGreedy 59 = .ok (.imul, 1) := by decide +kernel
theorem dX7_nextGreedy_60 : decode cX7_nextGreedy 60 = .ok (.aload_n 0, 1) := by decide +kernel
theorem dX7_nextGreedy_61 : decode cX7_nextGreedy 61 = .ok (.iload_n 2, 1) := by decide +kernel
theorem dX7_nextGreedy_62 : decode cX7_nextGreedy 62 = .ok (.invokevirtual 338, 3) := by decide +kernel
theorem dX7_nextGreedy_65 : decode cX7_nextGreedy 65 = .ok (.aload_n 0, 1) := by decide +kernel
theorem dX7_nextGreedy_66 : decode cX7_nextGreedy 66 = .ok (.iload_n 3, 1) := by decide +kernel
theorem dX7_nextGreedy_67 : decode cX7_nextGreedy 67 = .ok (.invokevirtual 288, 3) := by decide +kernel
theorem dX7_nextGreedy_70 : decode cX7_nextGreedy 70 = .ok (.imul, 1) := by decide +kernel
theorem dX7_nextGreedy_71 : decode cX7_nextGreedy 71 = .ok (.if_icmp .ge 5, 3) := by decide +kernel
theorem dX7_nextGreedy_74 : decode cX7_nextGreedy 74 = .ok (.iload_n 3, 1) := by decide +kernel
theorem dX7_nextGreedy_75 : decode cX7_nextGreedy 75 = .ok (.istore_n 2, 1) := by decide +kernel
theorem dX7_nextGreedy_76 : decode cX7_nextGreedy 76 = .ok (.iinc 3 1, 3) := by decide +kernel
theorem dX7_nextGreedy_79 : decode cX7_nextGreedy 79 = .ok (.goto (-75), 3) := by decide +kernel
theorem dX7_nextGreedy_82 : decode cX7_nextGreedy 82 = .ok (.iload_n 2, 1) := by decide +kernel
theorem dX7_nextGreedy_83 : decode cX7_nextGreedy 83 = .ok (.ireturn, 1) := by decide +kernel
theorem dX7_greedy_0 : decode cX7_greedy 0 = .ok (.aload_n 0, 1) := by decide +kernel
theorem dX7_greedy_1 : decode cX7_greedy 1 = .ok (.iconst 0, 1) := by decide +kernel
theorem dX7_greedy_2 : decode cX7_greedy 2 = .ok (.putfield 70, 3) := by decide +kernel
theorem dX7_greedy_5 : decode cX7_greedy 5 = .ok (.aload_n 0, 1) := by decide +kernel
theorem dX7_greedy_6 : decode cX7_greedy 6 = .ok (.iload_n 2, 1) := by decide +kernel
theorem dX7_greedy_7 : decode cX7_greedy 7 = .ok (.iconst 0, 1) := by decide +kernel
theorem dX7_greedy_8 : decode cX7_greedy 8 = .ok (.iconst 2, 1) := by decide +kernel
theorem dX7_greedy_9 : decode cX7_greedy 9 = .ok (.invokestatic 99, 3) := by decide +kernel
theorem dX7_greedy_12 : decode cX7_greedy 12 = .ok (.iload_n 1, 1) := by decide +kernel
theorem dX7_greedy_13 : decode cX7_greedy 13 = .ok (.invokevirtual 318, 3) := by decide +kernel
theorem dX7_greedy_16 : decode cX7_greedy 16 = .ok (.istore_n 3, 1) := by decide +kernel
theorem dX7_greedy_17 : decode cX7_greedy 17 = .ok (.iload_n 3, 1) := by decide +kernel
theorem dX7_greedy_18 : decode cX7_greedy 18 = .ok (.ifCond .le 9, 3) := by decide +kernel
theorem dX7_greedy_21 : decode cX7_greedy 21 = .ok (.aload_n 0, 1) := by decide +kernel
theorem dX7_greedy_22 : decode cX7_greedy 22 = .ok (.iload_n 3, 1) := by decide +kernel
theorem dX7_greedy_23 : decode cX7_greedy 23 = .ok (.invokevirtual 285, 3) := by decide +kernel
theorem dX7_greedy_26 : decode cX7_greedy 26 = .ok (.ireturn, 1) := by decide +kernel
theorem dX7_greedy_27 : decode cX7_greedy 27 = .ok (.iconst 0, 1) := by decide +kernel
theorem dX7_greedy_28 : decode cX7_greedy 28 = .ok (.istore 4, 2) := by decide +kernel
theorem dX7_greedy_30 : decode cX7_greedy 30 = .ok (.iload 4, 2) := by decide +kernel
theorem dX7_greedy_32 : decode cX7_greedy 32 = .ok (.iconst 5, 1) := by decide +kernel
theorem dX7_greedy_33 : decode cX7_greedy 33 = .ok (.if_icmp .ge 17, 3) := by decide +kernel
theorem dX7_greedy_36 : decode cX7_greedy 36 = .ok (.aload_n 0, 1) := by decide +kernel
theorem dX7_greedy_37 : decode cX7_greedy 37 = .ok (.getfield 63, 3) := by decide +kernel
theorem dX7_greedy_40 : decode cX7_greedy 40 = .ok (.iload 4, 2) := by decide +kernel
theorem dX7_greedy_42 : decode cX7_greedy 42 = .ok (.iconst 0, 1) := by decide +kernel
theorem dX7_greedy_43 : decode cX7_greedy 43 = .ok (.iastore, 1) := by decide +kernel
theorem dX7_greedy_44 : decode cX7_greedy 44 = .ok (.iinc 4 1, 3) := by decide +kernel
theorem dX7_greedy_47 : decode cX7_greedy 47 = .ok (.goto (-17), 3) := by decide +kernel
theorem dX7_greedy_50 : decode cX7_greedy 50 = .ok (.iload_n 1, 1) := by decide +kernel
theorem dX7_greedy_51 : decode cX7_greedy 51 = .ok (.istore 4, 2) := by decide +kernel
theorem dX7_greedy_53 : decode cX7_greedy 53 = .ok (.aload_n 0, 1) := by decide +kernel
theorem dX7_greedy_54 : decode cX7_greedy 54 = .ok (.iload 4, 2) := by decide +kernel
theorem dX7_greedy_56 : decode cX7_greedy 56 = .ok (.invokevirtual 341, 3) := by decide +kernel
theorem dX7_greedy_59 : decode cX7_greedy 59 = .ok (.istore 5, 2) := by decide +kernel
theorem dX7_greedy_61 : decode cX7_greedy 61 = .ok (.iload 5, 2) := by decide +kernel
theorem dX7_greedy_63 : decode cX7_greedy 63 = .ok (.iconst (-1), 1) := by decide +kernel
theorem dX7_greedy_64 : decode cX7_greedy 64 = .ok (.if_icmp .eq 41, 3) := by decide +kernel
theorem dX7_greedy_67 : decode cX7_greedy 67 = .ok (.aload_n 0, 1) := by decide +kernel
theorem dX7_greedy_68 : decode cX7_greedy 68 = .ok (.getfield 63, 3) := by decide +kernel
theorem dX7_greedy_71 : decode cX7_greedy 71 = .ok (.iload 5, 2) := by decide +kernel
theorem dX7_greedy_73 : decode cX7_greedy 73 = .ok (.dup2, 1) := by decide +kernel
theorem dX7_greedy_74 : decode cX7_greedy 74 = .ok (.iaload, 1) := by decide +kernel
theorem dX7_greedy_75 : decode cX7_greedy 75 = .ok (.aload_n 0, 1) := by decide +kernel
theorem dX7_greedy_76 : decode cX7_greedy 76 = .ok (.iload 5, 2) := by decide +kernel
theorem dX7_greedy_78 : decode cX7_greedy 78 = .ok (.invokevirtual 288, 3) := by decide +kernel
theorem dX7_greedy_81 : decode cX7_greedy 81 = .ok (.iadd, 1) := by decide +kernel
theorem dX7_greedy_82 : decode cX7_greedy 82 = .ok (.iastore, 1) := by decide +kernel
theorem dX7_greedy_83 : decode cX7_greedy 83 = .ok (.iload 4, 2) := by decide +kernel
theorem dX7_greedy_85 : decode cX7_greedy 85 = .ok (.aload_n 0, 1) := by decide +kernel
theorem dX7_greedy_86 : decode cX7_greedy 86 = .ok (.iload 5, 2) := by decide +kernel
theorem dX7_greedy_88 : decode cX7_greedy 88 = .ok (.invokevirtual 288, 3) := by decide +kernel
theorem dX7_greedy_91 : decode cX7_greedy 91 = .ok (.isub, 1) := by decide +kernel
theorem dX7_greedy_92 : decode cX7_greedy 92 = .ok (.istore 4, 2) := by decide +kernel
theorem dX7_greedy_94 : decode cX7_greedy 94 = .ok (.aload_n 0, 1) := by decide +kernel
theorem dX7_greedy_95 : decode cX7_greedy 95 = .ok (.iload 4, 2) := by decide +kernel
theorem dX7_greedy_97 : decode cX7_greedy 97 = .ok (.invokevirtual 341, 3) := by decide +kernel
theorem dX7_greedy_100 : decode cX7_greedy 100 = .ok (.istore 5, 2) := by decide +kernel
theorem dX7_greedy_102 : decode cX7_greedy 102 = .ok (.goto (-41), 3) := by decide +kernel
theorem dX7_greedy_105 : decode cX7_greedy 105 = .ok (.iconst 0, 1) := by decide +kernel
theorem dX7_greedy_106 : decode cX7_greedy 106 = .ok (.istore 5, 2) := by decide +kernel
theorem dX7_greedy_108 : decode cX7_greedy 108 = .ok (.iconst 0, 1) := by decide +kernel
theorem dX7_greedy_109 : decode cX7_greedy 109 = .ok (.istore 6, 2) := by decide +kernel
theorem dX7_greedy_111 : decode cX7_greedy 111 = .ok (.iconst 0, 1) := by decide +kernel
theorem dX7_greedy_112 : decode cX7_greedy 112 = .ok (.istore 7, 2) := by decide +kernel
theorem dX7_greedy_114 : decode cX7_greedy 114 = .ok (.iload 7, 2) := by decide +kernel
theorem dX7_greedy_116 : decode cX7_greedy 116 = .ok (.aload_n 0, 1) := by decide +kernel
theorem dX7_greedy_117 : decode cX7_greedy 117 = .ok (.getfield 235, 3) := by decide +kernel
theorem dX7_greedy_120 : decode cX7_greedy 120 = .ok (.if_icmp .ge 46, 3) := by decide +kernel
theorem dX7_greedy_123 : decode cX7_greedy 123 = .ok (.iload 5, 2) := by decide +kernel
theorem dX7_greedy_125 : decode cX7_greedy 125 = .ok (.aload_n 0, 1) := by decide +kernel
theorem dX7_greedy_126 : decode cX7_greedy 126 = .ok (.iload 7, 2) := by decide +kernel
theorem dX7_greedy_128 : decode cX7_greedy 128 = .ok (.aload_n 0, 1) := by decide +kernel
theorem dX7_greedy_129 : decode cX7_greedy 129 = .ok (.getfield 63, 3) := by decide +kernel
theorem dX7_greedy_132 : decode cX7_greedy 132 = .ok (.iload 7, 2) := by decide +kernel
theorem dX7_greedy_134 : decode cX7_greedy 134 = .ok (.iaload, 1) := by decide +kernel
theorem dX7_greedy_135 : decode cX7_greedy 135 = .ok (.invokevirtual 297, 3) := by decide +kernel
theorem dX7_greedy_138 : decode cX7_greedy 138 = .ok (.iadd, 1) := by decide +kernel
theorem dX7_greedy_139 : decode cX7_greedy 139 = .ok (.istore 5, 2) := by decide +kernel
theorem dX7_greedy_141 : decode cX7_greedy 141 = .ok (.aload_n 0, 1) := by decide +kernel
theorem dX7_greedy_142 : decode cX7_greedy 142 = .ok (.getfield 63, 3) := by decide +kernel
theorem dX7_greedy_145 : decode cX7_greedy 145 = .ok (.iload 7, 2) := by decide +kernel
theorem dX7_greedy_147 : decode cX7_greedy 147 = .ok (.iaload, 1) := by decide +kernel
theorem dX7_greedy_148 : decode cX7_greedy 148 = .ok (.ifCond .le 12, 3) := by decide +kernel
theorem dX7_greedy_151 : decode cX7_greedy 151 = .ok (.iload 6, 2) := by decide +kernel
theorem dX7_greedy_153 : decode cX7_greedy 153 = .ok (.iconst 1, 1) := by decide +kernel
theorem dX7_greedy_154 : decode cX7_greedy 154 = .ok (.iload 7, 2) := by decide +kernel
theorem dX7_greedy_156 : decode cX7_greedy 156 = .ok (.ishl, 1) := by decide +kernel
theorem dX7_greedy_157 : decode cX7_greedy 157 = .ok (.ior, 1) := by decide +kernel
theorem dX7_greedy_158 : decode cX7_greedy 158 = .ok (.istore 6, 2) := by decide +kernel
theorem dX7_greedy_160 : decode cX7_greedy 160 = .ok (.iinc 7 1, 3) := by decide +kernel
theorem dX7_greedy_163 : decode cX7_greedy 163 = .ok (.goto (-49), 3) := by decide +kernel
theorem dX7_greedy_166 : decode cX7_greedy 166 = .ok (.aload_n 0, 1) := by decide +kernel
theorem dX7_greedy_167 : decode cX7_greedy 167 = .ok (.iload_n 2, 1) := by decide +kernel
theorem dX7_greedy_168 : decode cX7_greedy 168 = .ok (.ifCond .ne 8, 3) := by decide +kernel
theorem dX7_greedy_171 : decode cX7_greedy 171 = .ok (.iload 5, 2) := by decide +kernel
theorem dX7_greedy_173 : decode cX7_greedy 173 = .ok (.goto 17, 3) := by decide +kernel
theorem dX7_greedy_176 : decode cX7_greedy 176 = .ok (.iload_n 2, 1) := by decide +kernel
theorem dX7_greedy_177 : decode cX7_greedy 177 = .ok (.iconst 1, 1) := by decide +kernel
theorem dX7_greedy_178 : decode cX7_greedy 178 = .ok (.if_icmp .ne 10, 3) := by decide +kernel
theorem dX7_greedy_181 : decode cX7_greedy 181 = .ok (.iload_n 1, 1) := by decide +kernel
theorem dX7_greedy_182 : decode cX7_greedy 182 = .ok (.iload 4, 2) := by decide +kernel
theorem dX7_greedy_184 : decode cX7_greedy 184 = .ok (.isub, 1) := by decide +kernel
theorem dX7_greedy_185 : decode cX7_greedy 185 = .ok (.goto 5, 3) := by decide +kernel
theorem dX7_greedy_188 : decode cX7_greedy 188 = .ok (.iload 6, 2) := by decide +kernel
theorem dX7_greedy_190 : decode cX7_greedy 190 = .ok (.invokevirtual 238, 3) := by decide +kernel
theorem dX7_greedy_193 : decode cX7_greedy 193 = .ok (.ireturn, 1) := by decide +kernel
theorem dX7_worth_0 : decode cX7_worth 0 = .ok (.aload_n 0, 1) := by decide +kernel
theorem dX7_worth_1 : decode cX7_worth 1 = .ok (.iconst 0, 1) := by decide +kernel
theorem dX7_worth_2 : decode cX7_worth 2 = .ok (.putfield 70, 3) := by decide +kernel
theorem dX7_worth_5 : decode cX7_worth 5 = .ok (.aload_n 0, 1) := by decide +kernel
theorem dX7_worth_6 : decode cX7_worth 6 = .ok (.aload_n 0, 1) := by decide +kernel
theorem dX7_worth_7 : decode cX7_worth 7 = .ok (.iload_n 2, 1) := by decide +kernel
theorem dX7_worth_8 : decode cX7_worth 8 = .ok (.invokevirtual 282, 3) := by decide +kernel
theorem dX7_worth_11 : decode cX7_worth 11 = .ok (.iload_n 1, 1) := by decide +kernel
theorem dX7_worth_12 : decode cX7_worth 12 = .ok (.invokevirtual 318, 3) := by decide +kernel
theorem dX7_worth_15 : decode cX7_worth 15 = .ok (.istore_n 3, 1) := by decide +kernel
theorem dX7_worth_16 : decode cX7_worth 16 = .ok (.iload_n 3, 1) := by decide +kernel
theorem dX7_worth_17 : decode cX7_worth 17 = .ok (.ifCond .le 9, 3) := by decide +kernel
theorem dX7_worth_20 : decode cX7_worth 20 = .ok (.aload_n 0, 1) := by decide +kernel
theorem dX7_worth_21 : decode cX7_worth 21 = .ok (.iload_n 3, 1) := by decide +kernel
theorem dX7_worth_22 : decode cX7_worth 22 = .ok (.invokevirtual 76, 3) := by decide +kernel
theorem dX7_worth_25 : decode cX7_worth 25 = .ok (.ireturn, 1) := by decide +kernel
theorem dX7_worth_26 : decode cX7_worth 26 = .ok (.aload_n 0, 1) := by decide +kernel
theorem dX7_worth_27 : decode cX7_worth 27 = .ok (.iload_n 1, 1) := by decide +kernel
theorem dX7_worth_28 : decode cX7_worth 28 = .ok (.iconst (-1), 1) := by decide +kernel
theorem dX7_worth_29 : decode cX7_worth 29 = .ok (.invokevirtual 322, 3) := by decide +kernel
theorem dX7_worth_32 : decode cX7_worth 32 = .ok (.aload_n 0, 1) := by decide +kernel
theorem dX7_worth_33 : decode cX7_worth 33 = .ok (.getfield 305, 3) := by decide +kernel
theorem dX7_worth_36 : decode cX7_worth 36 = .ok (.istore 4, 2) := by decide +kernel
theorem dX7_worth_38 : decode cX7_worth 38 = .ok (.aload_n 0, 1) := by decide +kernel
theorem dX7_worth_39 : decode cX7_worth 39 = .ok (.getfield 309, 3) := by decide +kernel
theorem dX7_worth_42 : decode cX7_worth 42 = .ok (.istore 5, 2) := by decide +kernel
theorem dX7_worth_44 : decode cX7_worth 44 = .ok (.aload_n 0, 1) := by decide +kernel
theorem dX7_worth_45 : decode cX7_worth 45 = .ok (.iload_n 1, 1) := by decide +kernel
theorem dX7_worth_46 : decode cX7_worth 46 = .ok (.iload_n 2, 1) := by decide +kernel
theorem dX7_worth_47 : decode cX7_worth 47 = .ok (.invokevirtual 322, 3) := by decide +kernel
theorem dX7_worth_50 : decode cX7_worth 50 = .ok (.aload_n 0, 1) := by decide +kernel
theorem dX7_worth_51 : decode cX7_worth 51 = .ok (.aload_n 0, 1) := by decide +kernel
theorem dX7_worth_52 : decode cX7_worth 52 = .ok (.getfield 305, 3) := by decide +kernel
theorem dX7_worth_55 : decode cX7_worth 55 = .ok (.iload 4, 2) := by decide +kernel
theorem dX7_worth_57 : decode cX7_worth 57 = .ok (.if_icmp .ge 8, 3) := by decide +kernel
theorem dX7_worth_60 : decode cX7_worth 60 = .ok (.bipush (-2), 2) := by decide +kernel
theorem dX7_worth_62 : decode cX7_worth 62 = .ok (.goto 10, 3) := by decide +kernel
theorem dX7_worth_65 : decode cX7_worth 65 = .ok (.aload_n 0, 1) := by decide +kernel
theorem dX7_worth_66 : decode cX7_worth 66 = .ok (.getfield 309, 3) := by decide +kernel
theorem dX7_worth_69 : decode cX7_worth 69 = .ok (.iload 5, 2) := by decide +kernel
theorem dX7_worth_71 : decode cX7_worth 71 = .ok (.isub, 1) := by decide +kernel
theorem dX7_worth_72 : decode cX7_worth 72 = .ok (.invokevirtual 238, 3) := by decide +kernel
theorem dX7_worth_75 : decode cX7_worth 75 = .ok (.ireturn, 1) := by decide +kernel
theorem dX7_mostOf_0 : decode cX7_mostOf 0 = .ok (.iconst 0, 1) := by decide +kernel
theorem dX7_mostOf_1 : decode cX7_mostOf 1 = .ok (.istore_n 3, 1) := by decide +kernel
theorem dX7_mostOf_2 : decode cX7_mostOf 2 = .ok (.iload_n 3, 1) := by decide +kernel
theorem dX7_mostOf_3 : decode cX7_mostOf 3 = .ok (.bipush 120, 2) := by decide +kernel
theorem dX7_mostOf_5 : decode cX7_mostOf 5 = .ok (.if_icmp .gt 24, 3) := by decide +kernel
theorem dX7_mostOf_8 : decode cX7_mostOf 8 = .ok (.aload_n 0, 1) := by decide +kernel
theorem dX7_mostOf_9 : decode cX7_mostOf 9 = .ok (.getfield 66, 3) := by decide +kernel
theorem dX7_mostOf_12 : decode cX7_mostOf 12 = .ok (.iload_n 3, 1) := by decide +kernel
theorem dX7_mostOf_13 : decode cX7_mostOf 13 = .ok (.iload_n 3, 1) := by decide +kernel
theorem dX7_mostOf_14 : decode cX7_mostOf 14 = .ok (.ifCond .ne 7, 3) := by decide +kernel
theorem dX7_mostOf_17 : decode cX7_mostOf 17 = .ok (.iconst 1, 1) := by decide +kernel
theorem dX7_mostOf_18 : decode cX7_mostOf 18 = .ok (.goto 4, 3) := by decide +kernel
theorem dX7_mostOf_21 : decode cX7_mostOf 21 = .ok (.iconst 0, 1) := by decide +kernel
theorem dX7_mostOf_22 : decode cX7_mostOf 22 = .ok (.bastore, 1) := by decide +kernel
theorem dX7_mostOf_23 : decode cX7_mostOf 23 = .ok (.iinc 3 1, 3) := by decide +kernel
theorem dX7_mostOf_26 : decode cX7_mostOf 26 = .ok (.goto (-24), 3) := by decide +kernel
theorem dX7_mostOf_29 : decode cX7_mostOf 29 = .ok (.iconst 0, 1) := by decide +kernel
theorem dX7_mostOf_30 : decode cX7_mostOf 30 = .ok (.istore_n 3, 1) := by decide +kernel
theorem dX7_mostOf_31 : decode cX7_mostOf 31 = .ok (.iload_n 3, 1) := by decide +kernel
theorem dX7_mostOf_32 : decode cX7_mostOf 32 = .ok (.aload_n 0, 1) := by decide +kernel
theorem dX7_mostOf_33 : decode cX7_mostOf 33 = .ok (.getfield 235, 3) := by decide +kernel
theorem dX7_mostOf_36 : decode cX7_mostOf 36 = .ok (.if_icmp .ge 99, 3) := by decide +kernel
theorem dX7_mostOf_39 : decode cX7_mostOf 39 = .ok (.iload_n 1, 1) := by decide +kernel
theorem dX7_mostOf_40 : decode cX7_mostOf 40 = .ok (.iload_n 3, 1) := by decide +kernel
theorem dX7_mostOf_41 : decode cX7_mostOf 41 = .ok (.ishr, 1) := by decide +kernel
theorem dX7_mostOf_42 : decode cX7_mostOf 42 = .ok (.iconst 1, 1) := by decide +kernel
theorem dX7_mostOf_43 : decode cX7_mostOf 43 = .ok (.iand, 1) := by decide +kernel
theorem dX7_mostOf_44 : decode cX7_mostOf 44 = .ok (.ifCond .ne 6, 3) := by decide +kernel
theorem dX7_mostOf_47 : decode cX7_mostOf 47 = .ok (.goto 82, 3) := by decide +kernel
theorem dX7_mostOf_50 : decode cX7_mostOf 50 = .ok (.bipush 120, 2) := by decide +kernel
theorem dX7_mostOf_52 : decode cX7_mostOf 52 = .ok (.istore 4, 2) := by decide +kernel
theorem dX7_mostOf_54 : decode cX7_mostOf 54 = .ok (.iload 4, 2) := by decide +kernel
theorem dX7_mostOf_56 : decode cX7_mostOf 56 = .ok (.ifCond .le 73, 3) := by decide +kernel
theorem dX7_mostOf_59 : decode cX7_mostOf 59 = .ok (.aload_n 0, 1) := by decide +kernel
theorem dX7_mostOf_60 : decode cX7_mostOf 60 = .ok (.iload_n 3, 1) := by decide +kernel
theorem dX7_mostOf_61 : decode cX7_mostOf 61 = .ok (.invokevirtual 288, 3) := by decide +kernel
theorem dX7_mostOf_64 : decode cX7_mostOf 64 = .ok (.istore 5, 2) := by decide +kernel
theorem dX7_mostOf_66 : decode cX7_mostOf 66 = .ok (.iload 5, 2) := by decide +kernel
theorem dX7_mostOf_68 : decode cX7_mostOf 68 = .ok (.iload 4, 2) := by decide +kernel
theorem dX7_mostOf_70 : decode cX7_mostOf 70 = .ok (.if_icmp .gt 53, 3) := by decide +kernel
theorem dX7_mostOf_73 : decode cX7_mostOf 73 = .ok (.iload 5, 2) := by decide +kernel
theorem dX7_mostOf_75 : decode cX7_mostOf 75 = .ok (.aload_n 0, 1) := by decide +kernel
theorem dX7_mostOf_76 : decode cX7_mostOf 76 = .ok (.iload_n 3, 1) := by decide +kernel
theorem dX7_mostOf_77 : decode cX7_mostOf 77 = .ok (.invokevirtual 290, 3) := by decide +kernel
theorem dX7_mostOf_80 : decode cX7_mostOf 80 = .ok (.if_icmp .gt 43, 3) := by decide +kernel
theorem dX7_mostOf_83 : decode cX7_mostOf 83 = .ok (.aload_n 0, 1) := by decide +kernel
theorem dX7_mostOf_84 : decode cX7_mostOf 84 = .ok (.getfield 66, 3) := by decide +kernel
theorem dX7_mostOf_87 : decode cX7_mostOf 87 = .ok (.iload 4, 2) := by decide +kernel
theorem dX7_mostOf_89 : decode cX7_mostOf 89 = .ok (.baload, 1) := by decide +kernel
theorem dX7_mostOf_90 : decode cX7_mostOf 90 = .ok (.ifCond .ne 33, 3) := by decide +kernel
theorem dX7_mostOf_93 : decode cX7_mostOf 93 = .ok (.aload_n 0, 1) := by decide +kernel
theorem dX7_mostOf_94 : decode cX7_mostOf 94 = .ok (.getfield 66, 3) := by decide +kernel
theorem dX7_mostOf_97 : decode cX7_mostOf 97 = .ok (.iload 4, 2) := by decide +kernel
theorem dX7_mostOf_99 : decode cX7_mostOf 99 = .ok (.aload_n 0, 1) := by decide +kernel
theorem dX7_mostOf_100 : decode cX7_mostOf 100 = .ok (.getfield 66, 3) := by decide +kernel
theorem dX7_mostOf_103 : decode cX7_mostOf 103 = .ok (.iload 4, 2) := by decide +kernel
theorem dX7_mostOf_105 : decode cX7_mostOf 105 = .ok (.iload 5, 2) := by decide +kernel
theorem dX7_mostOf_107 : decode cX7_mostOf 107 = .ok (.isub, 1) := by decide +kernel
theorem dX7_mostOf_108 : decode cX7_mostOf 108 = .ok (.baload, 1) := by decide +kernel
theorem dX7_mostOf_109 : decode cX7_mostOf 109 = .ok (.bastore, 1) := by decide +kernel
theorem dX7_mostOf_110 : decode cX7_mostOf 110 = .ok (.iload 5, 2) := by decide +kernel
theorem dX7_mostOf_112 : decode cX7_mostOf 112 = .ok (.aload_n 0, 1) := by decide +kernel
theorem dX7_mostOf_113 : decode cX7_mostOf 113 = .ok (.iload_n 3, 1) := by decide +kernel
theorem dX7_mostOf_114 : decode cX7_mostOf 114 = .ok (.invokevirtual 288, 3) := by decide +kernel
theorem dX7_mostOf_117 : decode cX7_mostOf 117 = .ok (.iadd, 1) := by decide +kernel
theorem dX7_mostOf_118 : decode cX7_mostOf 118 = .ok (.istore 5, 2) := by decide +kernel
theorem dX7_mostOf_120 : decode cX7_mostOf 120 = .ok (.goto (-54), 3) := by decide +kernel
theorem dX7_mostOf_123 : decode cX7_mostOf 123 = .ok (.iinc 4 (-1), 3) := by decide +kernel
theorem dX7_mostOf_126 : decode cX7_mostOf 126 = .ok (.goto (-72), 3) := by decide +kernel
theorem dX7_mostOf_129 : decode cX7_mostOf 129 = .ok (.iinc 3 1, 3) := by decide +kernel
theorem dX7_mostOf_132 : decode cX7_mostOf 132 = .ok (.goto (-101), 3) := by decide +kernel
theorem dX7_mostOf_135 : decode cX7_mostOf 135 = .ok (.iload_n 2, 1) := by decide +kernel
theorem dX7_mostOf_136 : decode cX7_mostOf 136 = .ok (.istore_n 3, 1) := by decide +kernel
theorem dX7_mostOf_137 : decode cX7_mostOf 137 = .ok (.aload_n 0, 1) := by decide +kernel
theorem dX7_mostOf_138 : decode cX7_mostOf 138 = .ok (.getfield 66, 3) := by decide +kernel
theorem dX7_mostOf_141 : decode cX7_mostOf 141 = .ok (.iload_n 3, 1) := by decide +kernel
theorem dX7_mostOf_142 : decode cX7_mostOf 142 = .ok (.baload, 1) := by decide +kernel
theorem dX7_mostOf_143 : decode cX7_mostOf 143 = .ok (.ifCond .ne 9, 3) := by decide +kernel
theorem dX7_mostOf_146 : decode cX7_mostOf 146 = .ok (.iinc 3 (-1), 3) := by decide +kernel
theorem dX7_mostOf_149 : decode cX7_mostOf 149 = .ok (.goto (-12), 3) := by decide +kernel
theorem dX7_mostOf_152 : decode cX7_mostOf 152 = .ok (.iload_n 3, 1) := by decide +kernel
theorem dX7_mostOf_153 : decode cX7_mostOf 153 = .ok (.ireturn, 1) := by decide +kernel
theorem dX7_fewest_0 : decode cX7_fewest 0 = .ok (.aload_n 0, 1) := by decide +kernel
theorem dX7_fewest_1 : decode cX7_fewest 1 = .ok (.iconst 0, 1) := by decide +kernel
theorem dX7_fewest_2 : decode cX7_fewest 2 = .ok (.putfield 70, 3) := by decide +kernel
theorem dX7_fewest_5 : decode cX7_fewest 5 = .ok (.aload_n 0, 1) := by decide +kernel
theorem dX7_fewest_6 : decode cX7_fewest 6 = .ok (.iconst 1, 1) := by decide +kernel
theorem dX7_fewest_7 : decode cX7_fewest 7 = .ok (.iload_n 1, 1) := by decide +kernel
theorem dX7_fewest_8 : decode cX7_fewest 8 = .ok (.invokevirtual 318, 3) := by decide +kernel
theorem dX7_fewest_11 : decode cX7_fewest 11 = .ok (.istore_n 2, 1) := by decide +kernel
theorem dX7_fewest_12 : decode cX7_fewest 12 = .ok (.iload_n 2, 1) := by decide +kernel
theorem dX7_fewest_13 : decode cX7_fewest 13 = .ok (.ifCond .le 9, 3) := by decide +kernel
theorem dX7_fewest_16 : decode cX7_fewest 16 = .ok (.aload_n 0, 1) := by decide +kernel
theorem dX7_fewest_17 : decode cX7_fewest 17 = .ok (.iload_n 2, 1) := by decide +kernel
theorem dX7_fewest_18 : decode cX7_fewest 18 = .ok (.invokevirtual 76, 3) := by decide +kernel
theorem dX7_fewest_21 : decode cX7_fewest 21 = .ok (.ireturn, 1) := by decide +kernel
theorem dX7_fewest_22 : decode cX7_fewest 22 = .ok (.aload_n 0, 1) := by decide +kernel
theorem dX7_fewest_23 : decode cX7_fewest 23 = .ok (.iconst 1, 1) := by decide +kernel
theorem dX7_fewest_24 : decode cX7_fewest 24 = .ok (.aload_n 0, 1) := by decide +kernel
theorem dX7_fewest_25 : decode cX7_fewest 25 = .ok (.getfield 235, 3) := by decide +kernel
theorem dX7_fewest_28 : decode cX7_fewest 28 = .ok (.ishl, 1) := by decide +kernel
theorem dX7_fewest_29 : decode cX7_fewest 29 = .ok (.iconst 1, 1) := by decide +kernel
theorem dX7_fewest_30 : decode cX7_fewest 30 = .ok (.isub, 1) := by decide +kernel
theorem dX7_fewest_31 : decode cX7_fewest 31 = .ok (.iload_n 1, 1) := by decide +kernel
theorem dX7_fewest_32 : decode cX7_fewest 32 = .ok (.invokevirtual 344, 3) := by decide +kernel
theorem dX7_fewest_35 : decode cX7_fewest 35 = .ok (.istore_n 3, 1) := by decide +kernel
theorem dX7_fewest_36 : decode cX7_fewest 36 = .ok (.iconst 5, 1) := by decide +kernel
theorem dX7_fewest_37 : decode cX7_fewest 37 = .ok (.istore 4, 2) := by decide +kernel
theorem dX7_fewest_39 : decode cX7_fewest 39 = .ok (.iconst 0, 1) := by decide +kernel
theorem dX7_fewest_40 : decode cX7_fewest 40 = .ok (.istore 5, 2) := by decide +kernel
theorem dX7_fewest_42 : decode cX7_fewest 42 = .ok (.iload 5, 2) := by decide +kernel
theorem dX7_fewest_44 : decode cX7_fewest 44 = .ok (.iconst 1, 1) := by decide +kernel
theorem dX7_fewest_45 : decode cX7_fewest 45 = .ok (.aload_n 0, 1) := by decide +kernel
theorem dX7_fewest_46 : decode cX7_fewest 46 = .ok (.getfield 235, 3) := by decide +kernel
theorem dX7_fewest_49 : decode cX7_fewest 49 = .ok (.ishl, 1) := by decide +kernel
theorem dX7_fewest_50 : decode cX7_fewest 50 = .ok (.if_icmp .ge 64, 3) := by decide +kernel
theorem dX7_fewest_53 : decode cX7_fewest 53 = .ok (.iconst 0, 1) := by decide +kernel
theorem dX7_fewest_54 : decode cX7_fewest 54 = .ok (.istore 6, 2) := by decide +kernel
theorem dX7_fewest_56 : decode cX7_fewest 56 = .ok (.iconst 0, 1) := by decide +kernel
theorem dX7_fewest_57 : decode cX7_fewest 57 = .ok (.istore 7, 2) := by decide +kernel
theorem dX7_fewest_59 : decode cX7_fewest 59 = .ok (.iload 7, 2) := by decide +kernel
theorem dX7_fewest_61 : decode cX7_fewest 61 = .ok (.aload_n 0, 1) := by decide +kernel
theorem dX7_fewest_62 : decode cX7_fewest 62 = .ok (.getfield 235, 3) := by decide +kernel
theorem dX7_fewest_65 : decode cX7_fewest 65 = .ok (.if_icmp .ge 21, 3) := by decide +kernel
theorem dX7_fewest_68 : decode cX7_fewest 68 = .ok (.iload 6, 2) := by decide +kernel
theorem dX7_fewest_70 : decode cX7_fewest 70 = .ok (.iload 5, 2) := by decide +kernel
theorem dX7_fewest_72 : decode cX7_fewest 72 = .ok (.iload 7, 2) := by decide +kernel
theorem dX7_fewest_74 : decode cX7_fewest 74 = .ok (.ishr, 1) := by decide +kernel
theorem dX7_fewest_75 : decode cX7_fewest 75 = .ok (.iconst 1, 1) := by decide +kernel
theorem dX7_fewest_76 : decode cX7_fewest 76 = .ok (.iand, 1) := by decide +kernel
theorem dX7_fewest_77 : decode cX7_fewest 77 = .ok (.iadd, 1) := by decide +kernel
theorem dX7_fewest_78 : decode cX7_fewest 78 = .ok (.istore 6, 2) := by decide +kernel
theorem dX7_fewest_80 : decode cX7_fewest 80 = .ok (.iinc 7 1, 3) := by decide +kernel
theorem dX7_fewest_83 : decode cX7_fewest 83 = .ok (.goto (-24), 3) := by decide +kernel
theorem dX7_fewest_86 : decode cX7_fewest 86 = .ok (.iload 6, 2) := by decide +kernel
theorem dX7_fewest_88 : decode cX7_fewest 88 = .ok (.iload 4, 2) := by decide +kernel
theorem dX7_fewest_90 : decode cX7_fewest 90 = .ok (.if_icmp .ge 18, 3) := by decide +kernel
theorem dX7_fewest_93 : decode cX7_fewest 93 = .ok (.aload_n 0, 1) := by decide +kernel
theorem dX7_fewest_94 : decode cX7_fewest 94 = .ok (.iload 5, 2) := by decide +kernel
theorem dX7_fewest_96 : decode cX7_fewest 96 = .ok (.iload_n 1, 1) := by decide +kernel
theorem dX7_fewest_97 : decode cX7_fewest 97 = .ok (.invokevirtual 344, 3) := by decide +kernel
theorem dX7_fewest_100 : decode cX7_fewest 100 = .ok (.iload_n 3, 1) := by decide +kernel
theorem dX7_fewest_101 : decode cX7_fewest 101 = .ok (.if_icmp .ne 7, 3) := by decide +kernel
theorem dX7_fewest_104 : decode cX7_fewest 104 = .ok (.iload 6, 2) := by decide +kernel
theorem dX7_fewest_106 : decode cX7_fewest 106 = .ok (.istore 4, 2) := by decide +kernel
theorem dX7_fewest_108 : decode cX7_fewest 108 = .ok (.iinc 5 1, 3) := by decide +kernel
theorem dX7_fewest_111 : decode cX7_fewest 111 = .ok (.goto (-69), 3) := by decide +kernel
theorem dX7_fewest_114 : decode cX7_fewest 114 = .ok (.aload_n 0, 1) := by decide +kernel
theorem dX7_fewest_115 : decode cX7_fewest 115 = .ok (.iload 4, 2) := by decide +kernel
theorem dX7_fewest_117 : decode cX7_fewest 117 = .ok (.invokevirtual 238, 3) := by decide +kernel
theorem dX7_fewest_120 : decode cX7_fewest 120 = .ok (.ireturn, 1) := by decide +kernel
theorem dX7_planUnits_0 : decode cX7_planUnits 0 = .ok (.iconst 0, 1) := by decide +kernel
theorem dX7_planUnits_1 : decode cX7_planUnits 1 = .ok (.istore_n 1, 1) := by decide +kernel
theorem dX7_planUnits_2 : decode cX7_planUnits 2 = .ok (.iconst 0, 1) := by decide +kernel
theorem dX7_planUnits_3 : decode cX7_planUnits 3 = .ok (.istore_n 2, 1) := by decide +kernel
theorem dX7_planUnits_4 : decode cX7_planUnits 4 = .ok (.iload_n 2, 1) := by decide +kernel
theorem dX7_planUnits_5 : decode cX7_planUnits 5 = .ok (.aload_n 0, 1) := by decide +kernel
theorem dX7_planUnits_6 : decode cX7_planUnits 6 = .ok (.getfield 235, 3) := by decide +kernel
theorem dX7_planUnits_9 : decode cX7_planUnits 9 = .ok (.if_icmp .ge 21, 3) := by decide +kernel
theorem dX7_planUnits_12 : decode cX7_planUnits 12 = .ok (.iload_n 1, 1) := by decide +kernel
theorem dX7_planUnits_13 : decode cX7_planUnits 13 = .ok (.aload_n 0, 1) := by decide +kernel
theorem dX7_planUnits_14 : decode cX7_planUnits 14 = .ok (.getfield 44, 3) := by decide +kernel
theorem dX7_planUnits_17 : decode cX7_planUnits 17 = .ok (.bipush 43, 2) := by decide +kernel
theorem dX7_planUnits_19 : decode cX7_planUnits 19 = .ok (.iload_n 2, 1) := by decide +kernel
theorem dX7_planUnits_20 : decode cX7_planUnits 20 = .ok (.iadd, 1) := by decide +kernel
theorem dX7_planUnits_21 : decode cX7_planUnits 21 = .ok (.iaload, 1) := by decide +kernel
theorem dX7_planUnits_22 : decode cX7_planUnits 22 = .ok (.iadd, 1) := by decide +kernel
theorem dX7_planUnits_23 : decode cX7_planUnits 23 = .ok (.istore_n 1, 1) := by decide +kernel
theorem dX7_planUnits_24 : decode cX7_planUnits 24 = .ok (.iinc 2 1, 3) := by decide +kernel
theorem dX7_planUnits_27 : decode cX7_planUnits 27 = .ok (.goto (-23), 3) := by decide +kernel
theorem dX7_planUnits_30 : decode cX7_planUnits 30 = .ok (.iload_n 1, 1) := by decide +kernel
theorem dX7_planUnits_31 : decode cX7_planUnits 31 = .ok (.ireturn, 1) := by decide +kernel
theorem dX7_canHavePlan_0 : decode cX7_canHavePlan 0 = .ok (.iconst 0, 1) := by decide +kernel
theorem dX7_canHavePlan_1 : decode cX7_canHavePlan 1 = .ok (.istore_n 1, 1) := by decide +kernel
theorem dX7_canHavePlan_2 : decode cX7_canHavePlan 2 = .ok (.iload_n 1, 1) := by decide +kernel
theorem dX7_canHavePlan_3 : decode cX7_canHavePlan 3 = .ok (.aload_n 0, 1) := by decide +kernel
theorem dX7_canHavePlan_4 : decode cX7_canHavePlan 4 = .ok (.getfield 235, 3) := by decide +kernel
theorem dX7_canHavePlan_7 : decode cX7_canHavePlan 7 = .ok (.if_icmp .ge 28, 3) := by decide +kernel
theorem dX7_canHavePlan_10 : decode cX7_canHavePlan 10 = .ok (.aload_n 0, 1) := by decide +kernel
theorem dX7_canHavePlan_11 : decode cX7_canHavePlan 11 = .ok (.getfield 44, 3) := by decide +kernel
theorem dX7_canHavePlan_14 : decode cX7_canHavePlan 14 = .ok (.bipush 43, 2) := by decide +kernel
theorem dX7_canHavePlan_16 : decode cX7_canHavePlan 16 = .ok (.iload_n 1, 1) := by decide +kernel
theorem dX7_canHavePlan_17 : decode cX7_canHavePlan 17 = .ok (.iadd, 1) := by decide +kernel
theorem dX7_canHavePlan_18 : decode cX7_canHavePlan 18 = .ok (.iaload, 1) := by decide +kernel
theorem dX7_canHavePlan_19 : decode cX7_canHavePlan 19 = .ok (.aload_n 0, 1) := by decide +kernel
theorem dX7_canHavePlan_20 : decode cX7_canHavePlan 20 = .ok (.iload_n 1, 1) := by decide +kernel
theorem dX7_canHavePlan_21 : decode cX7_canHavePlan 21 = .ok (.invokevirtual 290, 3) := by decide +kernel
theorem dX7_canHavePlan_24 : decode cX7_canHavePlan 24 = .ok (.if_icmp .le 5, 3) := by decide +kernel
theorem dX7_canHavePlan_27 : decode cX7_canHavePlan 27 = .ok (.iconst 0, 1) := by decide +kernel
theorem dX7_canHavePlan_28 : decode cX7_canHavePlan 28 = .ok (.ireturn, 1) := by decide +kernel
theorem dX7_canHavePlan_29 : decode cX7_canHavePlan 29 = .ok (.iinc 1 1, 3) := by decide +kernel
theorem dX7_canHavePlan_32 : decode cX7_canHavePlan 32 = .ok (.goto (-30), 3) := by decide +kernel
theorem dX7_canHavePlan_35 : decode cX7_canHavePlan 35 = .ok (.aload_n 0, 1) := by decide +kernel
theorem dX7_canHavePlan_36 : decode cX7_canHavePlan 36 = .ok (.invokevirtual 347, 3) := by decide +kernel
theorem dX7_canHavePlan_39 : decode cX7_canHavePlan 39 = .ok (.aload_n 0, 1) := by decide +kernel
theorem dX7_canHavePlan_40 : decode cX7_canHavePlan 40 = .ok (.getfield 44, 3) := by decide +kernel
theorem dX7_canHavePlan_43 : decode cX7_canHavePlan 43 = .ok (.bipush 35, 2) := by decide +kernel
theorem dX7_canHavePlan_45 : decode cX7_canHavePlan 45 = .ok (.iaload, 1) := by decide +kernel
theorem dX7_canHavePlan_46 : decode cX7_canHavePlan 46 = .ok (.if_icmp .gt 7, 3) := by decide +kernel
theorem dX7_canHavePlan_49 : decode cX7_canHavePlan 49 = .ok (.iconst 1, 1) := by decide +kernel
theorem dX7_canHavePlan_50 : decode cX7_canHavePlan 50 = .ok (.goto 4, 3) := by decide +kernel
theorem dX7_canHavePlan_53 : decode cX7_canHavePlan 53 = .ok (.iconst 0, 1) := by decide +kernel
theorem dX7_canHavePlan_54 : decode cX7_canHavePlan 54 = .ok (.ireturn, 1) := by decide +kernel
theorem dX7_planCost_0 : decode cX7_planCost 0 = .ok (.iconst 0, 1) := by decide +kernel
theorem dX7_planCost_1 : decode cX7_planCost 1 = .ok (.istore_n 1, 1) := by decide +kernel
theorem dX7_planCost_2 : decode cX7_planCost 2 = .ok (.iconst 0, 1) := by decide +kernel
theorem dX7_planCost_3 : decode cX7_planCost 3 = .ok (.istore_n 2, 1) := by decide +kernel
theorem dX7_planCost_4 : decode cX7_planCost 4 = .ok (.iload_n 2, 1) := by decide +kernel
theorem dX7_planCost_5 : decode cX7_planCost 5 = .ok (.aload_n 0, 1) := by decide +kernel
theorem dX7_planCost_6 : decode cX7_planCost 6 = .ok (.getfield 235, 3) := by decide +kernel
theorem dX7_planCost_9 : decode cX7_planCost 9 = .ok (.if_icmp .ge 26, 3) := by decide +kernel
theorem dX7_planCost_12 : decode cX7_planCost 12 = .ok (.iload_n 1, 1) := by decide +kernel
theorem dX7_planCost_13 : decode cX7_planCost 13 = .ok (.aload_n 0, 1) := by decide +kernel
theorem dX7_planCost_14 : decode cX7_planCost 14 = .ok (.iload_n 2, 1) := by decide +kernel
theorem dX7_planCost_15 : decode cX7_planCost 15 = .ok (.aload_n 0, 1) := by decide +kernel
theorem dX7_planCost_16 : decode cX7_planCost 16 = .ok (.getfield 44, 3) := by decide +kernel
theorem dX7_planCost_19 : decode cX7_planCost 19 = .ok (.bipush 43, 2) := by decide +kernel
theorem dX7_planCost_21 : decode cX7_planCost 21 = .ok (.iload_n 2, 1) := by decide +kernel
theorem dX7_planCost_22 : decode cX7_planCost 22 = .ok (.iadd, 1) := by decide +kernel
theorem dX7_planCost_23 : decode cX7_planCost 23 = .ok (.iaload, 1) := by decide +kernel
theorem dX7_planCost_24 : decode cX7_planCost 24 = .ok (.invokevirtual 297, 3) := by decide +kernel
theorem dX7_planCost_27 : decode cX7_planCost 27 = .ok (.iadd, 1) := by decide +kernel
theorem dX7_planCost_28 : decode cX7_planCost 28 = .ok (.istore_n 1, 1) := by decide +kernel
theorem dX7_planCost_29 : decode cX7_planCost 29 = .ok (.iinc 2 1, 3) := by decide +kernel
theorem dX7_planCost_32 : decode cX7_planCost 32 = .ok (.goto (-28), 3) := by decide +kernel
theorem dX7_planCost_35 : decode cX7_planCost 35 = .ok (.iload_n 1, 1) := by decide +kernel
theorem dX7_planCost_36 : decode cX7_planCost 36 = .ok (.ireturn, 1) := by decide +kernel
theorem dX7_plan_0 : decode cX7_plan 0 = .ok (.aload_n 0, 1) := by decide +kernel
theorem dX7_plan_1 : decode cX7_plan 1 = .ok (.iconst 0, 1) := by decide +kernel
theorem dX7_plan_2 : decode cX7_plan 2 = .ok (.putfield 70, 3) := by decide +kernel
theorem dX7_plan_5 : decode cX7_plan 5 = .ok (.aload_n 0, 1) := by decide +kernel
theorem dX7_plan_6 : decode cX7_plan 6 = .ok (.iload_n 1, 1) := by decide +kernel
theorem dX7_plan_7 : decode cX7_plan 7 = .ok (.invokevirtual 282, 3) := by decide +kernel
theorem dX7_plan_10 : decode cX7_plan 10 = .ok (.ifCond .ne 9, 3) := by decide +kernel
theorem dX7_plan_13 : decode cX7_plan 13 = .ok (.aload_n 0, 1) := by decide +kernel
theorem dX7_plan_14 : decode cX7_plan 14 = .ok (.iconst 1, 1) := by decide +kernel
theorem dX7_plan_15 : decode cX7_plan 15 = .ok (.invokevirtual 76, 3) := by decide +kernel
theorem dX7_plan_18 : decode cX7_plan 18 = .ok (.ireturn, 1) := by decide +kernel
theorem dX7_plan_19 : decode cX7_plan 19 = .ok (.aload_n 0, 1) := by decide +kernel
theorem dX7_plan_20 : decode cX7_plan 20 = .ok (.iload_n 1, 1) := by decide +kernel
theorem dX7_plan_21 : decode cX7_plan 21 = .ok (.iload_n 2, 1) := by decide +kernel
theorem dX7_plan_22 : decode cX7_plan 22 = .ok (.invokevirtual 293, 3) := by decide +kernel
theorem dX7_plan_25 : decode cX7_plan 25 = .ok (.ifCond .eq 29, 3) := by decide +kernel
theorem dX7_plan_28 : decode cX7_plan 28 = .ok (.aload_n 0, 1) := by decide +kernel
theorem dX7_plan_29 : decode cX7_plan 29 = .ok (.invokevirtual 347, 3) := by decide +kernel
theorem dX7_plan_32 : decode cX7_plan 32 = .ok (.aload_n 0, 1) := by decide +kernel
theorem dX7_plan_33 : decode cX7_plan 33 = .ok (.getfield 44, 3) := by decide +kernel
theorem dX7_plan_36 : decode cX7_plan 36 = .ok (.bipush 43, 2) := by decide +kernel
theorem dX7_plan_38 : decode cX7_plan 38 = .ok (.iload_n 1, 1) := by decide +kernel
theorem dX7_plan_39 : decode cX7_plan 39 = .ok (.iadd, 1) := by decide +kernel
theorem dX7_plan_40 : decode cX7_plan 40 = .ok (.iaload, 1) := by decide +kernel
theorem dX7_plan_41 : decode cX7_plan 41 = .ok (.isub, 1) := by decide +kernel
theorem dX7_plan_42 : decode cX7_plan 42 = .ok (.iload_n 2, 1) := by decide +kernel
theorem dX7_plan_43 : decode cX7_plan 43 = .ok (.iadd, 1) := by decide +kernel
theorem dX7_plan_44 : decode cX7_plan 44 = .ok (.aload_n 0, 1) := by decide +kernel
theorem dX7_plan_45 : decode cX7_plan 45 = .ok (.getfield 44, 3) := by decide +kernel
theorem dX7_plan_48 : decode cX7_plan 48 = .ok (.bipush 35, 2) := by decide +kernel
theorem dX7_plan_50 : decode cX7_plan 50 = .ok (.iaload, 1) := by decide +kernel
theorem dX7_plan_51 : decode cX7_plan 51 = .ok (.if_icmp .le 9, 3) := by decide +kernel
theorem dX7_plan_54 : decode cX7_plan 54 = .ok (.aload_n 0, 1) := by decide +kernel
theorem dX7_plan_55 : decode cX7_plan 55 = .ok (.iconst 2, 1) := by decide +kernel
theorem dX7_plan_56 : decode cX7_plan 56 = .ok (.invokevirtual 76, 3) := by decide +kernel
theorem dX7_plan_59 : decode cX7_plan 59 = .ok (.ireturn, 1) := by decide +kernel
theorem dX7_plan_60 : decode cX7_plan 60 = .ok (.aload_n 0, 1) := by decide +kernel
theorem dX7_plan_61 : decode cX7_plan 61 = .ok (.getfield 44, 3) := by decide +kernel
theorem dX7_plan_64 : decode cX7_plan 64 = .ok (.bipush 36, 2) := by decide +kernel
theorem dX7_plan_66 : decode cX7_plan 66 = .ok (.iaload, 1) := by decide +kernel
theorem dX7_plan_67 : decode cX7_plan 67 = .ok (.iconst 1, 1) := by decide +kernel
theorem dX7_plan_68 : decode cX7_plan 68 = .ok (.if_icmp .ne 9, 3) := by decide +kernel
theorem dX7_plan_71 : decode cX7_plan 71 = .ok (.aload_n 0, 1) := by decide +kernel
theorem dX7_plan_72 : decode cX7_plan 72 = .ok (.iconst 5, 1) := by decide +kernel
theorem dX7_plan_73 : decode cX7_plan 73 = .ok (.invokevirtual 76, 3) := by decide +kernel
theorem dX7_plan_76 : decode cX7_plan 76 = .ok (.ireturn, 1) := by decide +kernel
theorem dX7_plan_77 : decode cX7_plan 77 = .ok (.aload_n 0, 1) := by decide +kernel
theorem dX7_plan_78 : decode cX7_plan 78 = .ok (.getfield 44, 3) := by decide +kernel
theorem dX7_plan_81 : decode cX7_plan 81 = .ok (.bipush 43, 2) := by decide +kernel
theorem dX7_plan_83 : decode cX7_plan 83 = .ok (.iload_n 1, 1) := by decide +kernel
theorem dX7_plan_84 : decode cX7_plan 84 = .ok (.iadd, 1) := by decide +kernel
theorem dX7_plan_85 : decode cX7_plan 85 = .ok (.iaload, 1) := by decide +kernel
theorem dX7_plan_86 : decode cX7_plan 86 = .ok (.istore_n 3, 1) := by decide +kernel
theorem dX7_plan_87 : decode cX7_plan 87 = .ok (.aload_n 0, 1) := by decide +kernel
theorem dX7_plan_88 : decode cX7_plan 88 = .ok (.getfield 44, 3) := by decide +kernel
theorem dX7_plan_91 : decode cX7_plan 91 = .ok (.bipush 43, 2) := by decide +kernel
theorem dX7_plan_93 : decode cX7_plan 93 = .ok (.iload_n 1, 1) := by decide +kernel
theorem dX7_plan_94 : decode cX7_plan 94 = .ok (.iadd, 1) := by decide +kernel
theorem dX7_plan_95 : decode cX7_plan 95 = .ok (.iload_n 2, 1) := by decide +kernel
theorem dX7_plan_96 : decode cX7_plan 96 = .ok (.iastore, 1) := by decide +kernel
theorem dX7_plan_97 : decode cX7_plan 97 = .ok (.aload_n 0, 1) := by decide +kernel
theorem dX7_plan_98 : decode cX7_plan 98 = .ok (.iload_n 3, 1) := by decide +kernel
theorem dX7_plan_99 : decode cX7_plan 99 = .ok (.invokevirtual 238, 3) := by decide +kernel
theorem dX7_plan_102 : decode cX7_plan 102 = .ok (.ireturn, 1) := by decide +kernel
theorem dX7_planned_0 : decode cX7_planned 0 = .ok (.aload_n 0, 1) := by decide +kernel
theorem dX7_planned_1 : decode cX7_planned 1 = .ok (.iconst 0, 1) := by decide +kernel
theorem dX7_planned_2 : decode cX7_planned 2 = .ok (.putfield 70, 3) := by decide +kernel
theorem dX7_planned_5 : decode cX7_planned 5 = .ok (.aload_n 0, 1) := by decide +kernel
theorem dX7_planned_6 : decode cX7_planned 6 = .ok (.getfield 241, 3) := by decide +kernel
theorem dX7_planned_9 : decode cX7_planned 9 = .ok (.ifCond .eq 12, 3) := by decide +kernel
theorem dX7_planned_12 : decode cX7_planned 12 = .ok (.iload_n 1, 1) := by decide +kernel
theorem dX7_planned_13 : decode cX7_planned 13 = .ok (.iconst 0, 1) := by decide +kernel
theorem dX7_planned_14 : decode cX7_planned 14 = .ok (.iconst 2, 1) := by decide +kernel
theorem dX7_planned_15 : decode cX7_planned 15 = .ok (.invokestatic 99, 3) := by decide +kernel
theorem dX7_planned_18 : decode cX7_planned 18 = .ok (.ifCond .ne 9, 3) := by decide +kernel
theorem dX7_planned_21 : decode cX7_planned 21 = .ok (.aload_n 0, 1) := by decide +kernel
theorem dX7_planned_22 : decode cX7_planned 22 = .ok (.iconst 1, 1) := by decide +kernel
theorem dX7_planned_23 : decode cX7_planned 23 = .ok (.invokevirtual 285, 3) := by decide +kernel
theorem dX7_planned_26 : decode cX7_planned 26 = .ok (.ireturn, 1) := by decide +kernel
theorem dX7_planned_27 : decode cX7_planned 27 = .ok (.aload_n 0, 1) := by decide +kernel
theorem dX7_planned_28 : decode cX7_planned 28 = .ok (.invokevirtual 350, 3) := by decide +kernel
theorem dX7_planned_31 : decode cX7_planned 31 = .ok (.ifCond .ne 9, 3) := by decide +kernel
theorem dX7_planned_34 : decode cX7_planned 34 = .ok (.aload_n 0, 1) := by decide +kernel
theorem dX7_planned_35 : decode cX7_planned 35 = .ok (.iconst 5, 1) := by decide +kernel
theorem dX7_planned_36 : decode cX7_planned 36 = .ok (.invokevirtual 285, 3) := by decide +kernel
theorem dX7_planned_39 : decode cX7_planned 39 = .ok (.ireturn, 1) := by decide +kernel
theorem dX7_planned_40 : decode cX7_planned 40 = .ok (.aload_n 0, 1) := by decide +kernel
theorem dX7_planned_41 : decode cX7_planned 41 = .ok (.invokevirtual 347, 3) := by decide +kernel
theorem dX7_planned_44 : decode cX7_planned 44 = .ok (.istore_n 2, 1) := by decide +kernel
theorem dX7_planned_45 : decode cX7_planned 45 = .ok (.iload_n 1, 1) := by decide +kernel
theorem dX7_planned_46 : decode cX7_planned 46 = .ok (.ifCond .ne 9, 3) := by decide +kernel
theorem dX7_planned_49 : decode cX7_planned 49 = .ok (.aload_n 0, 1) := by decide +kernel
theorem dX7_planned_50 : decode cX7_planned 50 = .ok (.iload_n 2, 1) := by decide +kernel
theorem dX7_planned_51 : decode cX7_planned 51 = .ok (.invokevirtual 238, 3) := by decide +kernel
theorem dX7_planned_54 : decode cX7_planned 54 = .ok (.ireturn, 1) := by decide +kernel
theorem dX7_planned_55 : decode cX7_planned 55 = .ok (.iload_n 1, 1) := by decide +kernel
theorem dX7_planned_56 : decode cX7_planned 56 = .ok (.iconst 1, 1) := by decide +kernel
theorem dX7_planned_57 : decode cX7_planned 57 = .ok (.if_icmp .ne 12, 3) := by decide +kernel
theorem dX7_planned_60 : decode cX7_planned 60 = .ok (.aload_n 0, 1) := by decide +kernel
theorem dX7_planned_61 : decode cX7_planned 61 = .ok (.aload_n 0, 1) := by decide +kernel
theorem dX7_planned_62 : decode cX7_planned 62 = .ok (.invokevirtual 353, 3) := by decide +kernel
theorem dX7_planned_65 : decode cX7_planned 65 = .ok (.invokevirtual 238, 3) := by decide +kernel
theorem dX7_planned_68 : decode cX7_planned 68 = .ok (.ireturn, 1) := by decide +kernel
theorem dX7_planned_69 : decode cX7_planned 69 = .ok (.iload_n 2, 1) := by decide +kernel
theorem dX7_planned_70 : decode cX7_planned 70 = .ok (.ifCond .ne 9, 3) := by decide +kernel
theorem dX7_planned_73 : decode cX7_planned 73 = .ok (.aload_n 0, 1) := by decide +kernel
theorem dX7_planned_74 : decode cX7_planned 74 = .ok (.iconst 0, 1) := by decide +kernel
theorem dX7_planned_75 : decode cX7_planned 75 = .ok (.invokevirtual 238, 3) := by decide +kernel
theorem dX7_planned_78 : decode cX7_planned 78 = .ok (.ireturn, 1) := by decide +kernel
theorem dX7_planned_79 : decode cX7_planned 79 = .ok (.aload_n 0, 1) := by decide +kernel
theorem dX7_planned_80 : decode cX7_planned 80 = .ok (.iload_n 2, 1) := by decide +kernel
theorem dX7_planned_81 : decode cX7_planned 81 = .ok (.iconst (-1), 1) := by decide +kernel
theorem dX7_planned_82 : decode cX7_planned 82 = .ok (.invokevirtual 322, 3) := by decide +kernel
theorem dX7_planned_85 : decode cX7_planned 85 = .ok (.aload_n 0, 1) := by decide +kernel
theorem dX7_planned_86 : decode cX7_planned 86 = .ok (.aload_n 0, 1) := by decide +kernel
theorem dX7_planned_87 : decode cX7_planned 87 = .ok (.invokevirtual 353, 3) := by decide +kernel
theorem dX7_planned_90 : decode cX7_planned 90 = .ok (.aload_n 0, 1) := by decide +kernel
theorem dX7_planned_91 : decode cX7_planned 91 = .ok (.getfield 309, 3) := by decide +kernel
theorem dX7_planned_94 : decode cX7_planned 94 = .ok (.isub, 1) := by decide +kernel
theorem dX7_planned_95 : decode cX7_planned 95 = .ok (.invokevirtual 238, 3) := by decide +kernel
theorem dX7_planned_98 : decode cX7_planned 98 = .ok (.ireturn, 1) := by decide +kernel
theorem dX7_common_0 : decode cX7_common 0 = .ok (.iload_n 0, 1) := by decide +kernel
theorem dX7_common_1 : decode cX7_common 1 = .ok (.istore_n 2, 1) := by decide +kernel
theorem dX7_common_2 : decode cX7_common 2 = .ok (.iload_n 2, 1) := by decide +kernel
theorem dX7_common_3 : decode cX7_common 3 = .ok (.iload_n 1, 1) := by decide +kernel
theorem dX7_common_4 : decode cX7_common 4 = .ok (.irem, 1) := by decide +kernel
theorem dX7_common_5 : decode cX7_common 5 = .ok (.ifCond .eq 10, 3) := by decide +kernel
theorem dX7_common_8 : decode cX7_common 8 = .ok (.iload_n 2, 1) := by decide +kernel
theorem dX7_common_9 : decode cX7_common 9 = .ok (.iload_n 0, 1) := by decide +kernel
theorem dX7_common_10 : decode cX7_common 10 = .ok (.iadd, 1) := by decide +kernel
theorem dX7_common_11 : decode cX7_common 11 = .ok (.istore_n 2, 1) := by decide +kernel
theorem dX7_common_12 : decode cX7_common 12 = .ok (.goto (-10), 3) := by decide +kernel
theorem dX7_common_15 : decode cX7_common 15 = .ok (.iload_n 2, 1) := by decide +kernel
theorem dX7_common_16 : decode cX7_common 16 = .ok (.ireturn, 1) := by decide +kernel
theorem dX7_move_0 : decode cX7_move 0 = .ok (.aload_n 0, 1) := by decide +kernel
theorem dX7_move_1 : decode cX7_move 1 = .ok (.iconst 0, 1) := by decide +kernel
theorem dX7_move_2 : decode cX7_move 2 = .ok (.putfield 70, 3) := by decide +kernel
theorem dX7_move_5 : decode cX7_move 5 = .ok (.aload_n 0, 1) := by decide +kernel
theorem dX7_move_6 : decode cX7_move 6 = .ok (.getfield 241, 3) := by decide +kernel
theorem dX7_move_9 : decode cX7_move 9 = .ok (.ifCond .ne 9, 3) := by decide +kernel
theorem dX7_move_12 : decode cX7_move 12 = .ok (.aload_n 0, 1) := by decide +kernel
theorem dX7_move_13 : decode cX7_move 13 = .ok (.iconst 1, 1) := by decide +kernel
theorem dX7_move_14 : decode cX7_move 14 = .ok (.invokevirtual 76, 3) := by decide +kernel
theorem dX7_move_17 : decode cX7_move 17 = .ok (.ireturn, 1) := by decide +kernel
theorem dX7_move_18 : decode cX7_move 18 = .ok (.aload_n 0, 1) := by decide +kernel
theorem dX7_move_19 : decode cX7_move 19 = .ok (.invokevirtual 350, 3) := by decide +kernel
theorem dX7_move_22 : decode cX7_move 22 = .ok (.ifCond .ne 9, 3) := by decide +kernel
theorem dX7_move_25 : decode cX7_move 25 = .ok (.aload_n 0, 1) := by decide +kernel
theorem dX7_move_26 : decode cX7_move 26 = .ok (.iconst 5, 1) := by decide +kernel
theorem dX7_move_27 : decode cX7_move 27 = .ok (.invokevirtual 76, 3) := by decide +kernel
theorem dX7_move_30 : decode cX7_move 30 = .ok (.ireturn, 1) := by decide +kernel
theorem dX7_move_31 : decode cX7_move 31 = .ok (.bipush (-2), 2) := by decide +kernel
theorem dX7_move_33 : decode cX7_move 33 = .ok (.istore_n 1, 1) := by decide +kernel
theorem dX7_move_34 : decode cX7_move 34 = .ok (.iconst 0, 1) := by decide +kernel
theorem dX7_move_35 : decode cX7_move 35 = .ok (.istore_n 2, 1) := by decide +kernel
theorem dX7_move_36 : decode cX7_move 36 = .ok (.iconst 0, 1) := by decide +kernel
theorem dX7_move_37 : decode cX7_move 37 = .ok (.istore_n 3, 1) := by decide +kernel
theorem dX7_move_38 : decode cX7_move 38 = .ok (.iload_n 3, 1) := by decide +kernel
theorem dX7_move_39 : decode cX7_move 39 = .ok (.aload_n 0, 1) := by decide +kernel
theorem dX7_move_40 : decode cX7_move 40 = .ok (.getfield 235, 3) := by decide +kernel
theorem dX7_move_43 : decode cX7_move 43 = .ok (.if_icmp .ge 179, 3) := by decide +kernel
theorem dX7_move_46 : decode cX7_move 46 = .ok (.iconst 0, 1) := by decide +kernel
theorem dX7_move_47 : decode cX7_move 47 = .ok (.istore 4, 2) := by decide +kernel
theorem dX7_move_49 : decode cX7_move 49 = .ok (.iload 4, 2) := by decide +kernel
theorem dX7_move_51 : decode cX7_move 51 = .ok (.aload_n 0, 1) := by decide +kernel
theorem dX7_move_52 : decode cX7_move 52 = .ok (.getfield 235, 3) := by decide +kernel
theorem dX7_move_55 : decode cX7_move 55 = .ok (.if_icmp .ge 161, 3) := by decide +kernel
theorem dX7_move_58 : decode cX7_move 58 = .ok (.aload_n 0, 1) := by decide +kernel
theorem dX7_move_59 : decode cX7_move 59 = .ok (.iload_n 3, 1) := by decide +kernel
theorem dX7_move_60 : decode cX7_move 60 = .ok (.invokevirtual 288, 3) := by decide +kernel
theorem dX7_move_63 : decode cX7_move 63 = .ok (.aload_n 0, 1) := by decide +kernel
theorem dX7_move_64 : decode cX7_move 64 = .ok (.iload 4, 2) := by decide +kernel
theorem dX7_move_66 : decode cX7_move 66 = .ok (.invokevirtual 288, 3) := by decide +kernel
theorem dX7_move_69 : decode cX7_move 69 = .ok (.invokestatic 356, 3) := by decide +kernel
theorem dX7_move_72 : decode cX7_move 72 = .ok (.istore 5, 2) := by decide +kernel
theorem dX7_move_74 : decode cX7_move 74 = .ok (.iload_n 3, 1) := by decide +kernel
theorem dX7_move_75 : decode cX7_move 75 = .ok (.iload 4, 2) := by decide +kernel
theorem dX7_move_77 : decode cX7_move 77 = .ok (.if_icmp .eq 133, 3) := by decide +kernel
theorem dX7_move_80 : decode cX7_move 80 = .ok (.aload_n 0, 1) := by decide +kernel
theorem dX7_move_81 : decode cX7_move 81 = .ok (.getfield 44, 3) := by decide +kernel
theorem dX7_move_84 : decode cX7_move 84 = .ok (.bipush 43, 2) := by decide +kernel
theorem dX7_move_86 : decode cX7_move 86 = .ok (.iload_n 3, 1) := by decide +kernel
theorem dX7_move_87 : decode cX7_move 87 = .ok (.iadd, 1) := by decide +kernel
theorem dX7_move_88 : decode cX7_move 88 = .ok (.iaload, 1) := by decide +kernel
theorem dX7_move_89 : decode cX7_move 89 = .ok (.iload 5, 2) := by decide +kernel
theorem dX7_move_91 : decode cX7_move 91 = .ok (.if_icmp .lt 119, 3) := by decide +kernel
theorem dX7_move_94 : decode cX7_move 94 = .ok (.aload_n 0, 1) := by decide +kernel
theorem dX7_move_95 : decode cX7_move 95 = .ok (.getfield 44, 3) := by decide +kernel
theorem dX7_move_98 : decode cX7_move 98 = .ok (.bipush 43, 2) := by decide +kernel
theorem dX7_move_100 : decode cX7_move 100 = .ok (.iload 4, 2) := by decide +kernel
theorem dX7_move_102 : decode cX7_move 102 = .ok (.iadd, 1) := by decide +kernel
theorem dX7_move_103 : decode cX7_move 103 = .ok (.iaload, 1) := by decide +kernel
theorem dX7_move_104 : decode cX7_move 104 = .ok (.iload 5, 2) := by decide +kernel
theorem dX7_move_106 : decode cX7_move 106 = .ok (.iadd, 1) := by decide +kernel
theorem dX7_move_107 : decode cX7_move 107 = .ok (.aload_n 0, 1) := by decide +kernel
theorem dX7_move_108 : decode cX7_move 108 = .ok (.iload 4, 2) := by decide +kernel
theorem dX7_move_110 : decode cX7_move 110 = .ok (.invokevirtual 290, 3) := by decide +kernel
theorem dX7_move_113 : decode cX7_move 113 = .ok (.if_icmp .le 6, 3) := by decide +kernel
theorem dX7_move_116 : decode cX7_move 116 = .ok (.goto 94, 3) := by decide +kernel
theorem dX7_move_119 : decode cX7_move 119 = .ok (.aload_n 0, 1) := by decide +kernel
theorem dX7_move_120 : decode cX7_move 120 = .ok (.iload_n 3, 1) := by decide +kernel
theorem dX7_move_121 : decode cX7_move 121 = .ok (.aload_n 0, 1) := by decide +kernel
theorem dX7_move_122 : decode cX7_move 122 = .ok (.getfield 44, 3) := by decide +kernel
theorem dX7_move_125 : decode cX7_move 125 = .ok (.bipush 43, 2) := by decide +kernel
theorem dX7_move_127 : decode cX7_move 127 = .ok (.iload_n 3, 1) := by decide +kernel
theorem dX7_move_128 : decode cX7_move 128 = .ok (.iadd, 1) := by decide +kernel
theorem dX7_move_129 : decode cX7_move 129 = .ok (.iaload, 1) := by decide +kernel
theorem dX7_move_130 : decode cX7_move 130 = .ok (.iload 5, 2) := by decide +kernel
theorem dX7_move_132 : decode cX7_move 132 = .ok (.isub, 1) := by decide +kernel
theorem dX7_move_133 : decode cX7_move 133 = .ok (.invokevirtual 297, 3) := by decide +kernel
theorem dX7_move_136 : decode cX7_move 136 = .ok (.aload_n 0, 1) := by decide +kernel
theorem dX7_move_137 : decode cX7_move 137 = .ok (.iload 4, 2) := by decide +kernel
theorem dX7_move_139 : decode cX7_move 139 = .ok (.aload_n 0, 1) := by decide +kernel
theorem dX7_move_140 : decode cX7_move 140 = .ok (.getfield 44, 3) := by decide +kernel
theorem dX7_move_143 : decode cX7_move 143 = .ok (.bipush 43, 2) := by decide +kernel
theorem dX7_move_145 : decode cX7_move 145 = .ok (.iload 4, 2) := by decide +kernel
theorem dX7_move_147 : decode cX7_move 147 = .ok (.iadd, 1) := by decide +kernel
theorem dX7_move_148 : decode cX7_move 148 = .ok (.iaload, 1) := by decide +kernel
theorem dX7_move_149 : decode cX7_move 149 = .ok (.iload 5, 2) := by decide +kernel
theorem dX7_move_151 : decode cX7_move 151 = .ok (.iadd, 1) := by decide +kernel
theorem dX7_move_152 : decode cX7_move 152 = .ok (.invokevirtual 297, 3) := by decide +kernel
theorem dX7_move_155 : decode cX7_move 155 = .ok (.iadd, 1) := by decide +kernel
theorem dX7_move_156 : decode cX7_move 156 = .ok (.aload_n 0, 1) := by decide +kernel
theorem dX7_move_157 : decode cX7_move 157 = .ok (.iload_n 3, 1) := by decide +kernel
theorem dX7_move_158 : decode cX7_move 158 = .ok (.aload_n 0, 1) := by decide +kernel
theorem dX7_move_159 : decode cX7_move 159 = .ok (.getfield 44, 3) := by decide +kernel
theorem dX7_move_162 : decode cX7_move 162 = .ok (.bipush 43, 2) := by decide +kernel
theorem dX7_move_164 : decode cX7_move 164 = .ok (.iload_n 3, 1) := by decide +kernel
theorem dX7_move_165 : decode cX7_move 165 = .ok (.iadd, 1) := by decide +kernel
theorem dX7_move_166 : decode cX7_move 166 = .ok (.iaload, 1) := by decide +kernel
theorem dX7_move_167 : decode cX7_move 167 = .ok (.invokevirtual 297, 3) := by decide +kernel
theorem dX7_move_170 : decode cX7_move 170 = .ok (.isub, 1) := by decide +kernel
theorem dX7_move_171 : decode cX7_move 171 = .ok (.aload_n 0, 1) := by decide +kernel
theorem dX7_move_172 : decode cX7_move 172 = .ok (.iload 4, 2) := by decide +kernel
theorem dX7_move_174 : decode cX7_move 174 = .ok (.aload_n 0, 1) := by decide +kernel
theorem dX7_move_175 : decode cX7_move 175 = .ok (.getfield 44, 3) := by decide +kernel
theorem dX7_move_178 : decode cX7_move 178 = .ok (.bipush 43, 2) := by decide +kernel
theorem dX7_move_180 : decode cX7_move 180 = .ok (.iload 4, 2) := by decide +kernel
theorem dX7_move_182 : decode cX7_move 182 = .ok (.iadd, 1) := by decide +kernel
theorem dX7_move_183 : decode cX7_move 183 = .ok (.iaload, 1) := by decide +kernel
theorem dX7_move_184 : decode cX7_move 184 = .ok (.invokevirtual 297, 3) := by decide +kernel
theorem dX7_move_187 : decode cX7_move 187 = .ok (.isub, 1) := by decide +kernel
theorem dX7_move_188 : decode cX7_move 188 = .ok (.istore 6, 2) := by decide +kernel
theorem dX7_move_190 : decode cX7_move 190 = .ok (.iload 6, 2) := by decide +kernel
theorem dX7_move_192 : decode cX7_move 192 = .ok (.iload_n 2, 1) := by decide +kernel
theorem dX7_move_193 : decode cX7_move 193 = .ok (.if_icmp .lt 6, 3) := by decide +kernel
theorem dX7_move_196 : decode cX7_move 196 = .ok (.goto 14, 3) := by decide +kernel
theorem dX7_move_199 : decode cX7_move 199 = .ok (.iload 6, 2) := by decide +kernel
theorem dX7_move_201 : decode cX7_move 201 = .ok (.istore_n 2, 1) := by decide +kernel
theorem dX7_move_202 : decode cX7_move 202 = .ok (.bipush 10, 2) := by decide +kernel
theorem dX7_move_204 : decode cX7_move 204 = .ok (.iload_n 3, 1) := by decide +kernel
theorem dX7_move_205 : decode cX7_move 205 = .ok (.imul, 1) := by decide +kernel
theorem dX7_move_206 : decode cX7_move 206 = .ok (.iload 4, 2) := by decide +kernel
theorem dX7_move_208 : decode cX7_move 208 = .ok (.iadd, 1) := by decide +kernel
theorem dX7_move_209 : decode cX7_move 209 = .ok (.istore_n 1, 1) := by decide +kernel
theorem dX7_move_210 : decode cX7_move 210 = .ok (.iinc 4 1, 3) := by decide +kernel
theorem dX7_move_213 : decode cX7_move 213 = .ok (.goto (-164), 3) := by decide +kernel
theorem dX7_move_216 : decode cX7_move 216 = .ok (.iinc 3 1, 3) := by decide +kernel
theorem dX7_move_219 : decode cX7_move 219 = .ok (.goto (-181), 3) := by decide +kernel
theorem dX7_move_222 : decode cX7_move 222 = .ok (.aload_n 0, 1) := by decide +kernel
theorem dX7_move_223 : decode cX7_move 223 = .ok (.iload_n 1, 1) := by decide +kernel
theorem dX7_move_224 : decode cX7_move 224 = .ok (.invokevirtual 238, 3) := by decide +kernel
theorem dX7_move_227 : decode cX7_move 227 = .ok (.ireturn, 1) := by decide +kernel
theorem dX7_adopt_0 : decode cX7_adopt 0 = .ok (.aload_n 0, 1) := by decide +kernel
theorem dX7_adopt_1 : decode cX7_adopt 1 = .ok (.iconst 0, 1) := by decide +kernel
theorem dX7_adopt_2 : decode cX7_adopt 2 = .ok (.putfield 70, 3) := by decide +kernel
theorem dX7_adopt_5 : decode cX7_adopt 5 = .ok (.aload_n 0, 1) := by decide +kernel
theorem dX7_adopt_6 : decode cX7_adopt 6 = .ok (.getfield 241, 3) := by decide +kernel
theorem dX7_adopt_9 : decode cX7_adopt 9 = .ok (.ifCond .ne 9, 3) := by decide +kernel
theorem dX7_adopt_12 : decode cX7_adopt 12 = .ok (.aload_n 0, 1) := by decide +kernel
theorem dX7_adopt_13 : decode cX7_adopt 13 = .ok (.iconst 1, 1) := by decide +kernel
theorem dX7_adopt_14 : decode cX7_adopt 14 = .ok (.invokevirtual 76, 3) := by decide +kernel
theorem dX7_adopt_17 : decode cX7_adopt 17 = .ok (.ireturn, 1) := by decide +kernel
theorem dX7_adopt_18 : decode cX7_adopt 18 = .ok (.iload_n 1, 1) := by decide +kernel
theorem dX7_adopt_19 : decode cX7_adopt 19 = .ok (.iconst 1, 1) := by decide +kernel
theorem dX7_adopt_20 : decode cX7_adopt 20 = .ok (.aload_n 0, 1) := by decide +kernel
theorem dX7_adopt_21 : decode cX7_adopt 21 = .ok (.getfield 44, 3) := by decide +kernel
theorem dX7_adopt_24 : decode cX7_adopt 24 = .ok (.bipush 35, 2) := by decide +kernel
theorem dX7_adopt_26 : decode cX7_adopt 26 = .ok (.iaload, 1) := by decide +kernel
theorem dX7_adopt_27 : decode cX7_adopt 27 = .ok (.invokestatic 99, 3) := by decide +kernel
theorem dX7_adopt_30 : decode cX7_adopt 30 = .ok (.ifCond .ne 9, 3) := by decide +kernel
theorem dX7_adopt_33 : decode cX7_adopt 33 = .ok (.aload_n 0, 1) := by decide +kernel
theorem dX7_adopt_34 : decode cX7_adopt 34 = .ok (.iconst 2, 1) := by decide +kernel
theorem dX7_adopt_35 : decode cX7_adopt 35 = .ok (.invokevirtual 76, 3) := by decide +kernel
theorem dX7_adopt_38 : decode cX7_adopt 38 = .ok (.ireturn, 1) := by decide +kernel
theorem dX7_adopt_39 : decode cX7_adopt 39 = .ok (.aload_n 0, 1) := by decide +kernel
theorem dX7_adopt_40 : decode cX7_adopt 40 = .ok (.getfield 44, 3) := by decide +kernel
theorem dX7_adopt_43 : decode cX7_adopt 43 = .ok (.bipush 36, 2) := by decide +kernel
theorem dX7_adopt_45 : decode cX7_adopt 45 = .ok (.iaload, 1) := by decide +kernel
theorem dX7_adopt_46 : decode cX7_adopt 46 = .ok (.iconst 1, 1) := by decide +kernel
theorem dX7_adopt_47 : decode cX7_adopt 47 = .ok (.if_icmp .ne 9, 3) := by decide +kernel
theorem dX7_adopt_50 : decode cX7_adopt 50 = .ok (.aload_n 0, 1) := by decide +kernel
theorem dX7_adopt_51 : decode cX7_adopt 51 = .ok (.iconst 5, 1) := by decide +kernel
theorem dX7_adopt_52 : decode cX7_adopt 52 = .ok (.invokevirtual 76, 3) := by decide +kernel
theorem dX7_adopt_55 : decode cX7_adopt 55 = .ok (.ireturn, 1) := by decide +kernel
theorem dX7_adopt_56 : decode cX7_adopt 56 = .ok (.aload_n 0, 1) := by decide +kernel
theorem dX7_adopt_57 : decode cX7_adopt 57 = .ok (.iload_n 1, 1) := by decide +kernel
theorem dX7_adopt_58 : decode cX7_adopt 58 = .ok (.iconst (-1), 1) := by decide +kernel
theorem dX7_adopt_59 : decode cX7_adopt 59 = .ok (.invokevirtual 322, 3) := by decide +kernel
theorem dX7_adopt_62 : decode cX7_adopt 62 = .ok (.iconst 0, 1) := by decide +kernel
theorem dX7_adopt_63 : decode cX7_adopt 63 = .ok (.istore_n 2, 1) := by decide +kernel
theorem dX7_adopt_64 : decode cX7_adopt 64 = .ok (.iload_n 2, 1) := by decide +kernel
theorem dX7_adopt_65 : decode cX7_adopt 65 = .ok (.aload_n 0, 1) := by decide +kernel
theorem dX7_adopt_66 : decode cX7_adopt 66 = .ok (.getfield 235, 3) := by decide +kernel
theorem dX7_adopt_69 : decode cX7_adopt 69 = .ok (.if_icmp .ge 24, 3) := by decide +kernel
theorem dX7_adopt_72 : decode cX7_adopt 72 = .ok (.aload_n 0, 1) := by decide +kernel
theorem dX7_adopt_73 : decode cX7_adopt 73 = .ok (.getfield 44, 3) := by decide +kernel
theorem dX7_adopt_76 : decode cX7_adopt 76 = .ok (.bipush 43, 2) := by decide +kernel
theorem dX7_adopt_78 : decode cX7_adopt 78 = .ok (.iload_n 2, 1) := by decide +kernel
theorem dX7_adopt_79 : decode cX7_adopt 79 = .ok (.iadd, 1) := by decide +kernel
theorem dX7_adopt_80 : decode cX7_adopt 80 = .ok (.aload_n 0, 1) := by decide +kernel
theorem dX7_adopt_81 : decode cX7_adopt 81 = .ok (.getfield 60, 3) := by decide +kernel
theorem dX7_adopt_84 : decode cX7_adopt 84 = .ok (.iload_n 2, 1) := by decide +kernel
theorem dX7_adopt_85 : decode cX7_adopt 85 = .ok (.iaload, 1) := by decide +kernel
theorem dX7_adopt_86 : decode cX7_adopt 86 = .ok (.iastore, 1) := by decide +kernel
theorem dX7_adopt_87 : decode cX7_adopt 87 = .ok (.iinc 2 1, 3) := by decide +kernel
theorem dX7_adopt_90 : decode cX7_adopt 90 = .ok (.goto (-26), 3) := by decide +kernel
theorem dX7_adopt_93 : decode cX7_adopt 93 = .ok (.aload_n 0, 1) := by decide +kernel
theorem dX7_adopt_94 : decode cX7_adopt 94 = .ok (.aload_n 0, 1) := by decide +kernel
theorem dX7_adopt_95 : decode cX7_adopt 95 = .ok (.getfield 305, 3) := by decide +kernel
theorem dX7_adopt_98 : decode cX7_adopt 98 = .ok (.invokevirtual 238, 3) := by decide +kernel
theorem dX7_adopt_101 : decode cX7_adopt 101 = .ok (.ireturn, 1) := by decide +kernel
theorem dX7_partAt_0 : decode cX7_partAt 0 = .ok (.bipush 48, 2) := by decide +kernel
theorem dX7_partAt_2 : decode cX7_partAt 2 = .ok (.bipush 8, 2) := by decide +kernel
theorem dX7_partAt_4 : decode cX7_partAt 4 = .ok (.iload_n 0, 1) := by decide +kernel
theorem dX7_partAt_5 : decode cX7_partAt 5 = .ok (.imul, 1) := by decide +kernel
theorem dX7_partAt_6 : decode cX7_partAt 6 = .ok (.iadd, 1) := by decide +kernel
theorem dX7_partAt_7 : decode cX7_partAt 7 = .ok (.ireturn, 1) := by decide +kernel
theorem dX7_partIs_0 : decode cX7_partIs 0 = .ok (.aload_n 0, 1) := by decide +kernel
theorem dX7_partIs_1 : decode cX7_partIs 1 = .ok (.getfield 44, 3) := by decide +kernel
theorem dX7_partIs_4 : decode cX7_partIs 4 = .ok (.iload_n 1, 1) := by decide +kernel
theorem dX7_partIs_5 : decode cX7_partIs 5 = .ok (.invokestatic 359, 3) := by decide +kernel
theorem dX7_partIs_8 : decode cX7_partIs 8 = .ok (.iload_n 2, 1) := by decide +kernel
theorem dX7_partIs_9 : decode cX7_partIs 9 = .ok (.iadd, 1) := by decide +kernel
theorem dX7_partIs_10 : decode cX7_partIs 10 = .ok (.iaload, 1) := by decide +kernel
theorem dX7_partIs_11 : decode cX7_partIs 11 = .ok (.ireturn, 1) := by decide +kernel
theorem dX7_clearsPart_0 : decode cX7_clearsPart 0 = .ok (.iconst 0, 1) := by decide +kernel
theorem dX7_clearsPart_1 : decode cX7_clearsPart 1 = .ok (.istore_n 2, 1) := by decide +kernel
theorem dX7_clearsPart_2 : decode cX7_clearsPart 2 = .ok (.iload_n 2, 1) := by decide +kernel
theorem dX7_clearsPart_3 : decode cX7_clearsPart 3 = .ok (.bipush 8, 2) := by decide +kernel
theorem dX7_clearsPart_5 : decode cX7_clearsPart 5 = .ok (.if_icmp .ge 21, 3) := by decide +kernel
theorem dX7_clearsPart_8 : decode cX7_clearsPart 8 = .ok (.aload_n 0, 1) := by decide +kernel
theorem dX7_clearsPart_9 : decode cX7_clearsPart 9 = .ok (.getfield 44, 3) := by decide +kernel
theorem dX7_clearsPart_12 : decode cX7_clearsPart 12 = .ok (.iload_n 1, 1) := by decide +kernel
theorem dX7_clearsPart_13 : decode cX7_clearsPart 13 = .ok (.invokestatic 359, 3) := by decide +kernel
theorem dX7_clearsPart_16 : decode cX7_clearsPart 16 = .ok (.iload_n 2, 1) := by decide +kernel
theorem dX7_clearsPart_17 : decode cX7_clearsPart 17 = .ok (.iadd, 1) := by decide +kernel
theorem dX7_clearsPart_18 : decode cX7_clearsPart 18 = .ok (.iconst 0, 1) := by decide +kernel
theorem dX7_clearsPart_19 : decode cX7_clearsPart 19 = .ok (.iastore, 1) := by decide +kernel
theorem dX7_clearsPart_20 : decode cX7_clearsPart 20 = .ok (.iinc 2 1, 3) := by decide +kernel
theorem dX7_clearsPart_23 : decode cX7_clearsPart 23 = .ok (.goto (-21), 3) := by decide +kernel
theorem dX7_clearsPart_26 : decode cX7_clearsPart 26 = .ok (.aload_n 0, 1) := by decide +kernel
theorem dX7_clearsPart_27 : decode cX7_clearsPart 27 = .ok (.getfield 44, 3) := by decide +kernel
theorem dX7_clearsPart_30 : decode cX7_clearsPart 30 = .ok (.iload_n 1, 1) := by decide +kernel
theorem dX7_clearsPart_31 : decode cX7_clearsPart 31 = .ok (.invokestatic 359, 3) := by decide +kernel
theorem dX7_clearsPart_34 : decode cX7_clearsPart 34 = .ok (.iconst 5, 1) := by decide +kernel
theorem dX7_clearsPart_35 : decode cX7_clearsPart 35 = .ok (.iadd, 1) := by decide +kernel
theorem dX7_clearsPart_36 : decode cX7_clearsPart 36 = .ok (.bipush (-2), 2) := by decide +kernel
theorem dX7_clearsPart_38 : decode cX7_clearsPart 38 = .ok (.iastore, 1) := by decide +kernel
theorem dX7_clearsPart_39 : decode cX7_clearsPart 39 = .ok (.aload_n 0, 1) := by decide +kernel
theorem dX7_clearsPart_40 : decode cX7_clearsPart 40 = .ok (.getfield 44, 3) := by decide +kernel
theorem dX7_clearsPart_43 : decode cX7_clearsPart 43 = .ok (.iload_n 1, 1) := by decide +kernel
theorem dX7_clearsPart_44 : decode cX7_clearsPart 44 = .ok (.invokestatic 359, 3) := by decide +kernel
theorem dX7_clearsPart_47 : decode cX7_clearsPart 47 = .ok (.bipush 6, 2) := by decide +kernel
theorem dX7_clearsPart_49 : decode cX7_clearsPart 49 = .ok (.iadd, 1) := by decide +kernel
theorem dX7_clearsPart_50 : decode cX7_clearsPart 50 = .ok (.bipush (-2), 2) := by decide +kernel
theorem dX7_clearsPart_52 : decode cX7_clearsPart 52 = .ok (.iastore, 1) := by decide +kernel
theorem dX7_clearsPart_53 : decode cX7_clearsPart 53 = .ok (.return_, 1) := by decide +kernel
theorem dX7_isUnderWay_0 : decode cX7_isUnderWay 0 = .ok (.iconst 0, 1) := by decide +kernel
theorem dX7_isUnderWay_1 : decode cX7_isUnderWay 1 = .ok (.istore_n 1, 1) := by decide +kernel
theorem dX7_isUnderWay_2 : decode cX7_isUnderWay 2 = .ok (.iload_n 1, 1) := by decide +kernel
theorem dX7_isUnderWay_3 : decode cX7_isUnderWay 3 = .ok (.aload_n 0, 1) := by decide +kernel
theorem dX7_isUnderWay_4 : decode cX7_isUnderWay 4 = .ok (.getfield 235, 3) := by decide +kernel
theorem dX7_isUnderWay_7 : decode cX7_isUnderWay 7 = .ok (.if_icmp .ge 20, 3) := by decide +kernel
theorem dX7_isUnderWay_10 : decode cX7_isUnderWay 10 = .ok (.aload_n 0, 1) := by decide +kernel
theorem dX7_isUnderWay_11 : decode cX7_isUnderWay 11 = .ok (.iload_n 1, 1) := by decide +kernel
theorem dX7_isUnderWay_12 : decode cX7_isUnderWay 12 = .ok (.iconst 0, 1) := by decide +kernel
theorem dX7_isUnderWay_13 : decode cX7_isUnderWay 13 = .ok (.invokevirtual 362, 3) := by decide +kernel
theorem dX7_isUnderWay_16 : decode cX7_isUnderWay 16 = .ok (.ifCond .eq 5, 3) := by decide +kernel
theorem dX7_isUnderWay_19 : decode cX7_isUnderWay 19 = .ok (.iconst 1, 1) := by decide +kernel
theorem dX7_isUnderWay_20 : decode cX7_isUnderWay 20 = .ok (.ireturn, 1) := by decide +kernel
theorem dX7_isUnderWay_21 : decode cX7_isUnderWay 21 = .ok (.iinc 1 1, 3) := by decide +kernel
theorem dX7_isUnderWay_24 : decode cX7_isUnderWay 24 = .ok (.goto (-22), 3) := by decide +kernel
theorem dX7_isUnderWay_27 : decode cX7_isUnderWay 27 = .ok (.iconst 0, 1) := by decide +kernel
theorem dX7_isUnderWay_28 : decode cX7_isUnderWay 28 = .ok (.ireturn, 1) := by decide +kernel
theorem dX7_sends_0 : decode cX7_sends 0 = .ok (.aload_n 0, 1) := by decide +kernel
theorem dX7_sends_1 : decode cX7_sends 1 = .ok (.iload_n 1, 1) := by decide +kernel
theorem dX7_sends_2 : decode cX7_sends 2 = .ok (.invokevirtual 258, 3) := by decide +kernel
theorem dX7_sends_5 : decode cX7_sends 5 = .ok (.iload_n 1, 1) := by decide +kernel
theorem dX7_sends_6 : decode cX7_sends 6 = .ok (.invokestatic 359, 3) := by decide +kernel
theorem dX7_sends_9 : decode cX7_sends 9 = .ok (.istore_n 3, 1) := by decide +kernel
theorem dX7_sends_10 : decode cX7_sends 10 = .ok (.aload_n 0, 1) := by decide +kernel
theorem dX7_sends_11 : decode cX7_sends 11 = .ok (.getfield 44, 3) := by decide +kernel
theorem dX7_sends_14 : decode cX7_sends 14 = .ok (.iload_n 3, 1) := by decide +kernel
theorem dX7_sends_15 : decode cX7_sends 15 = .ok (.iconst 0, 1) := by decide +kernel
theorem dX7_sends_16 : decode cX7_sends 16 = .ok (.iadd, 1) := by decide +kernel
theorem dX7_sends_17 : decode cX7_sends 17 = .ok (.iconst 1, 1) := by decide +kernel
theorem dX7_sends_18 : decode cX7_sends 18 = .ok (.iastore, 1) := by decide +kernel
theorem dX7_sends_19 : decode cX7_sends 19 = .ok (.aload_n 0, 1) := by decide +kernel
theorem dX7_sends_20 : decode cX7_sends 20 = .ok (.getfield 44, 3) := by decide +kernel
theorem dX7_sends_23 : decode cX7_sends 23 = .ok (.iload_n 3, 1) := by decide +kernel
theorem dX7_sends_24 : decode cX7_sends 24 = .ok (.iconst 1, 1) := by decide +kernel
theorem dX7_sends_25 : decode cX7_sends 25 = .ok (.iadd, 1) := by decide +kernel
theorem dX7_sends_26 : decode cX7_sends 26 = .ok (.iload_n 2, 1) := by decide +kernel
theorem dX7_sends_27 : decode cX7_sends 27 = .ok (.iastore, 1) := by decide +kernel
theorem dX7_sends_28 : decode cX7_sends 28 = .ok (.aload_n 0, 1) := by decide +kernel
theorem dX7_sends_29 : decode cX7_sends 29 = .ok (.getfield 44, 3) := by decide +kernel
theorem dX7_sends_32 : decode cX7_sends 32 = .ok (.iload_n 3, 1) := by decide +kernel
theorem dX7_sends_33 : decode cX7_sends 33 = .ok (.iconst 3, 1) := by decide +kernel
theorem dX7_sends_34 : decode cX7_sends 34 = .ok (.iadd, 1) := by decide +kernel
theorem dX7_sends_35 : decode cX7_sends 35 = .ok (.aload_n 0, 1) := by decide +kernel
theorem dX7_sends_36 : decode cX7_sends 36 = .ok (.iload_n 1, 1) := by decide +kernel
theorem dX7_sends_37 : decode cX7_sends 37 = .ok (.iload_n 2, 1) := by decide +kernel
theorem dX7_sends_38 : decode cX7_sends 38 = .ok (.invokevirtual 297, 3) := by decide +kernel
theorem dX7_sends_41 : decode cX7_sends 41 = .ok (.iastore, 1) := by decide +kernel
theorem dX7_sends_42 : decode cX7_sends 42 = .ok (.aload_n 0, 1) := by decide +kernel
theorem dX7_sends_43 : decode cX7_sends 43 = .ok (.getfield 44, 3) := by decide +kernel
theorem dX7_sends_46 : decode cX7_sends 46 = .ok (.iload_n 3, 1) := by decide +kernel
theorem dX7_sends_47 : decode cX7_sends 47 = .ok (.iconst 4, 1) := by decide +kernel
theorem dX7_sends_48 : decode cX7_sends 48 = .ok (.iadd, 1) := by decide +kernel
theorem dX7_sends_49 : decode cX7_sends 49 = .ok (.aload_n 0, 1) := by decide +kernel
theorem dX7_sends_50 : decode cX7_sends 50 = .ok (.iload_n 1, 1) := by decide +kernel
theorem dX7_sends_51 : decode cX7_sends 51 = .ok (.iload_n 2, 1) := by decide +kernel
theorem dX7_sends_52 : decode cX7_sends 52 = .ok (.invokevirtual 365, 3) := by decide +kernel
theorem dX7_sends_55 : decode cX7_sends 55 = .ok (.iastore, 1) := by decide +kernel
theorem dX7_sends_56 : decode cX7_sends 56 = .ok (.aload_n 0, 1) := by decide +kernel
theorem dX7_sends_57 : decode cX7_sends 57 = .ok (.getfield 44, 3) := by decide +kernel
theorem dX7_sends_60 : decode cX7_sends 60 = .ok (.iload_n 3, 1) := by decide +kernel
theorem dX7_sends_61 : decode cX7_sends 61 = .ok (.iconst 5, 1) := by decide +kernel
theorem dX7_sends_62 : decode cX7_sends 62 = .ok (.iadd, 1) := by decide +kernel
theorem dX7_sends_63 : decode cX7_sends 63 = .ok (.aload_n 0, 1) := by decide +kernel
theorem dX7_sends_64 : decode cX7_sends 64 = .ok (.getfield 44, 3) := by decide +kernel
theorem dX7_sends_67 : decode cX7_sends 67 = .ok (.bipush 37, 2) := by decide +kernel
theorem dX7_sends_69 : decode cX7_sends 69 = .ok (.iaload, 1) := by decide +kernel
theorem dX7_sends_70 : decode cX7_sends 70 = .ok (.aload_n 0, 1) := by decide +kernel
theorem dX7_sends_71 : decode cX7_sends 71 = .ok (.iload_n 1, 1) := by decide +kernel
theorem dX7_sends_72 : decode cX7_sends 72 = .ok (.iconst 3, 1) := by decide +kernel
theorem dX7_sends_73 : decode cX7_sends 73 = .ok (.invokevirtual 261, 3) := by decide +kernel
theorem dX7_sends_76 : decode cX7_sends 76 = .ok (.iadd, 1) := by decide +kernel
theorem dX7_sends_77 : decode cX7_sends 77 = .ok (.iastore, 1) := by decide +kernel
theorem dX7_sends_78 : decode cX7_sends 78 = .ok (.return_, 1) := by decide +kernel
theorem dX7_beginsRound_0 : decode cX7_beginsRound 0 = .ok (.aload_n 0, 1) := by decide +kernel
theorem dX7_beginsRound_1 : decode cX7_beginsRound 1 = .ok (.invokevirtual 368, 3) := by decide +kernel
theorem dX7_beginsRound_4 : decode cX7_beginsRound 4 = .ok (.ifCond .ne 13, 3) := by decide +kernel
theorem dX7_beginsRound_7 : decode cX7_beginsRound 7 = .ok (.aload_n 0, 1) := by decide +kernel
theorem dX7_beginsRound_8 : decode cX7_beginsRound 8 = .ok (.getfield 44, 3) := by decide +kernel
theorem dX7_beginsRound_11 : decode cX7_beginsRound 11 = .ok (.bipush 38, 2) := by decide +kernel
theorem dX7_beginsRound_13 : decode cX7_beginsRound 13 = .ok (.iaload, 1) := by decide +kernel
theorem dX7_beginsRound_14 : decode cX7_beginsRound 14 = .ok (.ifCond .gt 5, 3) := by decide +kernel
theorem dX7_beginsRound_17 : decode cX7_beginsRound 17 = .ok (.iconst 0, 1) := by decide +kernel
theorem dX7_beginsRound_18 : decode cX7_beginsRound 18 = .ok (.ireturn, 1) := by decide +kernel
theorem dX7_beginsRound_19 : decode cX7_beginsRound 19 = .ok (.aload_n 0, 1) := by decide +kernel
theorem dX7_beginsRound_20 : decode cX7_beginsRound 20 = .ok (.aload_n 0, 1) := by decide +kernel
theorem dX7_beginsRound_21 : decode cX7_beginsRound 21 = .ok (.getfield 44, 3) := by decide +kernel
theorem dX7_beginsRound_24 : decode cX7_beginsRound 24 = .ok (.bipush 38, 2) := by decide +kernel
theorem dX7_beginsRound_26 : decode cX7_beginsRound 26 = .ok (.iaload, 1) := by decide +kernel
theorem dX7_beginsRound_27 : decode cX7_beginsRound 27 = .ok (.iconst (-1), 1) := by decide +kernel
theorem dX7_beginsRound_28 : decode cX7_beginsRound 28 = .ok (.invokevirtual 322, 3) := by decide +kernel
theorem dX7_beginsRound_31 : decode cX7_beginsRound 31 = .ok (.aload_n 0, 1) := by decide +kernel
theorem dX7_beginsRound_32 : decode cX7_beginsRound 32 = .ok (.getfield 305, 3) := by decide +kernel
theorem dX7_beginsRound_35 : decode cX7_beginsRound 35 = .ok (.ifCond .ne 5, 3) := by decide +kernel
theorem dX7_beginsRound_38 : decode cX7_beginsRound 38 = .ok (.iconst 0, 1) := by decide +kernel
theorem dX7_beginsRound_39 : decode cX7_beginsRound 39 = .ok (.ireturn, 1) := by decide +kernel
theorem dX7_beginsRound_40 : decode cX7_beginsRound 40 = .ok (.aload_n 0, 1) := by decide +kernel
theorem dX7_beginsRound_41 : decode cX7_beginsRound 41 = .ok (.invokevirtual 347, 3) := by decide +kernel
theorem dX7_beginsRound_44 : decode cX7_beginsRound 44 = .ok (.istore_n 1, 1) := by decide +kernel
theorem dX7_beginsRound_45 : decode cX7_beginsRound 45 = .ok (.aload_n 0, 1) := by decide +kernel
theorem dX7_beginsRound_46 : decode cX7_beginsRound 46 = .ok (.getfield 44, 3) := by decide +kernel
theorem dX7_beginsRound_49 : decode cX7_beginsRound 49 = .ok (.bipush 42, 2) := by decide +kernel
theorem dX7_beginsRound_51 : decode cX7_beginsRound 51 = .ok (.iaload, 1) := by decide +kernel
theorem dX7_beginsRound_52 : decode cX7_beginsRound 52 = .ok (.ifCond .ne 45, 3) := by decide +kernel
theorem dX7_beginsRound_55 : decode cX7_beginsRound 55 = .ok (.iload_n 1, 1) := by decide +kernel
theorem dX7_beginsRound_56 : decode cX7_beginsRound 56 = .ok (.ifCond .le 41, 3) := by decide +kernel
theorem dX7_beginsRound_59 : decode cX7_beginsRound 59 = .ok (.aload_n 0, 1) := by decide +kernel
theorem dX7_beginsRound_60 : decode cX7_beginsRound 60 = .ok (.invokevirtual 350, 3) := by decide +kernel
theorem dX7_beginsRound_63 : decode cX7_beginsRound 63 = .ok (.ifCond .eq 34, 3) := by decide +kernel
theorem dX7_beginsRound_66 : decode cX7_beginsRound 66 = .ok (.iconst 0, 1) := by decide +kernel
theorem dX7_beginsRound_67 : decode cX7_beginsRound 67 = .ok (.istore_n 2, 1) := by decide +kernel
theorem dX7_beginsRound_68 : decode cX7_beginsRound 68 = .ok (.iload_n 2, 1) := by decide +kernel
theorem dX7_beginsRound_69 : decode cX7_beginsRound 69 = .ok (.aload_n 0, 1) := by decide +kernel
theorem dX7_beginsRound_70 : decode cX7_beginsRound 70 = .ok (.getfield 235, 3) := by decide +kernel
theorem dX7_beginsRound_73 : decode cX7_beginsRound 73 = .ok (.if_icmp .ge 24, 3) := by decide +kernel
theorem dX7_beginsRound_76 : decode cX7_beginsRound 76 = .ok (.aload_n 0, 1) := by decide +kernel
theorem dX7_beginsRound_77 : decode cX7_beginsRound 77 = .ok (.getfield 60, 3) := by decide +kernel
theorem dX7_beginsRound_80 : decode cX7_beginsRound 80 = .ok (.iload_n 2, 1) := by decide +kernel
theorem dX7_beginsRound_81 : decode cX7_beginsRound 81 = .ok (.aload_n 0, 1) := by decide +kernel
theorem dX7_beginsRound_82 : decode cX7_beginsRound 82 = .ok (.getfield 44, 3) := by decide +kernel
theorem dX7_beginsRound_85 : decode cX7_beginsRound 85 = .ok (.bipush 43, 2) := by decide +kernel
theorem dX7_beginsRound_87 : decode cX7_beginsRound 87 = .ok (.iload_n 2, 1) := by decide +kernel
theorem dX7_beginsRound_88 : decode cX7_beginsRound 88 = .ok (.iadd, 1) := by decide +kernel
theorem dX7_beginsRound_89 : decode cX7_beginsRound 89 = .ok (.iaload, 1) := by decide +kernel
theorem dX7_beginsRound_90 : decode cX7_beginsRound 90 = .ok (.iastore, 1) := by decide +kernel
theorem dX7_beginsRound_91 : decode cX7_beginsRound 91 = .ok (.iinc 2 1, 3) := by decide +kernel
theorem dX7_beginsRound_94 : decode cX7_beginsRound 94 = .ok (.goto (-26), 3) := by decide +kernel
theorem dX7_beginsRound_97 : decode cX7_beginsRound 97 = .ok (.aload_n 0, 1) := by decide +kernel
theorem dX7_beginsRound_98 : decode cX7_beginsRound 98 = .ok (.getfield 44, 3) := by decide +kernel
theorem dX7_beginsRound_101 : decode cX7_beginsRound 101 = .ok (.bipush 42, 2) := by decide +kernel
theorem dX7_beginsRound_103 : decode cX7_beginsRound 103 = .ok (.dup2, 1) := by decide +kernel
theorem dX7_beginsRound_104 : decode cX7_beginsRound 104 = .ok (.iaload, 1) := by decide +kernel
theorem dX7_beginsRound_105 : decode cX7_beginsRound 105 = .ok (.iconst 1, 1) := by decide +kernel
theorem dX7_beginsRound_106 : decode cX7_beginsRound 106 = .ok (.iadd, 1) := by decide +kernel
theorem dX7_beginsRound_107 : decode cX7_beginsRound 107 = .ok (.iastore, 1) := by decide +kernel
theorem dX7_beginsRound_108 : decode cX7_beginsRound 108 = .ok (.iconst 0, 1) := by decide +kernel
theorem dX7_beginsRound_109 : decode cX7_beginsRound 109 = .ok (.istore_n 2, 1) := by decide +kernel
theorem dX7_beginsRound_110 : decode cX7_beginsRound 110 = .ok (.iconst 0, 1) := by decide +kernel
theorem dX7_beginsRound_111 : decode cX7_beginsRound 111 = .ok (.istore_n 3, 1) := by decide +kernel
theorem dX7_beginsRound_112 : decode cX7_beginsRound 112 = .ok (.iload_n 3, 1) := by decide +kernel
theorem dX7_beginsRound_113 : decode cX7_beginsRound 113 = .ok (.aload_n 0, 1) := by decide +kernel
theorem dX7_beginsRound_114 : decode cX7_beginsRound 114 = .ok (.getfield 235, 3) := by decide +kernel
theorem dX7_beginsRound_117 : decode cX7_beginsRound 117 = .ok (.if_icmp .ge 35, 3) := by decide +kernel
theorem dX7_beginsRound_120 : decode cX7_beginsRound 120 = .ok (.aload_n 0, 1) := by decide +kernel
theorem dX7_beginsRound_121 : decode cX7_beginsRound 121 = .ok (.getfield 60, 3) := by decide +kernel
theorem dX7_beginsRound_124 : decode cX7_beginsRound 124 = .ok (.iload_n 3, 1) := by decide +kernel
theorem dX7_beginsRound_125 : decode cX7_beginsRound 125 = .ok (.iaload, 1) := by decide +kernel
theorem dX7_beginsRound_126 : decode cX7_beginsRound 126 = .ok (.ifCond .ne 6, 3) := by decide +kernel
theorem dX7_beginsRound_129 : decode cX7_beginsRound 129 = .ok (.goto 17, 3) := by decide +kernel
theorem dX7_beginsRound_132 : decode cX7_beginsRound 132 = .ok (.aload_n 0, 1) := by decide +kernel
theorem dX7_beginsRound_133 : decode cX7_beginsRound 133 = .ok (.iload_n 3, 1) := by decide +kernel
theorem dX7_beginsRound_134 : decode cX7_beginsRound 134 = .ok (.aload_n 0, 1) := by decide +kernel
theorem dX7_beginsRound_135 : decode cX7_beginsRound 135 = .ok (.getfield 60, 3) := by decide +kernel
theorem dX7_beginsRound_138 : decode cX7_beginsRound 138 = .ok (.iload_n 3, 1) := by decide +kernel
theorem dX7_beginsRound_139 : decode cX7_beginsRound 139 = .ok (.iaload, 1) := by decide +kernel
theorem dX7_beginsRound_140 : decode cX7_beginsRound 140 = .ok (.invokevirtual 371, 3) := by decide +kernel
theorem dX7_beginsRound_143 : decode cX7_beginsRound 143 = .ok (.iinc 2 1, 3) := by decide +kernel
theorem dX7_beginsRound_146 : decode cX7_beginsRound 146 = .ok (.iinc 3 1, 3) := by decide +kernel
theorem dX7_beginsRound_149 : decode cX7_beginsRound 149 = .ok (.goto (-37), 3) := by decide +kernel
theorem dX7_beginsRound_152 : decode cX7_beginsRound 152 = .ok (.iload_n 2, 1) := by decide +kernel
theorem dX7_beginsRound_153 : decode cX7_beginsRound 153 = .ok (.ireturn, 1) := by decide +kernel
theorem dX7_notes_0 : decode cX7_notes 0 = .ok (.bipush 89, 2) := by decide +kernel
theorem dX7_notes_2 : decode cX7_notes 2 = .ok (.istore 4, 2) := by decide +kernel
theorem dX7_notes_4 : decode cX7_notes 4 = .ok (.iconst 0, 1) := by decide +kernel
theorem dX7_notes_5 : decode cX7_notes 5 = .ok (.istore 5, 2) := by decide +kernel
theorem dX7_notes_7 : decode cX7_notes 7 = .ok (.iload 5, 2) := by decide +kernel
theorem dX7_notes_9 : decode cX7_notes 9 = .ok (.aload_n 0, 1) := by decide +kernel
theorem dX7_notes_10 : decode cX7_notes 10 = .ok (.getfield 44, 3) := by decide +kernel
theorem dX7_notes_13 : decode cX7_notes 13 = .ok (.bipush 88, 2) := by decide +kernel
theorem dX7_notes_15 : decode cX7_notes 15 = .ok (.iaload, 1) := by decide +kernel
theorem dX7_notes_16 : decode cX7_notes 16 = .ok (.if_icmp .ge 53, 3) := by decide +kernel
theorem dX7_notes_19 : decode cX7_notes 19 = .ok (.aload_n 0, 1) := by decide +kernel
theorem dX7_notes_20 : decode cX7_notes 20 = .ok (.getfield 44, 3) := by decide +kernel
theorem dX7_notes_23 : decode cX7_notes 23 = .ok (.iload 4, 2) := by decide +kernel
theorem dX7_notes_25 : decode cX7_notes 25 = .ok (.iaload, 1) := by decide +kernel
theorem dX7_notes_26 : decode cX7_notes 26 = .ok (.iload_n 1, 1) := by decide +kernel
theorem dX7_notes_27 : decode cX7_notes 27 = .ok (.if_icmp .ne 33, 3) := by decide +kernel
theorem dX7_notes_30 : decode cX7_notes 30 = .ok (.aload_n 0, 1) := by decide +kernel
theorem dX7_notes_31 : decode cX7_notes 31 = .ok (.getfield 44, 3) := by decide +kernel
theorem dX7_notes_34 : decode cX7_notes 34 = .ok (.iload 4, 2) := by decide +kernel
theorem dX7_notes_36 : decode cX7_notes 36 = .ok (.iconst 1, 1) := by decide +kernel
theorem dX7_notes_37 : decode cX7_notes 37 = .ok (.iadd, 1) := by decide +kernel
theorem dX7_notes_38 : decode cX7_notes 38 = .ok (.iaload, 1) := by decide +kernel
theorem dX7_notes_39 : decode cX7_notes 39 = .ok (.iload_n 2, 1) := by decide +kernel
theorem dX7_notes_40 : decode cX7_notes 40 = .ok (.if_icmp .eq 6, 3) := by decide +kernel
theorem dX7_notes_43 : decode cX7_notes 43 = .ok (.goto 17, 3) := by decide +kernel
theorem dX7_notes_46 : decode cX7_notes 46 = .ok (.aload_n 0, 1) := by decide +kernel
theorem dX7_notes_47 : decode cX7_notes 47 = .ok (.getfield 44, 3) := by decide +kernel
theorem dX7_notes_50 : decode cX7_notes 50 = .ok (.iload 4, 2) := by decide +kernel
theorem dX7_notes_52 : decode cX7_notes 52 = .ok (.iconst 2, 1) := by decide +kernel
theorem dX7_notes_53 : decode cX7_notes 53 = .ok (.iadd, 1) := by decide +kernel
theorem dX7_notes_54 : decode cX7_notes 54 = .ok (.dup2, 1) := by decide +kernel
theorem dX7_notes_55 : decode cX7_notes 55 = .ok (.iaload, 1) := by decide +kernel
theorem dX7_notes_56 : decode cX7_notes 56 = .ok (.iload_n 3, 1) := by decide +kernel
theorem dX7_notes_57 : decode cX7_notes 57 = .ok (.iadd, 1) := by decide +kernel
theorem dX7_notes_58 : decode cX7_notes 58 = .ok (.iastore, 1) := by decide +kernel
theorem dX7_notes_59 : decode cX7_notes 59 = .ok (.return_, 1) := by decide +kernel
theorem dX7_notes_60 : decode cX7_notes 60 = .ok (.iinc 5 1, 3) := by decide +kernel
theorem dX7_notes_63 : decode cX7_notes 63 = .ok (.iinc 4 3, 3) := by decide +kernel
theorem dX7_notes_66 : decode cX7_notes 66 = .ok (.goto (-59), 3) := by decide +kernel
theorem dX7_notes_69 : decode cX7_notes 69 = .ok (.aload_n 0, 1) := by decide +kernel
theorem dX7_notes_70 : decode cX7_notes 70 = .ok (.getfield 44, 3) := by decide +kernel
theorem dX7_notes_73 : decode cX7_notes 73 = .ok (.iload 4, 2) := by decide +kernel
theorem dX7_notes_75 : decode cX7_notes 75 = .ok (.iload_n 1, 1) := by decide +kernel
theorem dX7_notes_76 : decode cX7_notes 76 = .ok (.iastore, 1) := by decide +kernel
theorem dX7_notes_77 : decode cX7_notes 77 = .ok (.aload_n 0, 1) := by decide +kernel
theorem dX7_notes_78 : decode cX7_notes 78 = .ok (.getfield 44, 3) := by decide +kernel
theorem dX7_notes_81 : decode cX7_notes 81 = .ok (.iload 4, 2) := by decide +kernel
theorem dX7_notes_83 : decode cX7_notes 83 = .ok (.iconst 1, 1) := by decide +kernel
theorem dX7_notes_84 : decode cX7_notes 84 = .ok (.iadd, 1) := by decide +kernel
theorem dX7_notes_85 : decode cX7_notes 85 = .ok (.iload_n 2, 1) := by decide +kernel
theorem dX7_notes_86 : decode cX7_notes 86 = .ok (.iastore, 1) := by decide +kernel
theorem dX7_notes_87 : decode cX7_notes 87 = .ok (.aload_n 0, 1) := by decide +kernel
theorem dX7_notes_88 : decode cX7_notes 88 = .ok (.getfield 44, 3) := by decide +kernel
theorem dX7_notes_91 : decode cX7_notes 91 = .ok (.iload 4, 2) := by decide +kernel
theorem dX7_notes_93 : decode cX7_notes 93 = .ok (.iconst 2, 1) := by decide +kernel
theorem dX7_notes_94 : decode cX7_notes 94 = .ok (.iadd, 1) := by decide +kernel
theorem dX7_notes_95 : decode cX7_notes 95 = .ok (.iload_n 3, 1) := by decide +kernel
theorem dX7_notes_96 : decode cX7_notes 96 = .ok (.iastore, 1) := by decide +kernel
theorem dX7_notes_97 : decode cX7_notes 97 = .ok (.aload_n 0, 1) := by decide +kernel
theorem dX7_notes_98 : decode cX7_notes 98 = .ok (.getfield 44, 3) := by decide +kernel
theorem dX7_notes_101 : decode cX7_notes 101 = .ok (.bipush 88, 2) := by decide +kernel
theorem dX7_notes_103 : decode cX7_notes 103 = .ok (.dup2, 1) := by decide +kernel
theorem dX7_notes_104 : decode cX7_notes 104 = .ok (.iaload, 1) := by decide +kernel
theorem dX7_notes_105 : decode cX7_notes 105 = .ok (.iconst 1, 1) := by decide +kernel
theorem dX7_notes_106 : decode cX7_notes 106 = .ok (.iadd, 1) := by decide +kernel
theorem dX7_notes_107 : decode cX7_notes 107 = .ok (.iastore, 1) := by decide +kernel
theorem dX7_notes_108 : decode cX7_notes 108 = .ok (.return_, 1) := by decide +kernel
theorem dX7_buys_0 : decode cX7_buys 0 = .ok (.iload_n 1, 1) := by decide +kernel
theorem dX7_buys_1 : decode cX7_buys 1 = .ok (.invokestatic 359, 3) := by decide +kernel
theorem dX7_buys_4 : decode cX7_buys 4 = .ok (.istore_n 2, 1) := by decide +kernel
theorem dX7_buys_5 : decode cX7_buys 5 = .ok (.aload_n 0, 1) := by decide +kernel
theorem dX7_buys_6 : decode cX7_buys 6 = .ok (.getfield 44, 3) := by decide +kernel
theorem dX7_buys_9 : decode cX7_buys 9 = .ok (.iload_n 2, 1) := by decide +kernel
theorem dX7_buys_10 : decode cX7_buys 10 = .ok (.iconst 1, 1) := by decide +kernel
theorem dX7_buys_11 : decode cX7_buys 11 = .ok (.iadd, 1) := by decide +kernel
theorem dX7_buys_12 : decode cX7_buys 12 = .ok (.iaload, 1) := by decide +kernel
theorem dX7_buys_13 : decode cX7_buys 13 = .ok (.aload_n 0, 1) := by decide +kernel
theorem dX7_buys_14 : decode cX7_buys 14 = .ok (.getfield 44, 3) := by decide +kernel
theorem dX7_buys_17 : decode cX7_buys 17 = .ok (.iload_n 2, 1) := by decide +kernel
theorem dX7_buys_18 : decode cX7_buys 18 = .ok (.iconst 2, 1) := by decide +kernel
theorem dX7_buys_19 : decode cX7_buys 19 = .ok (.iadd, 1) := by decide +kernel
theorem dX7_buys_20 : decode cX7_buys 20 = .ok (.iaload, 1) := by decide +kernel
theorem dX7_buys_21 : decode cX7_buys 21 = .ok (.isub, 1) := by decide +kernel
theorem dX7_buys_22 : decode cX7_buys 22 = .ok (.istore_n 3, 1) := by decide +kernel
theorem dX7_buys_23 : decode cX7_buys 23 = .ok (.aload_n 0, 1) := by decide +kernel
theorem dX7_buys_24 : decode cX7_buys 24 = .ok (.iload_n 1, 1) := by decide +kernel
theorem dX7_buys_25 : decode cX7_buys 25 = .ok (.aload_n 0, 1) := by decide +kernel
theorem dX7_buys_26 : decode cX7_buys 26 = .ok (.getfield 44, 3) := by decide +kernel
theorem dX7_buys_29 : decode cX7_buys 29 = .ok (.iload_n 2, 1) := by decide +kernel
theorem dX7_buys_30 : decode cX7_buys 30 = .ok (.iconst 4, 1) := by decide +kernel
theorem dX7_buys_31 : decode cX7_buys 31 = .ok (.iadd, 1) := by decide +kernel
theorem dX7_buys_32 : decode cX7_buys 32 = .ok (.iaload, 1) := by decide +kernel
theorem dX7_buys_33 : decode cX7_buys 33 = .ok (.invokevirtual 270, 3) := by decide +kernel
theorem dX7_buys_36 : decode cX7_buys 36 = .ok (.istore 4, 2) := by decide +kernel
theorem dX7_buys_38 : decode cX7_buys 38 = .ok (.iload_n 3, 1) := by decide +kernel
theorem dX7_buys_39 : decode cX7_buys 39 = .ok (.iload 4, 2) := by decide +kernel
theorem dX7_buys_41 : decode cX7_buys 41 = .ok (.if_icmp .ge 7, 3) := by decide +kernel
theorem dX7_buys_44 : decode cX7_buys 44 = .ok (.iload_n 3, 1) := by decide +kernel
theorem dX7_buys_45 : decode cX7_buys 45 = .ok (.goto 5, 3) := by decide +kernel
theorem dX7_buys_48 : decode cX7_buys 48 = .ok (.iload 4, 2) := by decide +kernel
theorem dX7_buys_50 : decode cX7_buys 50 = .ok (.aload_n 0, 1) := by decide +kernel
theorem dX7_buys_51 : decode cX7_buys 51 = .ok (.iload_n 1, 1) := by decide +kernel
theorem dX7_buys_52 : decode cX7_buys 52 = .ok (.invokevirtual 288, 3) := by decide +kernel
theorem dX7_buys_55 : decode cX7_buys 55 = .ok (.idiv, 1) := by decide +kernel
theorem dX7_buys_56 : decode cX7_buys 56 = .ok (.aload_n 0, 1) := by decide +kernel
theorem dX7_buys_57 : decode cX7_buys 57 = .ok (.iload_n 1, 1) := by decide +kernel
theorem dX7_buys_58 : decode cX7_buys 58 = .ok (.invokevirtual 288, 3) := by decide +kernel
theorem dX7_buys_61 : decode cX7_buys 61 = .ok (.imul, 1) := by decide +kernel
theorem dX7_buys_62 : decode cX7_buys 62 = .ok (.istore 5, 2) := by decide +kernel
theorem dX7_buys_64 : decode cX7_buys 64 = .ok (.iload 5, 2) := by decide +kernel
theorem dX7_buys_66 : decode cX7_buys 66 = .ok (.istore 6, 2) := by decide +kernel
theorem dX7_buys_68 : decode cX7_buys 68 = .ok (.iconst 0, 1) := by decide +kernel
theorem dX7_buys_69 : decode cX7_buys 69 = .ok (.istore 7, 2) := by decide +kernel
theorem dX7_buys_71 : decode cX7_buys 71 = .ok (.iload 7, 2) := by decide +kernel
theorem dX7_buys_73 : decode cX7_buys 73 = .ok (.aload_n 0, 1) := by decide +kernel
theorem dX7_buys_74 : decode cX7_buys 74 = .ok (.iload_n 1, 1) := by decide +kernel
theorem dX7_buys_75 : decode cX7_buys 75 = .ok (.invokevirtual 255, 3) := by decide +kernel
theorem dX7_buys_78 : decode cX7_buys 78 = .ok (.if_icmp .ge 130, 3) := by decide +kernel
theorem dX7_buys_81 : decode cX7_buys 81 = .ok (.iload 6, 2) := by decide +kernel
theorem dX7_buys_83 : decode cX7_buys 83 = .ok (.ifCond .le 125, 3) := by decide +kernel
theorem dX7_buys_86 : decode cX7_buys 86 = .ok (.iload 6, 2) := by decide +kernel
theorem dX7_buys_88 : decode cX7_buys 88 = .ok (.aload_n 0, 1) := by decide +kernel
theorem dX7_buys_89 : decode cX7_buys 89 = .ok (.iload_n 1, 1) := by decide +kernel
theorem dX7_buys_90 : decode cX7_buys 90 = .ok (.iload 7, 2) := by decide +kernel
theorem dX7_buys_92 : decode cX7_buys 92 = .ok (.invokevirtual 267, 3) := by decide +kernel
theorem dX7_buys_95 : decode cX7_buys 95 = .ok (.if_icmp .ge 8, 3) := by decide +kernel
theorem dX7_buys_98 : decode cX7_buys 98 = .ok (.iload 6, 2) := by decide +kernel
theorem dX7_buys_100 : decode cX7_buys 100 = .ok (.goto 10, 3) := by decide +kernel
theorem dX7_buys_103 : decode cX7_buys 103 = .ok (.aload_n 0, 1) := by decide +kernel
theorem dX7_buys_104 : decode cX7_buys 104 = .ok (.iload_n 1, 1) := by decide +kernel
theorem dX7_buys_105 : decode cX7_buys 105 = .ok (.iload 7, 2) := by decide +kernel
theorem dX7_buys_107 : decode cX7_buys 107 = .ok (.invokevirtual 267, 3) := by decide +kernel
theorem dX7_buys_110 : decode cX7_buys 110 = .ok (.istore 8, 2) := by decide +kernel
theorem dX7_buys_112 : decode cX7_buys 112 = .ok (.iload 8, 2) := by decide +kernel
theorem dX7_buys_114 : decode cX7_buys 114 = .ok (.ifCond .ne 6, 3) := by decide +kernel
theorem dX7_buys_117 : decode cX7_buys 117 = .ok (.goto 85, 3) := by decide +kernel
theorem dX7_buys_120 : decode cX7_buys 120 = .ok (.aload_n 0, 1) := by decide +kernel
theorem dX7_buys_121 : decode cX7_buys 121 = .ok (.getfield 44, 3) := by decide +kernel
theorem dX7_buys_124 : decode cX7_buys 124 = .ok (.iconst 0, 1) := by decide +kernel
theorem dX7_buys_125 : decode cX7_buys 125 = .ok (.bipush 6, 2) := by decide +kernel
theorem dX7_buys_127 : decode cX7_buys 127 = .ok (.iload_n 1, 1) := by decide +kernel
theorem dX7_buys_128 : decode cX7_buys 128 = .ok (.imul, 1) := by decide +kernel
theorem dX7_buys_129 : decode cX7_buys 129 = .ok (.iadd, 1) := by decide +kernel
theorem dX7_buys_130 : decode cX7_buys 130 = .ok (.iload 7, 2) := by decide +kernel
theorem dX7_buys_132 : decode cX7_buys 132 = .ok (.iadd, 1) := by decide +kernel
theorem dX7_buys_133 : decode cX7_buys 133 = .ok (.dup2, 1) := by decide +kernel
theorem dX7_buys_134 : decode cX7_buys 134 = .ok (.iaload, 1) := by decide +kernel
theorem dX7_buys_135 : decode cX7_buys 135 = .ok (.iload 8, 2) := by decide +kernel
theorem dX7_buys_137 : decode cX7_buys 137 = .ok (.isub, 1) := by decide +kernel
theorem dX7_buys_138 : decode cX7_buys 138 = .ok (.iastore, 1) := by decide +kernel
theorem dX7_buys_139 : decode cX7_buys 139 = .ok (.aload_n 0, 1) := by decide +kernel
theorem dX7_buys_140 : decode cX7_buys 140 = .ok (.getfield 44, 3) := by decide +kernel
theorem dX7_buys_143 : decode cX7_buys 143 = .ok (.iload_n 2, 1) := by decide +kernel
theorem dX7_buys_144 : decode cX7_buys 144 = .ok (.bipush 7, 2) := by decide +kernel
theorem dX7_buys_146 : decode cX7_buys 146 = .ok (.iadd, 1) := by decide +kernel
theorem dX7_buys_147 : decode cX7_buys 147 = .ok (.dup2, 1) := by decide +kernel
theorem dX7_buys_148 : decode cX7_buys 148 = .ok (.iaload, 1) := by decide +kernel
theorem dX7_buys_149 : decode cX7_buys 149 = .ok (.iload 8, 2) := by decide +kernel
theorem dX7_buys_151 : decode cX7_buys 151 = .ok (.aload_n 0, 1) := by decide +kernel
theorem dX7_buys_152 : decode cX7_buys 152 = .ok (.iload_n 1, 1) := by decide +kernel
theorem dX7_buys_153 : decode cX7_buys 153 = .ok (.iload 7, 2) := by decide +kernel
theorem dX7_buys_155 : decode cX7_buys 155 = .ok (.invokevirtual 264, 3) := by decide +kernel
theorem dX7_buys_158 : decode cX7_buys 158 = .ok (.imul, 1) := by decide +kernel
theorem dX7_buys_159 : decode cX7_buys 159 = .ok (.iadd, 1) := by decide +kernel
theorem dX7_buys_160 : decode cX7_buys 160 = .ok (.iastore, 1) := by decide +kernel
theorem dX7_buys_161 : decode cX7_buys 161 = .ok (.aload_n 0, 1) := by decide +kernel
theorem dX7_buys_162 : decode cX7_buys 162 = .ok (.getfield 44, 3) := by decide +kernel
theorem dX7_buys_165 : decode cX7_buys 165 = .ok (.bipush 40, 2) := by decide +kernel
theorem dX7_buys_167 : decode cX7_buys 167 = .ok (.dup2, 1) := by decide +kernel
theorem dX7_buys_168 : decode cX7_buys 168 = .ok (.iaload, 1) := by decide +kernel
theorem dX7_buys_169 : decode cX7_buys 169 = .ok (.iload 8, 2) := by decide +kernel
theorem dX7_buys_171 : decode cX7_buys 171 = .ok (.aload_n 0, 1) := by decide +kernel
theorem dX7_buys_172 : decode cX7_buys 172 = .ok (.iload_n 1, 1) := by decide +kernel
theorem dX7_buys_173 : decode cX7_buys 173 = .ok (.iload 7, 2) := by decide +kernel
theorem dX7_buys_175 : decode cX7_buys 175 = .ok (.invokevirtual 264, 3) := by decide +kernel
theorem dX7_buys_178 : decode cX7_buys 178 = .ok (.imul, 1) := by decide +kernel
theorem dX7_buys_179 : decode cX7_buys 179 = .ok (.iadd, 1) := by decide +kernel
theorem dX7_buys_180 : decode cX7_buys 180 = .ok (.iastore, 1) := by decide +kernel
theorem dX7_buys_181 : decode cX7_buys 181 = .ok (.aload_n 0, 1) := by decide +kernel
theorem dX7_buys_182 : decode cX7_buys 182 = .ok (.iload_n 1, 1) := by decide +kernel
theorem dX7_buys_183 : decode cX7_buys 183 = .ok (.aload_n 0, 1) := by decide +kernel
theorem dX7_buys_184 : decode cX7_buys 184 = .ok (.iload_n 1, 1) := by decide +kernel
theorem dX7_buys_185 : decode cX7_buys 185 = .ok (.iload 7, 2) := by decide +kernel
theorem dX7_buys_187 : decode cX7_buys 187 = .ok (.invokevirtual 264, 3) := by decide +kernel
theorem dX7_buys_190 : decode cX7_buys 190 = .ok (.iload 8, 2) := by decide +kernel
theorem dX7_buys_192 : decode cX7_buys 192 = .ok (.invokevirtual 374, 3) := by decide +kernel
theorem dX7_buys_195 : decode cX7_buys 195 = .ok (.iload 6, 2) := by decide +kernel
theorem dX7_buys_197 : decode cX7_buys 197 = .ok (.iload 8, 2) := by decide +kernel
theorem dX7_buys_199 : decode cX7_buys 199 = .ok (.isub, 1) := by decide +kernel
theorem dX7_buys_200 : decode cX7_buys 200 = .ok (.istore 6, 2) := by decide +kernel
theorem dX7_buys_202 : decode cX7_buys 202 = .ok (.iinc 7 1, 3) := by decide +kernel
theorem dX7_buys_205 : decode cX7_buys 205 = .ok (.goto (-134), 3) := by decide +kernel
theorem dX7_buys_208 : decode cX7_buys 208 = .ok (.aload_n 0, 1) := by decide +kernel
theorem dX7_buys_209 : decode cX7_buys 209 = .ok (.getfield 44, 3) := by decide +kernel
theorem dX7_buys_212 : decode cX7_buys 212 = .ok (.iload_n 2, 1) := by decide +kernel
theorem dX7_buys_213 : decode cX7_buys 213 = .ok (.iconst 2, 1) := by decide +kernel
theorem dX7_buys_214 : decode cX7_buys 214 = .ok (.iadd, 1) := by decide +kernel
theorem dX7_buys_215 : decode cX7_buys 215 = .ok (.dup2, 1) := by decide +kernel
theorem dX7_buys_216 : decode cX7_buys 216 = .ok (.iaload, 1) := by decide +kernel
theorem dX7_buys_217 : decode cX7_buys 217 = .ok (.iload 5, 2) := by decide +kernel
theorem dX7_buys_219 : decode cX7_buys 219 = .ok (.iadd, 1) := by decide +kernel
theorem dX7_buys_220 : decode cX7_buys 220 = .ok (.iastore, 1) := by decide +kernel
theorem dX7_buys_221 : decode cX7_buys 221 = .ok (.aload_n 0, 1) := by decide +kernel
theorem dX7_buys_222 : decode cX7_buys 222 = .ok (.getfield 44, 3) := by decide +kernel
theorem dX7_buys_225 : decode cX7_buys 225 = .ok (.bipush 39, 2) := by decide +kernel
theorem dX7_buys_227 : decode cX7_buys 227 = .ok (.dup2, 1) := by decide +kernel
theorem dX7_buys_228 : decode cX7_buys 228 = .ok (.iaload, 1) := by decide +kernel
theorem dX7_buys_229 : decode cX7_buys 229 = .ok (.iload 5, 2) := by decide +kernel
theorem dX7_buys_231 : decode cX7_buys 231 = .ok (.iadd, 1) := by decide +kernel
theorem dX7_buys_232 : decode cX7_buys 232 = .ok (.iastore, 1) := by decide +kernel
theorem dX7_buys_233 : decode cX7_buys 233 = .ok (.iload 5, 2) := by decide +kernel
theorem dX7_buys_235 : decode cX7_buys 235 = .ok (.ireturn, 1) := by decide +kernel
theorem dX7_endsPart_0 : decode cX7_endsPart 0 = .ok (.iload_n 1, 1) := by decide +kernel
theorem dX7_endsPart_1 : decode cX7_endsPart 1 = .ok (.invokestatic 359, 3) := by decide +kernel
theorem dX7_endsPart_4 : decode cX7_endsPart 4 = .ok (.istore_n 2, 1) := by decide +kernel
theorem dX7_endsPart_5 : decode cX7_endsPart 5 = .ok (.aload_n 0, 1) := by decide +kernel
theorem dX7_endsPart_6 : decode cX7_endsPart 6 = .ok (.getfield 44, 3) := by decide +kernel
theorem dX7_endsPart_9 : decode cX7_endsPart 9 = .ok (.iload_n 2, 1) := by decide +kernel
theorem dX7_endsPart_10 : decode cX7_endsPart 10 = .ok (.iconst 2, 1) := by decide +kernel
theorem dX7_endsPart_11 : decode cX7_endsPart 11 = .ok (.iadd, 1) := by decide +kernel
theorem dX7_endsPart_12 : decode cX7_endsPart 12 = .ok (.iaload, 1) := by decide +kernel
theorem dX7_endsPart_13 : decode cX7_endsPart 13 = .ok (.istore_n 3, 1) := by decide +kernel
theorem dX7_endsPart_14 : decode cX7_endsPart 14 = .ok (.aload_n 0, 1) := by decide +kernel
theorem dX7_endsPart_15 : decode cX7_endsPart 15 = .ok (.iload_n 1, 1) := by decide +kernel
theorem dX7_endsPart_16 : decode cX7_endsPart 16 = .ok (.iload_n 3, 1) := by decide +kernel
theorem dX7_endsPart_17 : decode cX7_endsPart 17 = .ok (.invokevirtual 279, 3) := by decide +kernel
theorem dX7_endsPart_20 : decode cX7_endsPart 20 = .ok (.istore 4, 2) := by decide +kernel
theorem dX7_endsPart_22 : decode cX7_endsPart 22 = .ok (.aload_n 0, 1) := by decide +kernel
theorem dX7_endsPart_23 : decode cX7_endsPart 23 = .ok (.getfield 44, 3) := by decide +kernel
theorem dX7_endsPart_26 : decode cX7_endsPart 26 = .ok (.bipush 40, 2) := by decide +kernel
theorem dX7_endsPart_28 : decode cX7_endsPart 28 = .ok (.dup2, 1) := by decide +kernel
theorem dX7_endsPart_29 : decode cX7_endsPart 29 = .ok (.iaload, 1) := by decide +kernel
theorem dX7_endsPart_30 : decode cX7_endsPart 30 = .ok (.iload 4, 2) := by decide +kernel
theorem dX7_endsPart_32 : decode cX7_endsPart 32 = .ok (.iadd, 1) := by decide +kernel
theorem dX7_endsPart_33 : decode cX7_endsPart 33 = .ok (.iastore, 1) := by decide +kernel
theorem dX7_endsPart_34 : decode cX7_endsPart 34 = .ok (.aload_n 0, 1) := by decide +kernel
theorem dX7_endsPart_35 : decode cX7_endsPart 35 = .ok (.getfield 44, 3) := by decide +kernel
theorem dX7_endsPart_38 : decode cX7_endsPart 38 = .ok (.bipush 41, 2) := by decide +kernel
theorem dX7_endsPart_40 : decode cX7_endsPart 40 = .ok (.dup2, 1) := by decide +kernel
theorem dX7_endsPart_41 : decode cX7_endsPart 41 = .ok (.iaload, 1) := by decide +kernel
theorem dX7_endsPart_42 : decode cX7_endsPart 42 = .ok (.aload_n 0, 1) := by decide +kernel
theorem dX7_endsPart_43 : decode cX7_endsPart 43 = .ok (.getfield 44, 3) := by decide +kernel
theorem dX7_endsPart_46 : decode cX7_endsPart 46 = .ok (.iload_n 2, 1) := by decide +kernel
theorem dX7_endsPart_47 : decode cX7_endsPart 47 = .ok (.bipush 7, 2) := by decide +kernel
theorem dX7_endsPart_49 : decode cX7_endsPart 49 = .ok (.iadd, 1) := by decide +kernel
theorem dX7_endsPart_50 : decode cX7_endsPart 50 = .ok (.iaload, 1) := by decide +kernel
theorem dX7_endsPart_51 : decode cX7_endsPart 51 = .ok (.iload 4, 2) := by decide +kernel
theorem dX7_endsPart_53 : decode cX7_endsPart 53 = .ok (.iadd, 1) := by decide +kernel
theorem dX7_endsPart_54 : decode cX7_endsPart 54 = .ok (.aload_n 0, 1) := by decide +kernel
theorem dX7_endsPart_55 : decode cX7_endsPart 55 = .ok (.getfield 44, 3) := by decide +kernel
theorem dX7_endsPart_58 : decode cX7_endsPart 58 = .ok (.iload_n 2, 1) := by decide +kernel
theorem dX7_endsPart_59 : decode cX7_endsPart 59 = .ok (.iconst 3, 1) := by decide +kernel
theorem dX7_endsPart_60 : decode cX7_endsPart 60 = .ok (.iadd, 1) := by decide +kernel
theorem dX7_endsPart_61 : decode cX7_endsPart 61 = .ok (.iaload, 1) := by decide +kernel
theorem dX7_endsPart_62 : decode cX7_endsPart 62 = .ok (.iload_n 3, 1) := by decide +kernel
theorem dX7_endsPart_63 : decode cX7_endsPart 63 = .ok (.imul, 1) := by decide +kernel
theorem dX7_endsPart_64 : decode cX7_endsPart 64 = .ok (.aload_n 0, 1) := by decide +kernel
theorem dX7_endsPart_65 : decode cX7_endsPart 65 = .ok (.getfield 44, 3) := by decide +kernel
theorem dX7_endsPart_68 : decode cX7_endsPart 68 = .ok (.iload_n 2, 1) := by decide +kernel
theorem dX7_endsPart_69 : decode cX7_endsPart 69 = .ok (.iconst 1, 1) := by decide +kernel
theorem dX7_endsPart_70 : decode cX7_endsPart 70 = .ok (.iadd, 1) := by decide +kernel
theorem dX7_endsPart_71 : decode cX7_endsPart 71 = .ok (.iaload, 1) := by decide +kernel
theorem dX7_endsPart_72 : decode cX7_endsPart 72 = .ok (.invokestatic 273, 3) := by decide +kernel
theorem dX7_endsPart_75 : decode cX7_endsPart 75 = .ok (.isub, 1) := by decide +kernel
theorem dX7_endsPart_76 : decode cX7_endsPart 76 = .ok (.iadd, 1) := by decide +kernel
theorem dX7_endsPart_77 : decode cX7_endsPart 77 = .ok (.iastore, 1) := by decide +kernel
theorem dX7_endsPart_78 : decode cX7_endsPart 78 = .ok (.aload_n 0, 1) := by decide +kernel
theorem dX7_endsPart_79 : decode cX7_endsPart 79 = .ok (.getfield 44, 3) := by decide +kernel
theorem dX7_endsPart_82 : decode cX7_endsPart 82 = .ok (.iload_n 2, 1) := by decide +kernel
theorem dX7_endsPart_83 : decode cX7_endsPart 83 = .ok (.iconst 0, 1) := by decide +kernel
theorem dX7_endsPart_84 : decode cX7_endsPart 84 = .ok (.iadd, 1) := by decide +kernel
theorem dX7_endsPart_85 : decode cX7_endsPart 85 = .ok (.iconst 3, 1) := by decide +kernel
theorem dX7_endsPart_86 : decode cX7_endsPart 86 = .ok (.iastore, 1) := by decide +kernel
theorem dX7_endsPart_87 : decode cX7_endsPart 87 = .ok (.aload_n 0, 1) := by decide +kernel
theorem dX7_endsPart_88 : decode cX7_endsPart 88 = .ok (.getfield 44, 3) := by decide +kernel
theorem dX7_endsPart_91 : decode cX7_endsPart 91 = .ok (.iload_n 2, 1) := by decide +kernel
theorem dX7_endsPart_92 : decode cX7_endsPart 92 = .ok (.iconst 5, 1) := by decide +kernel
theorem dX7_endsPart_93 : decode cX7_endsPart 93 = .ok (.iadd, 1) := by decide +kernel
theorem dX7_endsPart_94 : decode cX7_endsPart 94 = .ok (.aload_n 0, 1) := by decide +kernel
theorem dX7_endsPart_95 : decode cX7_endsPart 95 = .ok (.getfield 44, 3) := by decide +kernel
theorem dX7_endsPart_98 : decode cX7_endsPart 98 = .ok (.bipush 37, 2) := by decide +kernel
theorem dX7_endsPart_100 : decode cX7_endsPart 100 = .ok (.iaload, 1) := by decide +kernel
theorem dX7_endsPart_101 : decode cX7_endsPart 101 = .ok (.aload_n 0, 1) := by decide +kernel
theorem dX7_endsPart_102 : decode cX7_endsPart 102 = .ok (.iload_n 1, 1) := by decide +kernel
theorem dX7_endsPart_103 : decode cX7_endsPart 103 = .ok (.iconst 3, 1) := by decide +kernel
theorem dX7_endsPart_104 : decode cX7_endsPart 104 = .ok (.invokevirtual 261, 3) := by decide +kernel
theorem dX7_endsPart_107 : decode cX7_endsPart 107 = .ok (.iadd, 1) := by decide +kernel
theorem dX7_endsPart_108 : decode cX7_endsPart 108 = .ok (.iastore, 1) := by decide +kernel
theorem dX7_endsPart_109 : decode cX7_endsPart 109 = .ok (.aload_n 0, 1) := by decide +kernel
theorem dX7_endsPart_110 : decode cX7_endsPart 110 = .ok (.getfield 44, 3) := by decide +kernel
theorem dX7_endsPart_113 : decode cX7_endsPart 113 = .ok (.iload_n 2, 1) := by decide +kernel
theorem dX7_endsPart_114 : decode cX7_endsPart 114 = .ok (.bipush 6, 2) := by decide +kernel
theorem dX7_endsPart_116 : decode cX7_endsPart 116 = .ok (.iadd, 1) := by decide +kernel
theorem dX7_endsPart_117 : decode cX7_endsPart 117 = .ok (.bipush (-2), 2) := by decide +kernel
theorem dX7_endsPart_119 : decode cX7_endsPart 119 = .ok (.iastore, 1) := by decide +kernel
theorem dX7_endsPart_120 : decode cX7_endsPart 120 = .ok (.return_, 1) := by decide +kernel
theorem dX7_goesAt_0 : decode cX7_goesAt 0 = .ok (.iload_n 1, 1) := by decide +kernel
theorem dX7_goesAt_1 : decode cX7_goesAt 1 = .ok (.invokestatic 359, 3) := by decide +kernel
theorem dX7_goesAt_4 : decode cX7_goesAt 4 = .ok (.istore_n 2, 1) := by decide +kernel
theorem dX7_goesAt_5 : decode cX7_goesAt 5 = .ok (.aload_n 0, 1) := by decide +kernel
theorem dX7_goesAt_6 : decode cX7_goesAt 6 = .ok (.getfield 44, 3) := by decide +kernel
theorem dX7_goesAt_9 : decode cX7_goesAt 9 = .ok (.iload_n 2, 1) := by decide +kernel
theorem dX7_goesAt_10 : decode cX7_goesAt 10 = .ok (.iconst 0, 1) := by decide +kernel
theorem dX7_goesAt_11 : decode cX7_goesAt 11 = .ok (.iadd, 1) := by decide +kernel
theorem dX7_goesAt_12 : decode cX7_goesAt 12 = .ok (.iaload, 1) := by decide +kernel
theorem dX7_goesAt_13 : decode cX7_goesAt 13 = .ok (.iconst 1, 1) := by decide +kernel
theorem dX7_goesAt_14 : decode cX7_goesAt 14 = .ok (.if_icmp .ne 50, 3) := by decide +kernel
theorem dX7_goesAt_17 : decode cX7_goesAt 17 = .ok (.aload_n 0, 1) := by decide +kernel
theorem dX7_goesAt_18 : decode cX7_goesAt 18 = .ok (.getfield 44, 3) := by decide +kernel
theorem dX7_goesAt_21 : decode cX7_goesAt 21 = .ok (.iload_n 2, 1) := by decide +kernel
theorem dX7_goesAt_22 : decode cX7_goesAt 22 = .ok (.iconst 5, 1) := by decide +kernel
theorem dX7_goesAt_23 : decode cX7_goesAt 23 = .ok (.iadd, 1) := by decide +kernel
theorem dX7_goesAt_24 : decode cX7_goesAt 24 = .ok (.iaload, 1) := by decide +kernel
theorem dX7_goesAt_25 : decode cX7_goesAt 25 = .ok (.aload_n 0, 1) := by decide +kernel
theorem dX7_goesAt_26 : decode cX7_goesAt 26 = .ok (.getfield 44, 3) := by decide +kernel
theorem dX7_goesAt_29 : decode cX7_goesAt 29 = .ok (.bipush 37, 2) := by decide +kernel
theorem dX7_goesAt_31 : decode cX7_goesAt 31 = .ok (.iaload, 1) := by decide +kernel
theorem dX7_goesAt_32 : decode cX7_goesAt 32 = .ok (.if_icmp .ne 32, 3) := by decide +kernel
theorem dX7_goesAt_35 : decode cX7_goesAt 35 = .ok (.aload_n 0, 1) := by decide +kernel
theorem dX7_goesAt_36 : decode cX7_goesAt 36 = .ok (.getfield 44, 3) := by decide +kernel
theorem dX7_goesAt_39 : decode cX7_goesAt 39 = .ok (.iload_n 2, 1) := by decide +kernel
theorem dX7_goesAt_40 : decode cX7_goesAt 40 = .ok (.iconst 0, 1) := by decide +kernel
theorem dX7_goesAt_41 : decode cX7_goesAt 41 = .ok (.iadd, 1) := by decide +kernel
theorem dX7_goesAt_42 : decode cX7_goesAt 42 = .ok (.iconst 2, 1) := by decide +kernel
theorem dX7_goesAt_43 : decode cX7_goesAt 43 = .ok (.iastore, 1) := by decide +kernel
theorem dX7_goesAt_44 : decode cX7_goesAt 44 = .ok (.aload_n 0, 1) := by decide +kernel
theorem dX7_goesAt_45 : decode cX7_goesAt 45 = .ok (.getfield 44, 3) := by decide +kernel
theorem dX7_goesAt_48 : decode cX7_goesAt 48 = .ok (.iload_n 2, 1) := by decide +kernel
theorem dX7_goesAt_49 : decode cX7_goesAt 49 = .ok (.iconst 5, 1) := by decide +kernel
theorem dX7_goesAt_50 : decode cX7_goesAt 50 = .ok (.iadd, 1) := by decide +kernel
theorem dX7_goesAt_51 : decode cX7_goesAt 51 = .ok (.aload_n 0, 1) := by decide +kernel
theorem dX7_goesAt_52 : decode cX7_goesAt 52 = .ok (.getfield 44, 3) := by decide +kernel
theorem dX7_goesAt_55 : decode cX7_goesAt 55 = .ok (.bipush 37, 2) := by decide +kernel
theorem dX7_goesAt_57 : decode cX7_goesAt 57 = .ok (.iaload, 1) := by decide +kernel
theorem dX7_goesAt_58 : decode cX7_goesAt 58 = .ok (.aload_n 0, 1) := by decide +kernel
theorem dX7_goesAt_59 : decode cX7_goesAt 59 = .ok (.getfield 250, 3) := by decide +kernel
theorem dX7_goesAt_62 : decode cX7_goesAt 62 = .ok (.iadd, 1) := by decide +kernel
theorem dX7_goesAt_63 : decode cX7_goesAt 63 = .ok (.iastore, 1) := by decide +kernel
theorem dX7_goesAt_64 : decode cX7_goesAt 64 = .ok (.aload_n 0, 1) := by decide +kernel
theorem dX7_goesAt_65 : decode cX7_goesAt 65 = .ok (.getfield 44, 3) := by decide +kernel
theorem dX7_goesAt_68 : decode cX7_goesAt 68 = .ok (.iload_n 2, 1) := by decide +kernel
theorem dX7_goesAt_69 : decode cX7_goesAt 69 = .ok (.iconst 0, 1) := by decide +kernel
theorem dX7_goesAt_70 : decode cX7_goesAt 70 = .ok (.iadd, 1) := by decide +kernel
theorem dX7_goesAt_71 : decode cX7_goesAt 71 = .ok (.iaload, 1) := by decide +kernel
theorem dX7_goesAt_72 : decode cX7_goesAt 72 = .ok (.iconst 2, 1) := by decide +kernel
theorem dX7_goesAt_73 : decode cX7_goesAt 73 = .ok (.if_icmp .ne 72, 3) := by decide +kernel
theorem dX7_goesAt_76 : decode cX7_goesAt 76 = .ok (.aload_n 0, 1) := by decide +kernel
theorem dX7_goesAt_77 : decode cX7_goesAt 77 = .ok (.iload_n 1, 1) := by decide +kernel
theorem dX7_goesAt_78 : decode cX7_goesAt 78 = .ok (.invokevirtual 378, 3) := by decide +kernel
theorem dX7_goesAt_81 : decode cX7_goesAt 81 = .ok (.istore_n 3, 1) := by decide +kernel
theorem dX7_goesAt_82 : decode cX7_goesAt 82 = .ok (.aload_n 0, 1) := by decide +kernel
theorem dX7_goesAt_83 : decode cX7_goesAt 83 = .ok (.getfield 44, 3) := by decide +kernel
theorem dX7_goesAt_86 : decode cX7_goesAt 86 = .ok (.iload_n 2, 1) := by decide +kernel
theorem dX7_goesAt_87 : decode cX7_goesAt 87 = .ok (.iconst 2, 1) := by decide +kernel
theorem dX7_goesAt_88 : decode cX7_goesAt 88 = .ok (.iadd, 1) := by decide +kernel
theorem dX7_goesAt_89 : decode cX7_goesAt 89 = .ok (.iaload, 1) := by decide +kernel
theorem dX7_goesAt_90 : decode cX7_goesAt 90 = .ok (.aload_n 0, 1) := by decide +kernel
theorem dX7_goesAt_91 : decode cX7_goesAt 91 = .ok (.getfield 44, 3) := by decide +kernel
theorem dX7_goesAt_94 : decode cX7_goesAt 94 = .ok (.iload_n 2, 1) := by decide +kernel
theorem dX7_goesAt_95 : decode cX7_goesAt 95 = .ok (.iconst 1, 1) := by decide +kernel
theorem dX7_goesAt_96 : decode cX7_goesAt 96 = .ok (.iadd, 1) := by decide +kernel
theorem dX7_goesAt_97 : decode cX7_goesAt 97 = .ok (.iaload, 1) := by decide +kernel
theorem dX7_goesAt_98 : decode cX7_goesAt 98 = .ok (.if_icmp .eq 40, 3) := by decide +kernel
theorem dX7_goesAt_101 : decode cX7_goesAt 101 = .ok (.aload_n 0, 1) := by decide +kernel
theorem dX7_goesAt_102 : decode cX7_goesAt 102 = .ok (.getfield 44, 3) := by decide +kernel
theorem dX7_goesAt_105 : decode cX7_goesAt 105 = .ok (.iload_n 2, 1) := by decide +kernel
theorem dX7_goesAt_106 : decode cX7_goesAt 106 = .ok (.bipush 6, 2) := by decide +kernel
theorem dX7_goesAt_108 : decode cX7_goesAt 108 = .ok (.iadd, 1) := by decide +kernel
theorem dX7_goesAt_109 : decode cX7_goesAt 109 = .ok (.iaload, 1) := by decide +kernel
theorem dX7_goesAt_110 : decode cX7_goesAt 110 = .ok (.aload_n 0, 1) := by decide +kernel
theorem dX7_goesAt_111 : decode cX7_goesAt 111 = .ok (.getfield 44, 3) := by decide +kernel
theorem dX7_goesAt_114 : decode cX7_goesAt 114 = .ok (.bipush 37, 2) := by decide +kernel
theorem dX7_goesAt_116 : decode cX7_goesAt 116 = .ok (.iaload, 1) := by decide +kernel
theorem dX7_goesAt_117 : decode cX7_goesAt 117 = .ok (.if_icmp .eq 21, 3) := by decide +kernel
theorem dX7_goesAt_120 : decode cX7_goesAt 120 = .ok (.aload_n 0, 1) := by decide +kernel
theorem dX7_goesAt_121 : decode cX7_goesAt 121 = .ok (.getfield 44, 3) := by decide +kernel
theorem dX7_goesAt_124 : decode cX7_goesAt 124 = .ok (.iload_n 2, 1) := by decide +kernel
theorem dX7_goesAt_125 : decode cX7_goesAt 125 = .ok (.iconst 5, 1) := by decide +kernel
theorem dX7_goesAt_126 : decode cX7_goesAt 126 = .ok (.iadd, 1) := by decide +kernel
theorem dX7_goesAt_127 : decode cX7_goesAt 127 = .ok (.iaload, 1) := by decide +kernel
theorem dX7_goesAt_128 : decode cX7_goesAt 128 = .ok (.aload_n 0, 1) := by decide +kernel
theorem dX7_goesAt_129 : decode cX7_goesAt 129 = .ok (.getfield 44, 3) := by decide +kernel
theorem dX7_goesAt_132 : decode cX7_goesAt 132 = .ok (.bipush 37, 2) := by decide +kernel
theorem dX7_goesAt_134 : decode cX7_goesAt 134 = .ok (.iaload, 1) := by decide +kernel
theorem dX7_goesAt_135 : decode cX7_goesAt 135 = .ok (.if_icmp .ne 8, 3) := by decide +kernel
theorem dX7_goesAt_138 : decode cX7_goesAt 138 = .ok (.aload_n 0, 1) := by decide +kernel
theorem dX7_goesAt_139 : decode cX7_goesAt 139 = .ok (.iload_n 1, 1) := by decide +kernel
theorem dX7_goesAt_140 : decode cX7_goesAt 140 = .ok (.invokevirtual 381, 3) := by decide +kernel
theorem dX7_goesAt_143 : decode cX7_goesAt 143 = .ok (.iload_n 3, 1) := by decide +kernel
theorem dX7_goesAt_144 : decode cX7_goesAt 144 = .ok (.ireturn, 1) := by decide +kernel
theorem dX7_goesAt_145 : decode cX7_goesAt 145 = .ok (.aload_n 0, 1) := by decide +kernel
theorem dX7_goesAt_146 : decode cX7_goesAt 146 = .ok (.getfield 44, 3) := by decide +kernel
theorem dX7_goesAt_149 : decode cX7_goesAt 149 = .ok (.iload_n 2, 1) := by decide +kernel
theorem dX7_goesAt_150 : decode cX7_goesAt 150 = .ok (.iconst 0, 1) := by decide +kernel
theorem dX7_goesAt_151 : decode cX7_goesAt 151 = .ok (.iadd, 1) := by decide +kernel
theorem dX7_goesAt_152 : decode cX7_goesAt 152 = .ok (.iaload, 1) := by decide +kernel
theorem dX7_goesAt_153 : decode cX7_goesAt 153 = .ok (.iconst 3, 1) := by decide +kernel
theorem dX7_goesAt_154 : decode cX7_goesAt 154 = .ok (.if_icmp .ne 44, 3) := by decide +kernel
theorem dX7_goesAt_157 : decode cX7_goesAt 157 = .ok (.aload_n 0, 1) := by decide +kernel
theorem dX7_goesAt_158 : decode cX7_goesAt 158 = .ok (.getfield 44, 3) := by decide +kernel
theorem dX7_goesAt_161 : decode cX7_goesAt 161 = .ok (.iload_n 2, 1) := by decide +kernel
theorem dX7_goesAt_162 : decode cX7_goesAt 162 = .ok (.iconst 5, 1) := by decide +kernel
theorem dX7_goesAt_163 : decode cX7_goesAt 163 = .ok (.iadd, 1) := by decide +kernel
theorem dX7_goesAt_164 : decode cX7_goesAt 164 = .ok (.iaload, 1) := by decide +kernel
theorem dX7_goesAt_165 : decode cX7_goesAt 165 = .ok (.aload_n 0, 1) := by decide +kernel
theorem dX7_goesAt_166 : decode cX7_goesAt 166 = .ok (.getfield 44, 3) := by decide +kernel
theorem dX7_goesAt_169 : decode cX7_goesAt 169 = .ok (.bipush 37, 2) := by decide +kernel
theorem dX7_goesAt_171 : decode cX7_goesAt 171 = .ok (.iaload, 1) := by decide +kernel
theorem dX7_goesAt_172 : decode cX7_goesAt 172 = .ok (.if_icmp .ne 26, 3) := by decide +kernel
theorem dX7_goesAt_175 : decode cX7_goesAt 175 = .ok (.aload_n 0, 1) := by decide +kernel
theorem dX7_goesAt_176 : decode cX7_goesAt 176 = .ok (.getfield 44, 3) := by decide +kernel
theorem dX7_goesAt_179 : decode cX7_goesAt 179 = .ok (.bipush 38, 2) := by decide +kernel
theorem dX7_goesAt_181 : decode cX7_goesAt 181 = .ok (.dup2, 1) := by decide +kernel
theorem dX7_goesAt_182 : decode cX7_goesAt 182 = .ok (.iaload, 1) := by decide +kernel
theorem dX7_goesAt_183 : decode cX7_goesAt 183 = .ok (.aload_n 0, 1) := by decide +kernel
theorem dX7_goesAt_184 : decode cX7_goesAt 184 = .ok (.getfield 44, 3) := by decide +kernel
theorem dX7_goesAt_187 : decode cX7_goesAt 187 = .ok (.iload_n 2, 1) := by decide +kernel
theorem dX7_goesAt_188 : decode cX7_goesAt 188 = .ok (.iconst 2, 1) := by decide +kernel
theorem dX7_goesAt_189 : decode cX7_goesAt 189 = .ok (.iadd, 1) := by decide +kernel
theorem dX7_goesAt_190 : decode cX7_goesAt 190 = .ok (.iaload, 1) := by decide +kernel
theorem dX7_goesAt_191 : decode cX7_goesAt 191 = .ok (.isub, 1) := by decide +kernel
theorem dX7_goesAt_192 : decode cX7_goesAt 192 = .ok (.iastore, 1) := by decide +kernel
theorem dX7_goesAt_193 : decode cX7_goesAt 193 = .ok (.aload_n 0, 1) := by decide +kernel
theorem dX7_goesAt_194 : decode cX7_goesAt 194 = .ok (.iload_n 1, 1) := by decide +kernel
theorem dX7_goesAt_195 : decode cX7_goesAt 195 = .ok (.invokevirtual 258, 3) := by decide +kernel
theorem dX7_goesAt_198 : decode cX7_goesAt 198 = .ok (.iconst 0, 1) := by decide +kernel
theorem dX7_goesAt_199 : decode cX7_goesAt 199 = .ok (.ireturn, 1) := by decide +kernel
theorem dX7_tick_0 : decode cX7_tick 0 = .ok (.aload_n 0, 1) := by decide +kernel
theorem dX7_tick_1 : decode cX7_tick 1 = .ok (.getfield 44, 3) := by decide +kernel
theorem dX7_tick_4 : decode cX7_tick 4 = .ok (.bipush 37, 2) := by decide +kernel
theorem dX7_tick_6 : decode cX7_tick 6 = .ok (.dup2, 1) := by decide +kernel
theorem dX7_tick_7 : decode cX7_tick 7 = .ok (.iaload, 1) := by decide +kernel
theorem dX7_tick_8 : decode cX7_tick 8 = .ok (.iconst 1, 1) := by decide +kernel
theorem dX7_tick_9 : decode cX7_tick 9 = .ok (.iadd, 1) := by decide +kernel
theorem dX7_tick_10 : decode cX7_tick 10 = .ok (.iastore, 1) := by decide +kernel
theorem dX7_tick_11 : decode cX7_tick 11 = .ok (.iconst 0, 1) := by decide +kernel
theorem dX7_tick_12 : decode cX7_tick 12 = .ok (.istore_n 1, 1) := by decide +kernel
theorem dX7_tick_13 : decode cX7_tick 13 = .ok (.iload_n 1, 1) := by decide +kernel
theorem dX7_tick_14 : decode cX7_tick 14 = .ok (.aload_n 0, 1) := by decide +kernel
theorem dX7_tick_15 : decode cX7_tick 15 = .ok (.getfield 252, 3) := by decide +kernel
theorem dX7_tick_18 : decode cX7_tick 18 = .ok (.if_icmp .ge 68, 3) := by decide +kernel
theorem dX7_tick_21 : decode cX7_tick 21 = .ok (.aload_n 0, 1) := by decide +kernel
theorem dX7_tick_22 : decode cX7_tick 22 = .ok (.getfield 22, 3) := by decide +kernel
theorem dX7_tick_25 : decode cX7_tick 25 = .ok (.iconst 4, 1) := by decide +kernel
theorem dX7_tick_26 : decode cX7_tick 26 = .ok (.iload_n 1, 1) := by decide +kernel
theorem dX7_tick_27 : decode cX7_tick 27 = .ok (.imul, 1) := by decide +kernel
theorem dX7_tick_28 : decode cX7_tick 28 = .ok (.iaload, 1) := by decide +kernel
theorem dX7_tick_29 : decode cX7_tick 29 = .ok (.aload_n 0, 1) := by decide +kernel
theorem dX7_tick_30 : decode cX7_tick 30 = .ok (.getfield 44, 3) := by decide +kernel
theorem dX7_tick_33 : decode cX7_tick 33 = .ok (.bipush 37, 2) := by decide +kernel
theorem dX7_tick_35 : decode cX7_tick 35 = .ok (.iaload, 1) := by decide +kernel
theorem dX7_tick_36 : decode cX7_tick 36 = .ok (.if_icmp .ne 44, 3) := by decide +kernel
theorem dX7_tick_39 : decode cX7_tick 39 = .ok (.aload_n 0, 1) := by decide +kernel
theorem dX7_tick_40 : decode cX7_tick 40 = .ok (.getfield 44, 3) := by decide +kernel
theorem dX7_tick_43 : decode cX7_tick 43 = .ok (.iconst 0, 1) := by decide +kernel
theorem dX7_tick_44 : decode cX7_tick 44 = .ok (.bipush 6, 2) := by decide +kernel
theorem dX7_tick_46 : decode cX7_tick 46 = .ok (.aload_n 0, 1) := by decide +kernel
theorem dX7_tick_47 : decode cX7_tick 47 = .ok (.getfield 22, 3) := by decide +kernel
theorem dX7_tick_50 : decode cX7_tick 50 = .ok (.iconst 4, 1) := by decide +kernel
theorem dX7_tick_51 : decode cX7_tick 51 = .ok (.iload_n 1, 1) := by decide +kernel
theorem dX7_tick_52 : decode cX7_tick 52 = .ok (.imul, 1) := by decide +kernel
theorem dX7_tick_53 : decode cX7_tick 53 = .ok (.iconst 1, 1) := by decide +kernel
theorem dX7_tick_54 : decode cX7_tick 54 = .ok (.iadd, 1) := by decide +kernel
theorem dX7_tick_55 : decode cX7_tick 55 = .ok (.iaload, 1) := by decide +kernel
theorem dX7_tick_56 : decode cX7_tick 56 = .ok (.imul, 1) := by decide +kernel
theorem dX7_tick_57 : decode cX7_tick 57 = .ok (.iadd, 1) := by decide +kernel
theorem dX7_tick_58 : decode cX7_tick 58 = .ok (.aload_n 0, 1) := by decide +kernel
theorem dX7_tick_59 : decode cX7_tick 59 = .ok (.getfield 22, 3) := by decide +kernel
theorem dX7_tick_62 : decode cX7_tick 62 = .ok (.iconst 4, 1) := by decide +kernel
theorem dX7_tick_63 : decode cX7_tick 63 = .ok (.iload_n 1, 1) := by decide +kernel
theorem dX7_tick_64 : decode cX7_tick 64 = .ok (.imul, 1) := by decide +kernel
theorem dX7_tick_65 : decode cX7_tick 65 = .ok (.iconst 2, 1) := by decide +kernel
theorem dX7_tick_66 : decode cX7_tick 66 = .ok (.iadd, 1) := by decide +kernel
theorem dX7_tick_67 : decode cX7_tick 67 = .ok (.iaload, 1) := by decide +kernel
theorem dX7_tick_68 : decode cX7_tick 68 = .ok (.iadd, 1) := by decide +kernel
theorem dX7_tick_69 : decode cX7_tick 69 = .ok (.aload_n 0, 1) := by decide +kernel
theorem dX7_tick_70 : decode cX7_tick 70 = .ok (.getfield 22, 3) := by decide +kernel
theorem dX7_tick_73 : decode cX7_tick 73 = .ok (.iconst 4, 1) := by decide +kernel
theorem dX7_tick_74 : decode cX7_tick 74 = .ok (.iload_n 1, 1) := by decide +kernel
theorem dX7_tick_75 : decode cX7_tick 75 = .ok (.imul, 1) := by decide +kernel
theorem dX7_tick_76 : decode cX7_tick 76 = .ok (.iconst 3, 1) := by decide +kernel
theorem dX7_tick_77 : decode cX7_tick 77 = .ok (.iadd, 1) := by decide +kernel
theorem dX7_tick_78 : decode cX7_tick 78 = .ok (.iaload, 1) := by decide +kernel
theorem dX7_tick_79 : decode cX7_tick 79 = .ok (.iastore, 1) := by decide +kernel
theorem dX7_tick_80 : decode cX7_tick 80 = .ok (.iinc 1 1, 3) := by decide +kernel
theorem dX7_tick_83 : decode cX7_tick 83 = .ok (.goto (-70), 3) := by decide +kernel
theorem dX7_tick_86 : decode cX7_tick 86 = .ok (.iconst 0, 1) := by decide +kernel
theorem dX7_tick_87 : decode cX7_tick 87 = .ok (.istore_n 1, 1) := by decide +kernel
theorem dX7_tick_88 : decode cX7_tick 88 = .ok (.iconst 0, 1) := by decide +kernel
theorem dX7_tick_89 : decode cX7_tick 89 = .ok (.istore_n 2, 1) := by decide +kernel
theorem dX7_tick_90 : decode cX7_tick 90 = .ok (.iload_n 2, 1) := by decide +kernel
theorem dX7_tick_91 : decode cX7_tick 91 = .ok (.aload_n 0, 1) := by decide +kernel
theorem dX7_tick_92 : decode cX7_tick 92 = .ok (.getfield 235, 3) := by decide +kernel
theorem dX7_tick_95 : decode cX7_tick 95 = .ok (.if_icmp .ge 17, 3) := by decide +kernel
theorem dX7_tick_98 : decode cX7_tick 98 = .ok (.iload_n 1, 1) := by decide +kernel
theorem dX7_tick_99 : decode cX7_tick 99 = .ok (.aload_n 0, 1) := by decide +kernel
theorem dX7_tick_100 : decode cX7_tick 100 = .ok (.iload_n 2, 1) := by decide +kernel
theorem dX7_tick_101 : decode cX7_tick 101 = .ok (.invokevirtual 384, 3) := by decide +kernel
theorem dX7_tick_104 : decode cX7_tick 104 = .ok (.iadd, 1) := by decide +kernel
theorem dX7_tick_105 : decode cX7_tick 105 = .ok (.istore_n 1, 1) := by decide +kernel
theorem dX7_tick_106 : decode cX7_tick 106 = .ok (.iinc 2 1, 3) := by decide +kernel
theorem dX7_tick_109 : decode cX7_tick 109 = .ok (.goto (-19), 3) := by decide +kernel
theorem dX7_tick_112 : decode cX7_tick 112 = .ok (.aload_n 0, 1) := by decide +kernel
theorem dX7_tick_113 : decode cX7_tick 113 = .ok (.invokevirtual 387, 3) := by decide +kernel
theorem dX7_tick_116 : decode cX7_tick 116 = .ok (.pop, 1) := by decide +kernel
theorem dX7_tick_117 : decode cX7_tick 117 = .ok (.iload_n 1, 1) := by decide +kernel
theorem dX7_tick_118 : decode cX7_tick 118 = .ok (.ireturn, 1) := by decide +kernel
theorem dX7_toCome_0 : decode cX7_toCome 0 = .ok (.iconst 0, 1) := by decide +kernel
theorem dX7_toCome_1 : decode cX7_toCome 1 = .ok (.istore_n 1, 1) := by decide +kernel
theorem dX7_toCome_2 : decode cX7_toCome 2 = .ok (.iconst 0, 1) := by decide +kernel
theorem dX7_toCome_3 : decode cX7_toCome 3 = .ok (.istore_n 2, 1) := by decide +kernel
theorem dX7_toCome_4 : decode cX7_toCome 4 = .ok (.iload_n 2, 1) := by decide +kernel
theorem dX7_toCome_5 : decode cX7_toCome 5 = .ok (.aload_n 0, 1) := by decide +kernel
theorem dX7_toCome_6 : decode cX7_toCome 6 = .ok (.getfield 252, 3) := by decide +kernel
theorem dX7_toCome_9 : decode cX7_toCome 9 = .ok (.if_icmp .ge 35, 3) := by decide +kernel
theorem dX7_toCome_12 : decode cX7_toCome 12 = .ok (.iload_n 1, 1) := by decide +kernel
theorem dX7_toCome_13 : decode cX7_toCome 13 = .ok (.aload_n 0, 1) := by decide +kernel
theorem dX7_toCome_14 : decode cX7_toCome 14 = .ok (.getfield 22, 3) := by decide +kernel
theorem dX7_toCome_17 : decode cX7_toCome 17 = .ok (.iconst 4, 1) := by decide +kernel
theorem dX7_toCome_18 : decode cX7_toCome 18 = .ok (.iload_n 2, 1) := by decide +kernel
theorem dX7_toCome_19 : decode cX7_toCome 19 = .ok (.imul, 1) := by decide +kernel
theorem dX7_toCome_20 : decode cX7_toCome 20 = .ok (.iaload, 1) := by decide +kernel
theorem dX7_toCome_21 : decode cX7_toCome 21 = .ok (.aload_n 0, 1) := by decide +kernel
theorem dX7_toCome_22 : decode cX7_toCome 22 = .ok (.getfield 44, 3) := by decide +kernel
theorem dX7_toCome_25 : decode cX7_toCome 25 = .ok (.bipush 37, 2) := by decide +kernel
theorem dX7_toCome_27 : decode cX7_toCome 27 = .ok (.iaload, 1) := by decide +kernel
theorem dX7_toCome_28 : decode cX7_toCome 28 = .ok (.if_icmp .le 7, 3) := by decide +kernel
theorem dX7_toCome_31 : decode cX7_toCome 31 = .ok (.iconst 1, 1) := by decide +kernel
theorem dX7_toCome_32 : decode cX7_toCome 32 = .ok (.goto 4, 3) := by decide +kernel
theorem dX7_toCome_35 : decode cX7_toCome 35 = .ok (.iconst 0, 1) := by decide +kernel
theorem dX7_toCome_36 : decode cX7_toCome 36 = .ok (.iadd, 1) := by decide +kernel
theorem dX7_toCome_37 : decode cX7_toCome 37 = .ok (.istore_n 1, 1) := by decide +kernel
theorem dX7_toCome_38 : decode cX7_toCome 38 = .ok (.iinc 2 1, 3) := by decide +kernel
theorem dX7_toCome_41 : decode cX7_toCome 41 = .ok (.goto (-37), 3) := by decide +kernel
theorem dX7_toCome_44 : decode cX7_toCome 44 = .ok (.iload_n 1, 1) := by decide +kernel
theorem dX7_toCome_45 : decode cX7_toCome 45 = .ok (.ireturn, 1) := by decide +kernel
theorem dX7_isOver_0 : decode cX7_isOver 0 = .ok (.aload_n 0, 1) := by decide +kernel
theorem dX7_isOver_1 : decode cX7_isOver 1 = .ok (.getfield 44, 3) := by decide +kernel
theorem dX7_isOver_4 : decode cX7_isOver 4 = .ok (.bipush 36, 2) := by decide +kernel
theorem dX7_isOver_6 : decode cX7_isOver 6 = .ok (.iaload, 1) := by decide +kernel
theorem dX7_isOver_7 : decode cX7_isOver 7 = .ok (.ifCond .eq 10, 3) := by decide +kernel
theorem dX7_isOver_10 : decode cX7_isOver 10 = .ok (.aload_n 0, 1) := by decide +kernel
theorem dX7_isOver_11 : decode cX7_isOver 11 = .ok (.invokevirtual 368, 3) := by decide +kernel
theorem dX7_isOver_14 : decode cX7_isOver 14 = .ok (.ifCond .eq 5, 3) := by decide +kernel
theorem dX7_isOver_17 : decode cX7_isOver 17 = .ok (.iconst 0, 1) := by decide +kernel
theorem dX7_isOver_18 : decode cX7_isOver 18 = .ok (.ireturn, 1) := by decide +kernel
theorem dX7_isOver_19 : decode cX7_isOver 19 = .ok (.aload_n 0, 1) := by decide +kernel
theorem dX7_isOver_20 : decode cX7_isOver 20 = .ok (.getfield 44, 3) := by decide +kernel
theorem dX7_isOver_23 : decode cX7_isOver 23 = .ok (.bipush 38, 2) := by decide +kernel
theorem dX7_isOver_25 : decode cX7_isOver 25 = .ok (.iaload, 1) := by decide +kernel
theorem dX7_isOver_26 : decode cX7_isOver 26 = .ok (.ifCond .ne 5, 3) := by decide +kernel
theorem dX7_isOver_29 : decode cX7_isOver 29 = .ok (.iconst 1, 1) := by decide +kernel
theorem dX7_isOver_30 : decode cX7_isOver 30 = .ok (.ireturn, 1) := by decide +kernel
theorem dX7_isOver_31 : decode cX7_isOver 31 = .ok (.aload_n 0, 1) := by decide +kernel
theorem dX7_isOver_32 : decode cX7_isOver 32 = .ok (.invokevirtual 390, 3) := by decide +kernel
theorem dX7_isOver_35 : decode cX7_isOver 35 = .ok (.ifCond .le 5, 3) := by decide +kernel
theorem dX7_isOver_38 : decode cX7_isOver 38 = .ok (.iconst 0, 1) := by decide +kernel
theorem dX7_isOver_39 : decode cX7_isOver 39 = .ok (.ireturn, 1) := by decide +kernel
theorem dX7_isOver_40 : decode cX7_isOver 40 = .ok (.aload_n 0, 1) := by decide +kernel
theorem dX7_isOver_41 : decode cX7_isOver 41 = .ok (.aload_n 0, 1) := by decide +kernel
theorem dX7_isOver_42 : decode cX7_isOver 42 = .ok (.getfield 44, 3) := by decide +kernel
theorem dX7_isOver_45 : decode cX7_isOver 45 = .ok (.bipush 38, 2) := by decide +kernel
theorem dX7_isOver_47 : decode cX7_isOver 47 = .ok (.iaload, 1) := by decide +kernel
theorem dX7_isOver_48 : decode cX7_isOver 48 = .ok (.iconst (-1), 1) := by decide +kernel
theorem dX7_isOver_49 : decode cX7_isOver 49 = .ok (.invokevirtual 322, 3) := by decide +kernel
theorem dX7_isOver_52 : decode cX7_isOver 52 = .ok (.aload_n 0, 1) := by decide +kernel
theorem dX7_isOver_53 : decode cX7_isOver 53 = .ok (.getfield 305, 3) := by decide +kernel
theorem dX7_isOver_56 : decode cX7_isOver 56 = .ok (.ifCond .ne 7, 3) := by decide +kernel
theorem dX7_isOver_59 : decode cX7_isOver 59 = .ok (.iconst 1, 1) := by decide +kernel
theorem dX7_isOver_60 : decode cX7_isOver 60 = .ok (.goto 4, 3) := by decide +kernel
theorem dX7_isOver_63 : decode cX7_isOver 63 = .ok (.iconst 0, 1) := by decide +kernel
theorem dX7_isOver_64 : decode cX7_isOver 64 = .ok (.ireturn, 1) := by decide +kernel
theorem dX7_isNow_0 : decode cX7_isNow 0 = .ok (.iload_n 1, 1) := by decide +kernel
theorem dX7_isNow_1 : decode cX7_isNow 1 = .ok (.tableswitch 104 0 6 #[43, 51, 59, 67, 75, 83, 91], 43) := by decide +kernel
theorem dX7_isNow_44 : decode cX7_isNow 44 = .ok (.aload_n 0, 1) := by decide +kernel
theorem dX7_isNow_45 : decode cX7_isNow 45 = .ok (.getfield 44, 3) := by decide +kernel
theorem dX7_isNow_48 : decode cX7_isNow 48 = .ok (.bipush 37, 2) := by decide +kernel
theorem dX7_isNow_50 : decode cX7_isNow 50 = .ok (.iaload, 1) := by decide +kernel
theorem dX7_isNow_51 : decode cX7_isNow 51 = .ok (.ireturn, 1) := by decide +kernel
theorem dX7_isNow_52 : decode cX7_isNow 52 = .ok (.aload_n 0, 1) := by decide +kernel
theorem dX7_isNow_53 : decode cX7_isNow 53 = .ok (.getfield 44, 3) := by decide +kernel
theorem dX7_isNow_56 : decode cX7_isNow 56 = .ok (.bipush 38, 2) := by decide +kernel
theorem dX7_isNow_58 : decode cX7_isNow 58 = .ok (.iaload, 1) := by decide +kernel
theorem dX7_isNow_59 : decode cX7_isNow 59 = .ok (.ireturn, 1) := by decide +kernel
theorem dX7_isNow_60 : decode cX7_isNow 60 = .ok (.aload_n 0, 1) := by decide +kernel
theorem dX7_isNow_61 : decode cX7_isNow 61 = .ok (.getfield 44, 3) := by decide +kernel
theorem dX7_isNow_64 : decode cX7_isNow 64 = .ok (.bipush 39, 2) := by decide +kernel
theorem dX7_isNow_66 : decode cX7_isNow 66 = .ok (.iaload, 1) := by decide +kernel
theorem dX7_isNow_67 : decode cX7_isNow 67 = .ok (.ireturn, 1) := by decide +kernel
theorem dX7_isNow_68 : decode cX7_isNow 68 = .ok (.aload_n 0, 1) := by decide +kernel
theorem dX7_isNow_69 : decode cX7_isNow 69 = .ok (.getfield 44, 3) := by decide +kernel
theorem dX7_isNow_72 : decode cX7_isNow 72 = .ok (.bipush 40, 2) := by decide +kernel
theorem dX7_isNow_74 : decode cX7_isNow 74 = .ok (.iaload, 1) := by decide +kernel
theorem dX7_isNow_75 : decode cX7_isNow 75 = .ok (.ireturn, 1) := by decide +kernel
theorem dX7_isNow_76 : decode cX7_isNow 76 = .ok (.aload_n 0, 1) := by decide +kernel
theorem dX7_isNow_77 : decode cX7_isNow 77 = .ok (.getfield 44, 3) := by decide +kernel
theorem dX7_isNow_80 : decode cX7_isNow 80 = .ok (.bipush 41, 2) := by decide +kernel
theorem dX7_isNow_82 : decode cX7_isNow 82 = .ok (.iaload, 1) := by decide +kernel
theorem dX7_isNow_83 : decode cX7_isNow 83 = .ok (.ireturn, 1) := by decide +kernel
theorem dX7_isNow_84 : decode cX7_isNow 84 = .ok (.aload_n 0, 1) := by decide +kernel
theorem dX7_isNow_85 : decode cX7_isNow 85 = .ok (.getfield 44, 3) := by decide +kernel
theorem dX7_isNow_88 : decode cX7_isNow 88 = .ok (.bipush 42, 2) := by decide +kernel
theorem dX7_isNow_90 : decode cX7_isNow 90 = .ok (.iaload, 1) := by decide +kernel
theorem dX7_isNow_91 : decode cX7_isNow 91 = .ok (.ireturn, 1) := by decide +kernel
theorem dX7_isNow_92 : decode cX7_isNow 92 = .ok (.aload_n 0, 1) := by decide +kernel
theorem dX7_isNow_93 : decode cX7_isNow 93 = .ok (.invokevirtual 393, 3) := by decide +kernel
theorem dX7_isNow_96 : decode cX7_isNow 96 = .ok (.ifCond .eq 7, 3) := by decide +kernel
theorem dX7_isNow_99 : decode cX7_isNow 99 = .ok (.iconst 1, 1) := by decide +kernel
theorem dX7_isNow_100 : decode cX7_isNow 100 = .ok (.goto 4, 3) := by decide +kernel
theorem dX7_isNow_103 : decode cX7_isNow 103 = .ok (.iconst 0, 1) := by decide +kernel
theorem dX7_isNow_104 : decode cX7_isNow 104 = .ok (.ireturn, 1) := by decide +kernel
theorem dX7_isNow_105 : decode cX7_isNow 105 = .ok (.aload_n 0, 1) := by decide +kernel
theorem dX7_isNow_106 : decode cX7_isNow 106 = .ok (.invokevirtual 390, 3) := by decide +kernel
theorem dX7_isNow_109 : decode cX7_isNow 109 = .ok (.ireturn, 1) := by decide +kernel
theorem dX7_refusesRun_0 : decode cX7_refusesRun 0 = .ok (.aload_n 0, 1) := by decide +kernel
theorem dX7_refusesRun_1 : decode cX7_refusesRun 1 = .ok (.getfield 241, 3) := by decide +kernel
theorem dX7_refusesRun_4 : decode cX7_refusesRun 4 = .ok (.ifCond .eq 7, 3) := by decide +kernel
theorem dX7_refusesRun_7 : decode cX7_refusesRun 7 = .ok (.iload_n 1, 1) := by decide +kernel
theorem dX7_refusesRun_8 : decode cX7_refusesRun 8 = .ok (.ifCond .ne 7, 3) := by decide +kernel
theorem dX7_refusesRun_11 : decode cX7_refusesRun 11 = .ok (.iconst 1, 1) := by decide +kernel
theorem dX7_refusesRun_12 : decode cX7_refusesRun 12 = .ok (.goto 18, 3) := by decide +kernel
theorem dX7_refusesRun_15 : decode cX7_refusesRun 15 = .ok (.aload_n 0, 1) := by decide +kernel
theorem dX7_refusesRun_16 : decode cX7_refusesRun 16 = .ok (.getfield 44, 3) := by decide +kernel
theorem dX7_refusesRun_19 : decode cX7_refusesRun 19 = .ok (.bipush 36, 2) := by decide +kernel
theorem dX7_refusesRun_21 : decode cX7_refusesRun 21 = .ok (.iaload, 1) := by decide +kernel
theorem dX7_refusesRun_22 : decode cX7_refusesRun 22 = .ok (.ifCond .ne 7, 3) := by decide +kernel
theorem dX7_refusesRun_25 : decode cX7_refusesRun 25 = .ok (.iconst 5, 1) := by decide +kernel
theorem dX7_refusesRun_26 : decode cX7_refusesRun 26 = .ok (.goto 4, 3) := by decide +kernel
theorem dX7_refusesRun_29 : decode cX7_refusesRun 29 = .ok (.iconst 0, 1) := by decide +kernel
theorem dX7_refusesRun_30 : decode cX7_refusesRun 30 = .ok (.ireturn, 1) := by decide +kernel
theorem dX7_now_0 : decode cX7_now 0 = .ok (.aload_n 0, 1) := by decide +kernel
theorem dX7_now_1 : decode cX7_now 1 = .ok (.iconst 0, 1) := by decide +kernel
theorem dX7_now_2 : decode cX7_now 2 = .ok (.putfield 70, 3) := by decide +kernel
theorem dX7_now_5 : decode cX7_now 5 = .ok (.aload_n 0, 1) := by decide +kernel
theorem dX7_now_6 : decode cX7_now 6 = .ok (.iload_n 1, 1) := by decide +kernel
theorem dX7_now_7 : decode cX7_now 7 = .ok (.iconst 0, 1) := by decide +kernel
theorem dX7_now_8 : decode cX7_now 8 = .ok (.bipush 7, 2) := by decide +kernel
theorem dX7_now_10 : decode cX7_now 10 = .ok (.invokestatic 99, 3) := by decide +kernel
theorem dX7_now_13 : decode cX7_now 13 = .ok (.invokevirtual 396, 3) := by decide +kernel
theorem dX7_now_16 : decode cX7_now 16 = .ok (.istore_n 2, 1) := by decide +kernel
theorem dX7_now_17 : decode cX7_now 17 = .ok (.iload_n 2, 1) := by decide +kernel
theorem dX7_now_18 : decode cX7_now 18 = .ok (.ifCond .le 11, 3) := by decide +kernel
theorem dX7_now_21 : decode cX7_now 21 = .ok (.aload_n 0, 1) := by decide +kernel
theorem dX7_now_22 : decode cX7_now 22 = .ok (.iload_n 2, 1) := by decide +kernel
theorem dX7_now_23 : decode cX7_now 23 = .ok (.invokevirtual 285, 3) := by decide +kernel
theorem dX7_now_26 : decode cX7_now 26 = .ok (.goto 12, 3) := by decide +kernel
theorem dX7_now_29 : decode cX7_now 29 = .ok (.aload_n 0, 1) := by decide +kernel
theorem dX7_now_30 : decode cX7_now 30 = .ok (.aload_n 0, 1) := by decide +kernel
theorem dX7_now_31 : decode cX7_now 31 = .ok (.iload_n 1, 1) := by decide +kernel
theorem dX7_now_32 : decode cX7_now 32 = .ok (.invokevirtual 400, 3) := by decide +kernel
theorem dX7_now_35 : decode cX7_now 35 = .ok (.invokevirtual 238, 3) := by decide +kernel
theorem dX7_now_38 : decode cX7_now 38 = .ok (.ireturn, 1) := by decide +kernel
theorem dX7_part_0 : decode cX7_part 0 = .ok (.aload_n 0, 1) := by decide +kernel
theorem dX7_part_1 : decode cX7_part 1 = .ok (.iconst 0, 1) := by decide +kernel
theorem dX7_part_2 : decode cX7_part 2 = .ok (.putfield 70, 3) := by decide +kernel
theorem dX7_part_5 : decode cX7_part 5 = .ok (.aload_n 0, 1) := by decide +kernel
theorem dX7_part_6 : decode cX7_part 6 = .ok (.aload_n 0, 1) := by decide +kernel
theorem dX7_part_7 : decode cX7_part 7 = .ok (.iload_n 1, 1) := by decide +kernel
theorem dX7_part_8 : decode cX7_part 8 = .ok (.invokevirtual 282, 3) := by decide +kernel
theorem dX7_part_11 : decode cX7_part 11 = .ok (.ifCond .eq 17, 3) := by decide +kernel
theorem dX7_part_14 : decode cX7_part 14 = .ok (.iload_n 2, 1) := by decide +kernel
theorem dX7_part_15 : decode cX7_part 15 = .ok (.iconst 0, 1) := by decide +kernel
theorem dX7_part_16 : decode cX7_part 16 = .ok (.bipush 6, 2) := by decide +kernel
theorem dX7_part_18 : decode cX7_part 18 = .ok (.invokestatic 99, 3) := by decide +kernel
theorem dX7_part_21 : decode cX7_part 21 = .ok (.ifCond .eq 7, 3) := by decide +kernel
theorem dX7_part_24 : decode cX7_part 24 = .ok (.iconst 1, 1) := by decide +kernel
theorem dX7_part_25 : decode cX7_part 25 = .ok (.goto 4, 3) := by decide +kernel
theorem dX7_part_28 : decode cX7_part 28 = .ok (.iconst 0, 1) := by decide +kernel
theorem dX7_part_29 : decode cX7_part 29 = .ok (.invokevirtual 396, 3) := by decide +kernel
theorem dX7_part_32 : decode cX7_part 32 = .ok (.istore_n 3, 1) := by decide +kernel
theorem dX7_part_33 : decode cX7_part 33 = .ok (.iload_n 3, 1) := by decide +kernel
theorem dX7_part_34 : decode cX7_part 34 = .ok (.ifCond .le 11, 3) := by decide +kernel
theorem dX7_part_37 : decode cX7_part 37 = .ok (.aload_n 0, 1) := by decide +kernel
theorem dX7_part_38 : decode cX7_part 38 = .ok (.iload_n 3, 1) := by decide +kernel
theorem dX7_part_39 : decode cX7_part 39 = .ok (.invokevirtual 285, 3) := by decide +kernel
theorem dX7_part_42 : decode cX7_part 42 = .ok (.goto 13, 3) := by decide +kernel
theorem dX7_part_45 : decode cX7_part 45 = .ok (.aload_n 0, 1) := by decide +kernel
theorem dX7_part_46 : decode cX7_part 46 = .ok (.aload_n 0, 1) := by decide +kernel
theorem dX7_part_47 : decode cX7_part 47 = .ok (.iload_n 1, 1) := by decide +kernel
theorem dX7_part_48 : decode cX7_part 48 = .ok (.iload_n 2, 1) := by decide +kernel
theorem dX7_part_49 : decode cX7_part 49 = .ok (.invokevirtual 362, 3) := by decide +kernel
theorem dX7_part_52 : decode cX7_part 52 = .ok (.invokevirtual 238, 3) := by decide +kernel
theorem dX7_part_55 : decode cX7_part 55 = .ok (.ireturn, 1) := by decide +kernel
theorem dX7_entries_0 : decode cX7_entries 0 = .ok (.aload_n 0, 1) := by decide +kernel
theorem dX7_entries_1 : decode cX7_entries 1 = .ok (.iconst 0, 1) := by decide +kernel
theorem dX7_entries_2 : decode cX7_entries 2 = .ok (.putfield 70, 3) := by decide +kernel
theorem dX7_entries_5 : decode cX7_entries 5 = .ok (.aload_n 0, 1) := by decide +kernel
theorem dX7_entries_6 : decode cX7_entries 6 = .ok (.iconst 1, 1) := by decide +kernel
theorem dX7_entries_7 : decode cX7_entries 7 = .ok (.invokevirtual 396, 3) := by decide +kernel
theorem dX7_entries_10 : decode cX7_entries 10 = .ok (.istore_n 1, 1) := by decide +kernel
theorem dX7_entries_11 : decode cX7_entries 11 = .ok (.iload_n 1, 1) := by decide +kernel
theorem dX7_entries_12 : decode cX7_entries 12 = .ok (.ifCond .le 11, 3) := by decide +kernel
theorem dX7_entries_15 : decode cX7_entries 15 = .ok (.aload_n 0, 1) := by decide +kernel
theorem dX7_entries_16 : decode cX7_entries 16 = .ok (.iload_n 1, 1) := by decide +kernel
theorem dX7_entries_17 : decode cX7_entries 17 = .ok (.invokevirtual 76, 3) := by decide +kernel
theorem dX7_entries_20 : decode cX7_entries 20 = .ok (.goto 14, 3) := by decide +kernel
theorem dX7_entries_23 : decode cX7_entries 23 = .ok (.aload_n 0, 1) := by decide +kernel
theorem dX7_entries_24 : decode cX7_entries 24 = .ok (.aload_n 0, 1) := by decide +kernel
theorem dX7_entries_25 : decode cX7_entries 25 = .ok (.getfield 44, 3) := by decide +kernel
theorem dX7_entries_28 : decode cX7_entries 28 = .ok (.bipush 88, 2) := by decide +kernel
theorem dX7_entries_30 : decode cX7_entries 30 = .ok (.iaload, 1) := by decide +kernel
theorem dX7_entries_31 : decode cX7_entries 31 = .ok (.invokevirtual 238, 3) := by decide +kernel
theorem dX7_entries_34 : decode cX7_entries 34 = .ok (.ireturn, 1) := by decide +kernel
theorem dX7_entry_0 : decode cX7_entry 0 = .ok (.aload_n 0, 1) := by decide +kernel
theorem dX7_entry_1 : decode cX7_entry 1 = .ok (.iconst 0, 1) := by decide +kernel
theorem dX7_entry_2 : decode cX7_entry 2 = .ok (.putfield 70, 3) := by decide +kernel
theorem dX7_entry_5 : decode cX7_entry 5 = .ok (.aload_n 0, 1) := by decide +kernel
theorem dX7_entry_6 : decode cX7_entry 6 = .ok (.aload_n 0, 1) := by decide +kernel
theorem dX7_entry_7 : decode cX7_entry 7 = .ok (.getfield 241, 3) := by decide +kernel
theorem dX7_entry_10 : decode cX7_entry 10 = .ok (.ifCond .eq 33, 3) := by decide +kernel
theorem dX7_entry_13 : decode cX7_entry 13 = .ok (.iload_n 1, 1) := by decide +kernel
theorem dX7_entry_14 : decode cX7_entry 14 = .ok (.iconst 0, 1) := by decide +kernel
theorem dX7_entry_15 : decode cX7_entry 15 = .ok (.aload_n 0, 1) := by decide +kernel
theorem dX7_entry_16 : decode cX7_entry 16 = .ok (.getfield 44, 3) := by decide +kernel
theorem dX7_entry_19 : decode cX7_entry 19 = .ok (.bipush 88, 2) := by decide +kernel
theorem dX7_entry_21 : decode cX7_entry 21 = .ok (.iaload, 1) := by decide +kernel
theorem dX7_entry_22 : decode cX7_entry 22 = .ok (.iconst 1, 1) := by decide +kernel
theorem dX7_entry_23 : decode cX7_entry 23 = .ok (.isub, 1) := by decide +kernel
theorem dX7_entry_24 : decode cX7_entry 24 = .ok (.invokestatic 99, 3) := by decide +kernel
theorem dX7_entry_27 : decode cX7_entry 27 = .ok (.ifCond .eq 16, 3) := by decide +kernel
theorem dX7_entry_30 : decode cX7_entry 30 = .ok (.iload_n 2, 1) := by decide +kernel
theorem dX7_entry_31 : decode cX7_entry 31 = .ok (.iconst 0, 1) := by decide +kernel
theorem dX7_entry_32 : decode cX7_entry 32 = .ok (.iconst 2, 1) := by decide +kernel
theorem dX7_entry_33 : decode cX7_entry 33 = .ok (.invokestatic 99, 3) := by decide +kernel
theorem dX7_entry_36 : decode cX7_entry 36 = .ok (.ifCond .eq 7, 3) := by decide +kernel
theorem dX7_entry_39 : decode cX7_entry 39 = .ok (.iconst 1, 1) := by decide +kernel
theorem dX7_entry_40 : decode cX7_entry 40 = .ok (.goto 4, 3) := by decide +kernel
theorem dX7_entry_43 : decode cX7_entry 43 = .ok (.iconst 0, 1) := by decide +kernel
theorem dX7_entry_44 : decode cX7_entry 44 = .ok (.invokevirtual 396, 3) := by decide +kernel
theorem dX7_entry_47 : decode cX7_entry 47 = .ok (.istore_n 3, 1) := by decide +kernel
theorem dX7_entry_48 : decode cX7_entry 48 = .ok (.iload_n 3, 1) := by decide +kernel
theorem dX7_entry_49 : decode cX7_entry 49 = .ok (.ifCond .le 11, 3) := by decide +kernel
theorem dX7_entry_52 : decode cX7_entry 52 = .ok (.aload_n 0, 1) := by decide +kernel
theorem dX7_entry_53 : decode cX7_entry 53 = .ok (.iload_n 3, 1) := by decide +kernel
theorem dX7_entry_54 : decode cX7_entry 54 = .ok (.invokevirtual 76, 3) := by decide +kernel
theorem dX7_entry_57 : decode cX7_entry 57 = .ok (.goto 20, 3) := by decide +kernel
theorem dX7_entry_60 : decode cX7_entry 60 = .ok (.aload_n 0, 1) := by decide +kernel
theorem dX7_entry_61 : decode cX7_entry 61 = .ok (.aload_n 0, 1) := by decide +kernel
theorem dX7_entry_62 : decode cX7_entry 62 = .ok (.getfield 44, 3) := by decide +kernel
theorem dX7_entry_65 : decode cX7_entry 65 = .ok (.bipush 89, 2) := by decide +kernel
theorem dX7_entry_67 : decode cX7_entry 67 = .ok (.iconst 3, 1) := by decide +kernel
theorem dX7_entry_68 : decode cX7_entry 68 = .ok (.iload_n 1, 1) := by decide +kernel
theorem dX7_entry_69 : decode cX7_entry 69 = .ok (.imul, 1) := by decide +kernel
theorem dX7_entry_70 : decode cX7_entry 70 = .ok (.iadd, 1) := by decide +kernel
theorem dX7_entry_71 : decode cX7_entry 71 = .ok (.iload_n 2, 1) := by decide +kernel
theorem dX7_entry_72 : decode cX7_entry 72 = .ok (.iadd, 1) := by decide +kernel
theorem dX7_entry_73 : decode cX7_entry 73 = .ok (.iaload, 1) := by decide +kernel
theorem dX7_entry_74 : decode cX7_entry 74 = .ok (.invokevirtual 238, 3) := by decide +kernel
theorem dX7_entry_77 : decode cX7_entry 77 = .ok (.ireturn, 1) := by decide +kernel
theorem dX7_bought_0 : decode cX7_bought 0 = .ok (.aload_n 0, 1) := by decide +kernel
theorem dX7_bought_1 : decode cX7_bought 1 = .ok (.iconst 0, 1) := by decide +kernel
theorem dX7_bought_2 : decode cX7_bought 2 = .ok (.putfield 70, 3) := by decide +kernel
theorem dX7_bought_5 : decode cX7_bought 5 = .ok (.aload_n 0, 1) := by decide +kernel
theorem dX7_bought_6 : decode cX7_bought 6 = .ok (.aload_n 0, 1) := by decide +kernel
theorem dX7_bought_7 : decode cX7_bought 7 = .ok (.iload_n 1, 1) := by decide +kernel
theorem dX7_bought_8 : decode cX7_bought 8 = .ok (.invokevirtual 282, 3) := by decide +kernel
theorem dX7_bought_11 : decode cX7_bought 11 = .ok (.invokevirtual 396, 3) := by decide +kernel
theorem dX7_bought_14 : decode cX7_bought 14 = .ok (.istore_n 3, 1) := by decide +kernel
theorem dX7_bought_15 : decode cX7_bought 15 = .ok (.iload_n 3, 1) := by decide +kernel
theorem dX7_bought_16 : decode cX7_bought 16 = .ok (.ifCond .le 9, 3) := by decide +kernel
theorem dX7_bought_19 : decode cX7_bought 19 = .ok (.aload_n 0, 1) := by decide +kernel
theorem dX7_bought_20 : decode cX7_bought 20 = .ok (.iload_n 3, 1) := by decide +kernel
theorem dX7_bought_21 : decode cX7_bought 21 = .ok (.invokevirtual 76, 3) := by decide +kernel
theorem dX7_bought_24 : decode cX7_bought 24 = .ok (.ireturn, 1) := by decide +kernel
theorem dX7_bought_25 : decode cX7_bought 25 = .ok (.iconst 0, 1) := by decide +kernel
theorem dX7_bought_26 : decode cX7_bought 26 = .ok (.istore 4, 2) := by decide +kernel
theorem dX7_bought_28 : decode cX7_bought 28 = .ok (.iload 4, 2) := by decide +kernel
theorem dX7_bought_30 : decode cX7_bought 30 = .ok (.aload_n 0, 1) := by decide +kernel
theorem dX7_bought_31 : decode cX7_bought 31 = .ok (.getfield 44, 3) := by decide +kernel
theorem dX7_bought_34 : decode cX7_bought 34 = .ok (.bipush 88, 2) := by decide +kernel
theorem dX7_bought_36 : decode cX7_bought 36 = .ok (.iaload, 1) := by decide +kernel
theorem dX7_bought_37 : decode cX7_bought 37 = .ok (.if_icmp .ge 56, 3) := by decide +kernel
theorem dX7_bought_40 : decode cX7_bought 40 = .ok (.bipush 89, 2) := by decide +kernel
theorem dX7_bought_42 : decode cX7_bought 42 = .ok (.iconst 3, 1) := by decide +kernel
theorem dX7_bought_43 : decode cX7_bought 43 = .ok (.iload 4, 2) := by decide +kernel
theorem dX7_bought_45 : decode cX7_bought 45 = .ok (.imul, 1) := by decide +kernel
theorem dX7_bought_46 : decode cX7_bought 46 = .ok (.iadd, 1) := by decide +kernel
theorem dX7_bought_47 : decode cX7_bought 47 = .ok (.istore 5, 2) := by decide +kernel
theorem dX7_bought_49 : decode cX7_bought 49 = .ok (.aload_n 0, 1) := by decide +kernel
theorem dX7_bought_50 : decode cX7_bought 50 = .ok (.getfield 44, 3) := by decide +kernel
theorem dX7_bought_53 : decode cX7_bought 53 = .ok (.iload 5, 2) := by decide +kernel
theorem dX7_bought_55 : decode cX7_bought 55 = .ok (.iaload, 1) := by decide +kernel
theorem dX7_bought_56 : decode cX7_bought 56 = .ok (.iload_n 1, 1) := by decide +kernel
theorem dX7_bought_57 : decode cX7_bought 57 = .ok (.if_icmp .ne 30, 3) := by decide +kernel
theorem dX7_bought_60 : decode cX7_bought 60 = .ok (.aload_n 0, 1) := by decide +kernel
theorem dX7_bought_61 : decode cX7_bought 61 = .ok (.getfield 44, 3) := by decide +kernel
theorem dX7_bought_64 : decode cX7_bought 64 = .ok (.iload 5, 2) := by decide +kernel
theorem dX7_bought_66 : decode cX7_bought 66 = .ok (.iconst 1, 1) := by decide +kernel
theorem dX7_bought_67 : decode cX7_bought 67 = .ok (.iadd, 1) := by decide +kernel
theorem dX7_bought_68 : decode cX7_bought 68 = .ok (.iaload, 1) := by decide +kernel
theorem dX7_bought_69 : decode cX7_bought 69 = .ok (.iload_n 2, 1) := by decide +kernel
theorem dX7_bought_70 : decode cX7_bought 70 = .ok (.if_icmp .ne 17, 3) := by decide +kernel
theorem dX7_bought_73 : decode cX7_bought 73 = .ok (.aload_n 0, 1) := by decide +kernel
theorem dX7_bought_74 : decode cX7_bought 74 = .ok (.aload_n 0, 1) := by decide +kernel
theorem dX7_bought_75 : decode cX7_bought 75 = .ok (.getfield 44, 3) := by decide +kernel
theorem dX7_bought_78 : decode cX7_bought 78 = .ok (.iload 5, 2) := by decide +kernel
theorem dX7_bought_80 : decode cX7_bought 80 = .ok (.iconst 2, 1) := by decide +kernel
theorem dX7_bought_81 : decode cX7_bought 81 = .ok (.iadd, 1) := by decide +kernel
theorem dX7_bought_82 : decode cX7_bought 82 = .ok (.iaload, 1) := by decide +kernel
theorem dX7_bought_83 : decode cX7_bought 83 = .ok (.invokevirtual 238, 3) := by decide +kernel
theorem dX7_bought_86 : decode cX7_bought 86 = .ok (.ireturn, 1) := by decide +kernel
theorem dX7_bought_87 : decode cX7_bought 87 = .ok (.iinc 4 1, 3) := by decide +kernel
theorem dX7_bought_90 : decode cX7_bought 90 = .ok (.goto (-62), 3) := by decide +kernel
theorem dX7_bought_93 : decode cX7_bought 93 = .ok (.aload_n 0, 1) := by decide +kernel
theorem dX7_bought_94 : decode cX7_bought 94 = .ok (.iconst 0, 1) := by decide +kernel
theorem dX7_bought_95 : decode cX7_bought 95 = .ok (.invokevirtual 238, 3) := by decide +kernel
theorem dX7_bought_98 : decode cX7_bought 98 = .ok (.ireturn, 1) := by decide +kernel
theorem dX7_will_0 : decode cX7_will 0 = .ok (.aload_n 0, 1) := by decide +kernel
theorem dX7_will_1 : decode cX7_will 1 = .ok (.iconst 0, 1) := by decide +kernel
theorem dX7_will_2 : decode cX7_will 2 = .ok (.putfield 70, 3) := by decide +kernel
theorem dX7_will_5 : decode cX7_will 5 = .ok (.aload_n 0, 1) := by decide +kernel
theorem dX7_will_6 : decode cX7_will 6 = .ok (.iload_n 1, 1) := by decide +kernel
theorem dX7_will_7 : decode cX7_will 7 = .ok (.iconst 0, 1) := by decide +kernel
theorem dX7_will_8 : decode cX7_will 8 = .ok (.bipush 6, 2) := by decide +kernel
theorem dX7_will_10 : decode cX7_will 10 = .ok (.invokestatic 99, 3) := by decide +kernel
theorem dX7_will_13 : decode cX7_will 13 = .ok (.invokevirtual 396, 3) := by decide +kernel
theorem dX7_will_16 : decode cX7_will 16 = .ok (.istore_n 2, 1) := by decide +kernel
theorem dX7_will_17 : decode cX7_will 17 = .ok (.iload_n 2, 1) := by decide +kernel
theorem dX7_will_18 : decode cX7_will 18 = .ok (.ifCond .le 9, 3) := by decide +kernel
theorem dX7_will_21 : decode cX7_will 21 = .ok (.aload_n 0, 1) := by decide +kernel
theorem dX7_will_22 : decode cX7_will 22 = .ok (.iload_n 2, 1) := by decide +kernel
theorem dX7_will_23 : decode cX7_will 23 = .ok (.invokevirtual 285, 3) := by decide +kernel
theorem dX7_will_26 : decode cX7_will 26 = .ok (.ireturn, 1) := by decide +kernel
theorem dX7_will_27 : decode cX7_will 27 = .ok (.aload_n 0, 1) := by decide +kernel
theorem dX7_will_28 : decode cX7_will 28 = .ok (.getfield 44, 3) := by decide +kernel
theorem dX7_will_31 : decode cX7_will 31 = .ok (.aload_n 0, 1) := by decide +kernel
theorem dX7_will_32 : decode cX7_will 32 = .ok (.getfield 50, 3) := by decide +kernel
theorem dX7_will_35 : decode cX7_will 35 = .ok (.invokestatic 403, 3) := by decide +kernel
theorem dX7_will_38 : decode cX7_will 38 = .ok (.iconst 0, 1) := by decide +kernel
theorem dX7_will_39 : decode cX7_will 39 = .ok (.istore_n 3, 1) := by decide +kernel
theorem dX7_will_40 : decode cX7_will 40 = .ok (.iload_n 3, 1) := by decide +kernel
theorem dX7_will_41 : decode cX7_will 41 = .ok (.sipush 400, 3) := by decide +kernel
theorem dX7_will_44 : decode cX7_will 44 = .ok (.if_icmp .ge 21, 3) := by decide +kernel
theorem dX7_will_47 : decode cX7_will 47 = .ok (.aload_n 0, 1) := by decide +kernel
theorem dX7_will_48 : decode cX7_will 48 = .ok (.invokevirtual 393, 3) := by decide +kernel
theorem dX7_will_51 : decode cX7_will 51 = .ok (.ifCond .ne 14, 3) := by decide +kernel
theorem dX7_will_54 : decode cX7_will 54 = .ok (.aload_n 0, 1) := by decide +kernel
theorem dX7_will_55 : decode cX7_will 55 = .ok (.invokevirtual 407, 3) := by decide +kernel
theorem dX7_will_58 : decode cX7_will 58 = .ok (.pop, 1) := by decide +kernel
theorem dX7_will_59 : decode cX7_will 59 = .ok (.iinc 3 1, 3) := by decide +kernel
theorem dX7_will_62 : decode cX7_will 62 = .ok (.goto (-22), 3) := by decide +kernel
theorem dX7_will_65 : decode cX7_will 65 = .ok (.aload_n 0, 1) := by decide +kernel
theorem dX7_will_66 : decode cX7_will 66 = .ok (.iload_n 1, 1) := by decide +kernel
theorem dX7_will_67 : decode cX7_will 67 = .ok (.invokevirtual 400, 3) := by decide +kernel
theorem dX7_will_70 : decode cX7_will 70 = .ok (.istore_n 3, 1) := by decide +kernel
theorem dX7_will_71 : decode cX7_will 71 = .ok (.aload_n 0, 1) := by decide +kernel
theorem dX7_will_72 : decode cX7_will 72 = .ok (.getfield 50, 3) := by decide +kernel
theorem dX7_will_75 : decode cX7_will 75 = .ok (.aload_n 0, 1) := by decide +kernel
theorem dX7_will_76 : decode cX7_will 76 = .ok (.getfield 44, 3) := by decide +kernel
theorem dX7_will_79 : decode cX7_will 79 = .ok (.invokestatic 403, 3) := by decide +kernel
theorem dX7_will_82 : decode cX7_will 82 = .ok (.aload_n 0, 1) := by decide +kernel
theorem dX7_will_83 : decode cX7_will 83 = .ok (.iload_n 3, 1) := by decide +kernel
theorem dX7_will_84 : decode cX7_will 84 = .ok (.invokevirtual 238, 3) := by decide +kernel
theorem dX7_will_87 : decode cX7_will 87 = .ok (.ireturn, 1) := by decide +kernel
theorem dX7_fee_0 : decode cX7_fee 0 = .ok (.aload_n 0, 1) := by decide +kernel
theorem dX7_fee_1 : decode cX7_fee 1 = .ok (.iconst 0, 1) := by decide +kernel
theorem dX7_fee_2 : decode cX7_fee 2 = .ok (.putfield 70, 3) := by decide +kernel
theorem dX7_fee_5 : decode cX7_fee 5 = .ok (.aload_n 0, 1) := by decide +kernel
theorem dX7_fee_6 : decode cX7_fee 6 = .ok (.iload_n 1, 1) := by decide +kernel
theorem dX7_fee_7 : decode cX7_fee 7 = .ok (.invokevirtual 282, 3) := by decide +kernel
theorem dX7_fee_10 : decode cX7_fee 10 = .ok (.ifCond .ne 9, 3) := by decide +kernel
theorem dX7_fee_13 : decode cX7_fee 13 = .ok (.aload_n 0, 1) := by decide +kernel
theorem dX7_fee_14 : decode cX7_fee 14 = .ok (.iconst 1, 1) := by decide +kernel
theorem dX7_fee_15 : decode cX7_fee 15 = .ok (.invokevirtual 285, 3) := by decide +kernel
theorem dX7_fee_18 : decode cX7_fee 18 = .ok (.ireturn, 1) := by decide +kernel
theorem dX7_fee_19 : decode cX7_fee 19 = .ok (.iload_n 2, 1) := by decide +kernel
theorem dX7_fee_20 : decode cX7_fee 20 = .ok (.bipush (-9), 2) := by decide +kernel
theorem dX7_fee_22 : decode cX7_fee 22 = .ok (.bipush 9, 2) := by decide +kernel
theorem dX7_fee_24 : decode cX7_fee 24 = .ok (.invokestatic 99, 3) := by decide +kernel
theorem dX7_fee_27 : decode cX7_fee 27 = .ok (.ifCond .ne 9, 3) := by decide +kernel
theorem dX7_fee_30 : decode cX7_fee 30 = .ok (.aload_n 0, 1) := by decide +kernel
theorem dX7_fee_31 : decode cX7_fee 31 = .ok (.iconst 2, 1) := by decide +kernel
theorem dX7_fee_32 : decode cX7_fee 32 = .ok (.invokevirtual 285, 3) := by decide +kernel
theorem dX7_fee_35 : decode cX7_fee 35 = .ok (.ireturn, 1) := by decide +kernel
theorem dX7_fee_36 : decode cX7_fee 36 = .ok (.aload_n 0, 1) := by decide +kernel
theorem dX7_fee_37 : decode cX7_fee 37 = .ok (.getfield 44, 3) := by decide +kernel
theorem dX7_fee_40 : decode cX7_fee 40 = .ok (.bipush 36, 2) := by decide +kernel
theorem dX7_fee_42 : decode cX7_fee 42 = .ok (.iaload, 1) := by decide +kernel
theorem dX7_fee_43 : decode cX7_fee 43 = .ok (.iconst 1, 1) := by decide +kernel
theorem dX7_fee_44 : decode cX7_fee 44 = .ok (.if_icmp .ne 9, 3) := by decide +kernel
theorem dX7_fee_47 : decode cX7_fee 47 = .ok (.aload_n 0, 1) := by decide +kernel
theorem dX7_fee_48 : decode cX7_fee 48 = .ok (.iconst 5, 1) := by decide +kernel
theorem dX7_fee_49 : decode cX7_fee 49 = .ok (.invokevirtual 285, 3) := by decide +kernel
theorem dX7_fee_52 : decode cX7_fee 52 = .ok (.ireturn, 1) := by decide +kernel
theorem dX7_fee_53 : decode cX7_fee 53 = .ok (.aload_n 0, 1) := by decide +kernel
theorem dX7_fee_54 : decode cX7_fee 54 = .ok (.getfield 44, 3) := by decide +kernel
theorem dX7_fee_57 : decode cX7_fee 57 = .ok (.bipush 30, 2) := by decide +kernel
theorem dX7_fee_59 : decode cX7_fee 59 = .ok (.iload_n 1, 1) := by decide +kernel
theorem dX7_fee_60 : decode cX7_fee 60 = .ok (.iadd, 1) := by decide +kernel
theorem dX7_fee_61 : decode cX7_fee 61 = .ok (.iaload, 1) := by decide +kernel
theorem dX7_fee_62 : decode cX7_fee 62 = .ok (.istore_n 3, 1) := by decide +kernel
theorem dX7_fee_63 : decode cX7_fee 63 = .ok (.aload_n 0, 1) := by decide +kernel
theorem dX7_fee_64 : decode cX7_fee 64 = .ok (.getfield 44, 3) := by decide +kernel
theorem dX7_fee_67 : decode cX7_fee 67 = .ok (.bipush 30, 2) := by decide +kernel
theorem dX7_fee_69 : decode cX7_fee 69 = .ok (.iload_n 1, 1) := by decide +kernel
theorem dX7_fee_70 : decode cX7_fee 70 = .ok (.iadd, 1) := by decide +kernel
theorem dX7_fee_71 : decode cX7_fee 71 = .ok (.iload_n 2, 1) := by decide +kernel
theorem dX7_fee_72 : decode cX7_fee 72 = .ok (.iastore, 1) := by decide +kernel
theorem dX7_fee_73 : decode cX7_fee 73 = .ok (.aload_n 0, 1) := by decide +kernel
theorem dX7_fee_74 : decode cX7_fee 74 = .ok (.iload_n 3, 1) := by decide +kernel
theorem dX7_fee_75 : decode cX7_fee 75 = .ok (.invokevirtual 238, 3) := by decide +kernel
theorem dX7_fee_78 : decode cX7_fee 78 = .ok (.ireturn, 1) := by decide +kernel
theorem dX7_resize_0 : decode cX7_resize 0 = .ok (.aload_n 0, 1) := by decide +kernel
theorem dX7_resize_1 : decode cX7_resize 1 = .ok (.iconst 0, 1) := by decide +kernel
theorem dX7_resize_2 : decode cX7_resize 2 = .ok (.putfield 70, 3) := by decide +kernel
theorem dX7_resize_5 : decode cX7_resize 5 = .ok (.aload_n 0, 1) := by decide +kernel
theorem dX7_resize_6 : decode cX7_resize 6 = .ok (.iload_n 1, 1) := by decide +kernel
theorem dX7_resize_7 : decode cX7_resize 7 = .ok (.invokevirtual 282, 3) := by decide +kernel
theorem dX7_resize_10 : decode cX7_resize 10 = .ok (.ifCond .eq 18, 3) := by decide +kernel
theorem dX7_resize_13 : decode cX7_resize 13 = .ok (.iload_n 2, 1) := by decide +kernel
theorem dX7_resize_14 : decode cX7_resize 14 = .ok (.iconst 0, 1) := by decide +kernel
theorem dX7_resize_15 : decode cX7_resize 15 = .ok (.aload_n 0, 1) := by decide +kernel
theorem dX7_resize_16 : decode cX7_resize 16 = .ok (.iload_n 1, 1) := by decide +kernel
theorem dX7_resize_17 : decode cX7_resize 17 = .ok (.invokevirtual 255, 3) := by decide +kernel
theorem dX7_resize_20 : decode cX7_resize 20 = .ok (.iconst 1, 1) := by decide +kernel
theorem dX7_resize_21 : decode cX7_resize 21 = .ok (.isub, 1) := by decide +kernel
theorem dX7_resize_22 : decode cX7_resize 22 = .ok (.invokestatic 99, 3) := by decide +kernel
theorem dX7_resize_25 : decode cX7_resize 25 = .ok (.ifCond .ne 9, 3) := by decide +kernel
theorem dX7_resize_28 : decode cX7_resize 28 = .ok (.aload_n 0, 1) := by decide +kernel
theorem dX7_resize_29 : decode cX7_resize 29 = .ok (.iconst 1, 1) := by decide +kernel
theorem dX7_resize_30 : decode cX7_resize 30 = .ok (.invokevirtual 76, 3) := by decide +kernel
theorem dX7_resize_33 : decode cX7_resize 33 = .ok (.ireturn, 1) := by decide +kernel
theorem dX7_resize_34 : decode cX7_resize 34 = .ok (.iload_n 3, 1) := by decide +kernel
theorem dX7_resize_35 : decode cX7_resize 35 = .ok (.iconst 0, 1) := by decide +kernel
theorem dX7_resize_36 : decode cX7_resize 36 = .ok (.bipush 99, 2) := by decide +kernel
theorem dX7_resize_38 : decode cX7_resize 38 = .ok (.invokestatic 99, 3) := by decide +kernel
theorem dX7_resize_41 : decode cX7_resize 41 = .ok (.ifCond .ne 9, 3) := by decide +kernel
theorem dX7_resize_44 : decode cX7_resize 44 = .ok (.aload_n 0, 1) := by decide +kernel
theorem dX7_resize_45 : decode cX7_resize 45 = .ok (.iconst 2, 1) := by decide +kernel
theorem dX7_resize_46 : decode cX7_resize 46 = .ok (.invokevirtual 76, 3) := by decide +kernel
theorem dX7_resize_49 : decode cX7_resize 49 = .ok (.ireturn, 1) := by decide +kernel
theorem dX7_resize_50 : decode cX7_resize 50 = .ok (.aload_n 0, 1) := by decide +kernel
theorem dX7_resize_51 : decode cX7_resize 51 = .ok (.iload_n 1, 1) := by decide +kernel
theorem dX7_resize_52 : decode cX7_resize 52 = .ok (.iload_n 2, 1) := by decide +kernel
theorem dX7_resize_53 : decode cX7_resize 53 = .ok (.invokevirtual 267, 3) := by decide +kernel
theorem dX7_resize_56 : decode cX7_resize 56 = .ok (.istore 4, 2) := by decide +kernel
theorem dX7_resize_58 : decode cX7_resize 58 = .ok (.aload_n 0, 1) := by decide +kernel
theorem dX7_resize_59 : decode cX7_resize 59 = .ok (.getfield 44, 3) := by decide +kernel
theorem dX7_resize_62 : decode cX7_resize 62 = .ok (.iconst 0, 1) := by decide +kernel
theorem dX7_resize_63 : decode cX7_resize 63 = .ok (.bipush 6, 2) := by decide +kernel
theorem dX7_resize_65 : decode cX7_resize 65 = .ok (.iload_n 1, 1) := by decide +kernel
theorem dX7_resize_66 : decode cX7_resize 66 = .ok (.imul, 1) := by decide +kernel
theorem dX7_resize_67 : decode cX7_resize 67 = .ok (.iadd, 1) := by decide +kernel
theorem dX7_resize_68 : decode cX7_resize 68 = .ok (.iload_n 2, 1) := by decide +kernel
theorem dX7_resize_69 : decode cX7_resize 69 = .ok (.iadd, 1) := by decide +kernel
theorem dX7_resize_70 : decode cX7_resize 70 = .ok (.iload_n 3, 1) := by decide +kernel
theorem dX7_resize_71 : decode cX7_resize 71 = .ok (.iastore, 1) := by decide +kernel
theorem dX7_resize_72 : decode cX7_resize 72 = .ok (.aload_n 0, 1) := by decide +kernel
theorem dX7_resize_73 : decode cX7_resize 73 = .ok (.iload 4, 2) := by decide +kernel
theorem dX7_resize_75 : decode cX7_resize 75 = .ok (.invokevirtual 238, 3) := by decide +kernel
theorem dX7_resize_78 : decode cX7_resize 78 = .ok (.ireturn, 1) := by decide +kernel
theorem dX7_order_0 : decode cX7_order 0 = .ok (.aload_n 0, 1) := by decide +kernel
theorem dX7_order_1 : decode cX7_order 1 = .ok (.iconst 0, 1) := by decide +kernel
theorem dX7_order_2 : decode cX7_order 2 = .ok (.putfield 70, 3) := by decide +kernel
theorem dX7_order_5 : decode cX7_order 5 = .ok (.aload_n 0, 1) := by decide +kernel
theorem dX7_order_6 : decode cX7_order 6 = .ok (.getfield 241, 3) := by decide +kernel
theorem dX7_order_9 : decode cX7_order 9 = .ok (.ifCond .ne 9, 3) := by decide +kernel
theorem dX7_order_12 : decode cX7_order 12 = .ok (.aload_n 0, 1) := by decide +kernel
theorem dX7_order_13 : decode cX7_order 13 = .ok (.iconst 1, 1) := by decide +kernel
theorem dX7_order_14 : decode cX7_order 14 = .ok (.invokevirtual 76, 3) := by decide +kernel
theorem dX7_order_17 : decode cX7_order 17 = .ok (.ireturn, 1) := by decide +kernel
theorem dX7_order_18 : decode cX7_order 18 = .ok (.iload_n 1, 1) := by decide +kernel
theorem dX7_order_19 : decode cX7_order 19 = .ok (.iconst 1, 1) := by decide +kernel
theorem dX7_order_20 : decode cX7_order 20 = .ok (.bipush 120, 2) := by decide +kernel
theorem dX7_order_22 : decode cX7_order 22 = .ok (.invokestatic 99, 3) := by decide +kernel
theorem dX7_order_25 : decode cX7_order 25 = .ok (.ifCond .ne 9, 3) := by decide +kernel
theorem dX7_order_28 : decode cX7_order 28 = .ok (.aload_n 0, 1) := by decide +kernel
theorem dX7_order_29 : decode cX7_order 29 = .ok (.iconst 2, 1) := by decide +kernel
theorem dX7_order_30 : decode cX7_order 30 = .ok (.invokevirtual 76, 3) := by decide +kernel
theorem dX7_order_33 : decode cX7_order 33 = .ok (.ireturn, 1) := by decide +kernel
theorem dX7_order_34 : decode cX7_order 34 = .ok (.aload_n 0, 1) := by decide +kernel
theorem dX7_order_35 : decode cX7_order 35 = .ok (.getfield 44, 3) := by decide +kernel
theorem dX7_order_38 : decode cX7_order 38 = .ok (.bipush 36, 2) := by decide +kernel
theorem dX7_order_40 : decode cX7_order 40 = .ok (.iaload, 1) := by decide +kernel
theorem dX7_order_41 : decode cX7_order 41 = .ok (.iconst 1, 1) := by decide +kernel
theorem dX7_order_42 : decode cX7_order 42 = .ok (.if_icmp .ne 9, 3) := by decide +kernel
theorem dX7_order_45 : decode cX7_order 45 = .ok (.aload_n 0, 1) := by decide +kernel
theorem dX7_order_46 : decode cX7_order 46 = .ok (.iconst 5, 1) := by decide +kernel
theorem dX7_order_47 : decode cX7_order 47 = .ok (.invokevirtual 76, 3) := by decide +kernel
theorem dX7_order_50 : decode cX7_order 50 = .ok (.ireturn, 1) := by decide +kernel
theorem dX7_order_51 : decode cX7_order 51 = .ok (.aload_n 0, 1) := by decide +kernel
theorem dX7_order_52 : decode cX7_order 52 = .ok (.getfield 44, 3) := by decide +kernel
theorem dX7_order_55 : decode cX7_order 55 = .ok (.bipush 35, 2) := by decide +kernel
theorem dX7_order_57 : decode cX7_order 57 = .ok (.iaload, 1) := by decide +kernel
theorem dX7_order_58 : decode cX7_order 58 = .ok (.istore_n 2, 1) := by decide +kernel
theorem dX7_order_59 : decode cX7_order 59 = .ok (.aload_n 0, 1) := by decide +kernel
theorem dX7_order_60 : decode cX7_order 60 = .ok (.getfield 44, 3) := by decide +kernel
theorem dX7_order_63 : decode cX7_order 63 = .ok (.bipush 35, 2) := by decide +kernel
theorem dX7_order_65 : decode cX7_order 65 = .ok (.iload_n 1, 1) := by decide +kernel
theorem dX7_order_66 : decode cX7_order 66 = .ok (.iastore, 1) := by decide +kernel
theorem dX7_order_67 : decode cX7_order 67 = .ok (.aload_n 0, 1) := by decide +kernel
theorem dX7_order_68 : decode cX7_order 68 = .ok (.iload_n 2, 1) := by decide +kernel
theorem dX7_order_69 : decode cX7_order 69 = .ok (.invokevirtual 238, 3) := by decide +kernel
theorem dX7_order_72 : decode cX7_order 72 = .ok (.ireturn, 1) := by decide +kernel
theorem dX7_begin_0 : decode cX7_begin 0 = .ok (.aload_n 0, 1) := by decide +kernel
theorem dX7_begin_1 : decode cX7_begin 1 = .ok (.iconst 0, 1) := by decide +kernel
theorem dX7_begin_2 : decode cX7_begin 2 = .ok (.putfield 70, 3) := by decide +kernel
theorem dX7_begin_5 : decode cX7_begin 5 = .ok (.aload_n 0, 1) := by decide +kernel
theorem dX7_begin_6 : decode cX7_begin 6 = .ok (.getfield 241, 3) := by decide +kernel
theorem dX7_begin_9 : decode cX7_begin 9 = .ok (.ifCond .ne 9, 3) := by decide +kernel
theorem dX7_begin_12 : decode cX7_begin 12 = .ok (.aload_n 0, 1) := by decide +kernel
theorem dX7_begin_13 : decode cX7_begin 13 = .ok (.iconst 1, 1) := by decide +kernel
theorem dX7_begin_14 : decode cX7_begin 14 = .ok (.invokevirtual 76, 3) := by decide +kernel
theorem dX7_begin_17 : decode cX7_begin 17 = .ok (.ireturn, 1) := by decide +kernel
theorem dX7_begin_18 : decode cX7_begin 18 = .ok (.aload_n 0, 1) := by decide +kernel
theorem dX7_begin_19 : decode cX7_begin 19 = .ok (.getfield 44, 3) := by decide +kernel
theorem dX7_begin_22 : decode cX7_begin 22 = .ok (.bipush 36, 2) := by decide +kernel
theorem dX7_begin_24 : decode cX7_begin 24 = .ok (.iaload, 1) := by decide +kernel
theorem dX7_begin_25 : decode cX7_begin 25 = .ok (.iconst 1, 1) := by decide +kernel
theorem dX7_begin_26 : decode cX7_begin 26 = .ok (.if_icmp .ne 9, 3) := by decide +kernel
theorem dX7_begin_29 : decode cX7_begin 29 = .ok (.aload_n 0, 1) := by decide +kernel
theorem dX7_begin_30 : decode cX7_begin 30 = .ok (.iconst 5, 1) := by decide +kernel
theorem dX7_begin_31 : decode cX7_begin 31 = .ok (.invokevirtual 76, 3) := by decide +kernel
theorem dX7_begin_34 : decode cX7_begin 34 = .ok (.ireturn, 1) := by decide +kernel
theorem dX7_begin_35 : decode cX7_begin 35 = .ok (.aload_n 0, 1) := by decide +kernel
theorem dX7_begin_36 : decode cX7_begin 36 = .ok (.getfield 44, 3) := by decide +kernel
theorem dX7_begin_39 : decode cX7_begin 39 = .ok (.bipush 36, 2) := by decide +kernel
theorem dX7_begin_41 : decode cX7_begin 41 = .ok (.iconst 1, 1) := by decide +kernel
theorem dX7_begin_42 : decode cX7_begin 42 = .ok (.iastore, 1) := by decide +kernel
theorem dX7_begin_43 : decode cX7_begin 43 = .ok (.aload_n 0, 1) := by decide +kernel
theorem dX7_begin_44 : decode cX7_begin 44 = .ok (.getfield 44, 3) := by decide +kernel
theorem dX7_begin_47 : decode cX7_begin 47 = .ok (.bipush 38, 2) := by decide +kernel
theorem dX7_begin_49 : decode cX7_begin 49 = .ok (.aload_n 0, 1) := by decide +kernel
theorem dX7_begin_50 : decode cX7_begin 50 = .ok (.getfield 44, 3) := by decide +kernel
theorem dX7_begin_53 : decode cX7_begin 53 = .ok (.bipush 35, 2) := by decide +kernel
theorem dX7_begin_55 : decode cX7_begin 55 = .ok (.iaload, 1) := by decide +kernel
theorem dX7_begin_56 : decode cX7_begin 56 = .ok (.iastore, 1) := by decide +kernel
theorem dX7_begin_57 : decode cX7_begin 57 = .ok (.aload_n 0, 1) := by decide +kernel
theorem dX7_begin_58 : decode cX7_begin 58 = .ok (.aload_n 0, 1) := by decide +kernel
theorem dX7_begin_59 : decode cX7_begin 59 = .ok (.invokevirtual 387, 3) := by decide +kernel
theorem dX7_begin_62 : decode cX7_begin 62 = .ok (.invokevirtual 238, 3) := by decide +kernel
theorem dX7_begin_65 : decode cX7_begin 65 = .ok (.ireturn, 1) := by decide +kernel
theorem dX7_ticks_0 : decode cX7_ticks 0 = .ok (.aload_n 0, 1) := by decide +kernel
theorem dX7_ticks_1 : decode cX7_ticks 1 = .ok (.iconst 0, 1) := by decide +kernel
theorem dX7_ticks_2 : decode cX7_ticks 2 = .ok (.putfield 70, 3) := by decide +kernel
theorem dX7_ticks_5 : decode cX7_ticks 5 = .ok (.aload_n 0, 1) := by decide +kernel
theorem dX7_ticks_6 : decode cX7_ticks 6 = .ok (.getfield 241, 3) := by decide +kernel
theorem dX7_ticks_9 : decode cX7_ticks 9 = .ok (.ifCond .ne 9, 3) := by decide +kernel
theorem dX7_ticks_12 : decode cX7_ticks 12 = .ok (.aload_n 0, 1) := by decide +kernel
theorem dX7_ticks_13 : decode cX7_ticks 13 = .ok (.iconst 1, 1) := by decide +kernel
theorem dX7_ticks_14 : decode cX7_ticks 14 = .ok (.invokevirtual 76, 3) := by decide +kernel
theorem dX7_ticks_17 : decode cX7_ticks 17 = .ok (.ireturn, 1) := by decide +kernel
theorem dX7_ticks_18 : decode cX7_ticks 18 = .ok (.iload_n 1, 1) := by decide +kernel
theorem dX7_ticks_19 : decode cX7_ticks 19 = .ok (.iconst 1, 1) := by decide +kernel
theorem dX7_ticks_20 : decode cX7_ticks 20 = .ok (.sipush 200, 3) := by decide +kernel
theorem dX7_ticks_23 : decode cX7_ticks 23 = .ok (.invokestatic 99, 3) := by decide +kernel
theorem dX7_ticks_26 : decode cX7_ticks 26 = .ok (.ifCond .ne 9, 3) := by decide +kernel
theorem dX7_ticks_29 : decode cX7_ticks 29 = .ok (.aload_n 0, 1) := by decide +kernel
theorem dX7_ticks_30 : decode cX7_ticks 30 = .ok (.iconst 2, 1) := by decide +kernel
theorem dX7_ticks_31 : decode cX7_ticks 31 = .ok (.invokevirtual 76, 3) := by decide +kernel
theorem dX7_ticks_34 : decode cX7_ticks 34 = .ok (.ireturn, 1) := by decide +kernel
theorem dX7_ticks_35 : decode cX7_ticks 35 = .ok (.aload_n 0, 1) := by decide +kernel
theorem dX7_ticks_36 : decode cX7_ticks 36 = .ok (.getfield 44, 3) := by decide +kernel
theorem dX7_ticks_39 : decode cX7_ticks 39 = .ok (.bipush 36, 2) := by decide +kernel
theorem dX7_ticks_41 : decode cX7_ticks 41 = .ok (.iaload, 1) := by decide +kernel
theorem dX7_ticks_42 : decode cX7_ticks 42 = .ok (.ifCond .ne 9, 3) := by decide +kernel
theorem dX7_ticks_45 : decode cX7_ticks 45 = .ok (.aload_n 0, 1) := by decide +kernel
theorem dX7_ticks_46 : decode cX7_ticks 46 = .ok (.iconst 5, 1) := by decide +kernel
theorem dX7_ticks_47 : decode cX7_ticks 47 = .ok (.invokevirtual 76, 3) := by decide +kernel
theorem dX7_ticks_50 : decode cX7_ticks 50 = .ok (.ireturn, 1) := by decide +kernel
theorem dX7_ticks_51 : decode cX7_ticks 51 = .ok (.iconst 0, 1) := by decide +kernel
theorem dX7_ticks_52 : decode cX7_ticks 52 = .ok (.istore_n 2, 1) := by decide +kernel
theorem dX7_ticks_53 : decode cX7_ticks 53 = .ok (.iconst 0, 1) := by decide +kernel
theorem dX7_ticks_54 : decode cX7_ticks 54 = .ok (.istore_n 3, 1) := by decide +kernel
theorem dX7_ticks_55 : decode cX7_ticks 55 = .ok (.iload_n 3, 1) := by decide +kernel
theorem dX7_ticks_56 : decode cX7_ticks 56 = .ok (.iload_n 1, 1) := by decide +kernel
theorem dX7_ticks_57 : decode cX7_ticks 57 = .ok (.if_icmp .ge 16, 3) := by decide +kernel
theorem dX7_ticks_60 : decode cX7_ticks 60 = .ok (.iload_n 2, 1) := by decide +kernel
theorem dX7_ticks_61 : decode cX7_ticks 61 = .ok (.aload_n 0, 1) := by decide +kernel
theorem dX7_ticks_62 : decode cX7_ticks 62 = .ok (.invokevirtual 407, 3) := by decide +kernel
theorem dX7_ticks_65 : decode cX7_ticks 65 = .ok (.iadd, 1) := by decide +kernel
theorem dX7_ticks_66 : decode cX7_ticks 66 = .ok (.istore_n 2, 1) := by decide +kernel
theorem dX7_ticks_67 : decode cX7_ticks 67 = .ok (.iinc 3 1, 3) := by decide +kernel
theorem dX7_ticks_70 : decode cX7_ticks 70 = .ok (.goto (-15), 3) := by decide +kernel
theorem dX7_ticks_73 : decode cX7_ticks 73 = .ok (.aload_n 0, 1) := by decide +kernel
theorem dX7_ticks_74 : decode cX7_ticks 74 = .ok (.iload_n 2, 1) := by decide +kernel
theorem dX7_ticks_75 : decode cX7_ticks 75 = .ok (.invokevirtual 238, 3) := by decide +kernel
theorem dX7_ticks_78 : decode cX7_ticks 78 = .ok (.ireturn, 1) := by decide +kernel
theorem dX7_call_0 : decode cX7_call 0 = .ok (.aload_n 0, 1) := by decide +kernel
theorem dX7_call_1 : decode cX7_call 1 = .ok (.iconst 0, 1) := by decide +kernel
theorem dX7_call_2 : decode cX7_call 2 = .ok (.putfield 70, 3) := by decide +kernel
theorem dX7_call_5 : decode cX7_call 5 = .ok (.aload_n 0, 1) := by decide +kernel
theorem dX7_call_6 : decode cX7_call 6 = .ok (.aload_n 0, 1) := by decide +kernel
theorem dX7_call_7 : decode cX7_call 7 = .ok (.iload_n 1, 1) := by decide +kernel
theorem dX7_call_8 : decode cX7_call 8 = .ok (.invokevirtual 282, 3) := by decide +kernel
theorem dX7_call_11 : decode cX7_call 11 = .ok (.invokevirtual 396, 3) := by decide +kernel
theorem dX7_call_14 : decode cX7_call 14 = .ok (.istore_n 2, 1) := by decide +kernel
theorem dX7_call_15 : decode cX7_call 15 = .ok (.iload_n 2, 1) := by decide +kernel
theorem dX7_call_16 : decode cX7_call 16 = .ok (.ifCond .le 9, 3) := by decide +kernel
theorem dX7_call_19 : decode cX7_call 19 = .ok (.aload_n 0, 1) := by decide +kernel
theorem dX7_call_20 : decode cX7_call 20 = .ok (.iload_n 2, 1) := by decide +kernel
theorem dX7_call_21 : decode cX7_call 21 = .ok (.invokevirtual 76, 3) := by decide +kernel
theorem dX7_call_24 : decode cX7_call 24 = .ok (.ireturn, 1) := by decide +kernel
theorem dX7_call_25 : decode cX7_call 25 = .ok (.iload_n 1, 1) := by decide +kernel
theorem dX7_call_26 : decode cX7_call 26 = .ok (.invokestatic 359, 3) := by decide +kernel
theorem dX7_call_29 : decode cX7_call 29 = .ok (.istore_n 3, 1) := by decide +kernel
theorem dX7_call_30 : decode cX7_call 30 = .ok (.aload_n 0, 1) := by decide +kernel
theorem dX7_call_31 : decode cX7_call 31 = .ok (.getfield 44, 3) := by decide +kernel
theorem dX7_call_34 : decode cX7_call 34 = .ok (.iload_n 3, 1) := by decide +kernel
theorem dX7_call_35 : decode cX7_call 35 = .ok (.iconst 0, 1) := by decide +kernel
theorem dX7_call_36 : decode cX7_call 36 = .ok (.iadd, 1) := by decide +kernel
theorem dX7_call_37 : decode cX7_call 37 = .ok (.iaload, 1) := by decide +kernel
theorem dX7_call_38 : decode cX7_call 38 = .ok (.iconst 1, 1) := by decide +kernel
theorem dX7_call_39 : decode cX7_call 39 = .ok (.if_icmp .eq 15, 3) := by decide +kernel
theorem dX7_call_42 : decode cX7_call 42 = .ok (.aload_n 0, 1) := by decide +kernel
theorem dX7_call_43 : decode cX7_call 43 = .ok (.getfield 44, 3) := by decide +kernel
theorem dX7_call_46 : decode cX7_call 46 = .ok (.iload_n 3, 1) := by decide +kernel
theorem dX7_call_47 : decode cX7_call 47 = .ok (.iconst 0, 1) := by decide +kernel
theorem dX7_call_48 : decode cX7_call 48 = .ok (.iadd, 1) := by decide +kernel
theorem dX7_call_49 : decode cX7_call 49 = .ok (.iaload, 1) := by decide +kernel
theorem dX7_call_50 : decode cX7_call 50 = .ok (.iconst 2, 1) := by decide +kernel
theorem dX7_call_51 : decode cX7_call 51 = .ok (.if_icmp .ne 17, 3) := by decide +kernel
theorem dX7_call_54 : decode cX7_call 54 = .ok (.aload_n 0, 1) := by decide +kernel
theorem dX7_call_55 : decode cX7_call 55 = .ok (.getfield 44, 3) := by decide +kernel
theorem dX7_call_58 : decode cX7_call 58 = .ok (.iload_n 3, 1) := by decide +kernel
theorem dX7_call_59 : decode cX7_call 59 = .ok (.bipush 6, 2) := by decide +kernel
theorem dX7_call_61 : decode cX7_call 61 = .ok (.iadd, 1) := by decide +kernel
theorem dX7_call_62 : decode cX7_call 62 = .ok (.iaload, 1) := by decide +kernel
theorem dX7_call_63 : decode cX7_call 63 = .ok (.bipush (-2), 2) := by decide +kernel
theorem dX7_call_65 : decode cX7_call 65 = .ok (.if_icmp .eq 9, 3) := by decide +kernel
theorem dX7_call_68 : decode cX7_call 68 = .ok (.aload_n 0, 1) := by decide +kernel
theorem dX7_call_69 : decode cX7_call 69 = .ok (.iconst 5, 1) := by decide +kernel
theorem dX7_call_70 : decode cX7_call 70 = .ok (.invokevirtual 76, 3) := by decide +kernel
theorem dX7_call_73 : decode cX7_call 73 = .ok (.ireturn, 1) := by decide +kernel
theorem dX7_call_74 : decode cX7_call 74 = .ok (.aload_n 0, 1) := by decide +kernel
theorem dX7_call_75 : decode cX7_call 75 = .ok (.getfield 44, 3) := by decide +kernel
theorem dX7_call_78 : decode cX7_call 78 = .ok (.iload_n 3, 1) := by decide +kernel
theorem dX7_call_79 : decode cX7_call 79 = .ok (.bipush 6, 2) := by decide +kernel
theorem dX7_call_81 : decode cX7_call 81 = .ok (.iadd, 1) := by decide +kernel
theorem dX7_call_82 : decode cX7_call 82 = .ok (.aload_n 0, 1) := by decide +kernel
theorem dX7_call_83 : decode cX7_call 83 = .ok (.getfield 44, 3) := by decide +kernel
theorem dX7_call_86 : decode cX7_call 86 = .ok (.bipush 37, 2) := by decide +kernel
theorem dX7_call_88 : decode cX7_call 88 = .ok (.iaload, 1) := by decide +kernel
theorem dX7_call_89 : decode cX7_call 89 = .ok (.aload_n 0, 1) := by decide +kernel
theorem dX7_call_90 : decode cX7_call 90 = .ok (.iload_n 1, 1) := by decide +kernel
theorem dX7_call_91 : decode cX7_call 91 = .ok (.iconst 3, 1) := by decide +kernel
theorem dX7_call_92 : decode cX7_call 92 = .ok (.invokevirtual 261, 3) := by decide +kernel
theorem dX7_call_95 : decode cX7_call 95 = .ok (.iadd, 1) := by decide +kernel
theorem dX7_call_96 : decode cX7_call 96 = .ok (.iastore, 1) := by decide +kernel
theorem dX7_call_97 : decode cX7_call 97 = .ok (.aload_n 0, 1) := by decide +kernel
theorem dX7_call_98 : decode cX7_call 98 = .ok (.aload_n 0, 1) := by decide +kernel
theorem dX7_call_99 : decode cX7_call 99 = .ok (.getfield 44, 3) := by decide +kernel
theorem dX7_call_102 : decode cX7_call 102 = .ok (.iload_n 3, 1) := by decide +kernel
theorem dX7_call_103 : decode cX7_call 103 = .ok (.bipush 6, 2) := by decide +kernel
theorem dX7_call_105 : decode cX7_call 105 = .ok (.iadd, 1) := by decide +kernel
theorem dX7_call_106 : decode cX7_call 106 = .ok (.iaload, 1) := by decide +kernel
theorem dX7_call_107 : decode cX7_call 107 = .ok (.invokevirtual 238, 3) := by decide +kernel
theorem dX7_call_110 : decode cX7_call 110 = .ok (.ireturn, 1) := by decide +kernel
theorem dX7_keep_0 : decode cX7_keep 0 = .ok (.aload_n 0, 1) := by decide +kernel
theorem dX7_keep_1 : decode cX7_keep 1 = .ok (.iconst 0, 1) := by decide +kernel
theorem dX7_keep_2 : decode cX7_keep 2 = .ok (.putfield 70, 3) := by decide +kernel
theorem dX7_keep_5 : decode cX7_keep 5 = .ok (.aload_n 0, 1) := by decide +kernel
theorem dX7_keep_6 : decode cX7_keep 6 = .ok (.getfield 241, 3) := by decide +kernel
theorem dX7_keep_9 : decode cX7_keep 9 = .ok (.ifCond .ne 11, 3) := by decide +kernel
theorem dX7_keep_12 : decode cX7_keep 12 = .ok (.aload_n 0, 1) := by decide +kernel
theorem dX7_keep_13 : decode cX7_keep 13 = .ok (.iconst 1, 1) := by decide +kernel
theorem dX7_keep_14 : decode cX7_keep 14 = .ok (.invokevirtual 76, 3) := by decide +kernel
theorem dX7_keep_17 : decode cX7_keep 17 = .ok (.pop, 1) := by decide +kernel
theorem dX7_keep_18 : decode cX7_keep 18 = .ok (.iconst 0, 1) := by decide +kernel
theorem dX7_keep_19 : decode cX7_keep 19 = .ok (.ireturn, 1) := by decide +kernel
theorem dX7_keep_20 : decode cX7_keep 20 = .ok (.aload_n 0, 1) := by decide +kernel
theorem dX7_keep_21 : decode cX7_keep 21 = .ok (.getfield 44, 3) := by decide +kernel
theorem dX7_keep_24 : decode cX7_keep 24 = .ok (.aload_n 0, 1) := by decide +kernel
theorem dX7_keep_25 : decode cX7_keep 25 = .ok (.getfield 47, 3) := by decide +kernel
theorem dX7_keep_28 : decode cX7_keep 28 = .ok (.invokestatic 403, 3) := by decide +kernel
theorem dX7_keep_31 : decode cX7_keep 31 = .ok (.aload_n 0, 1) := by decide +kernel
theorem dX7_keep_32 : decode cX7_keep 32 = .ok (.iconst 1, 1) := by decide +kernel
theorem dX7_keep_33 : decode cX7_keep 33 = .ok (.putfield 245, 3) := by decide +kernel
theorem dX7_keep_36 : decode cX7_keep 36 = .ok (.aload_n 0, 1) := by decide +kernel
theorem dX7_keep_37 : decode cX7_keep 37 = .ok (.iconst 0, 1) := by decide +kernel
theorem dX7_keep_38 : decode cX7_keep 38 = .ok (.invokevirtual 238, 3) := by decide +kernel
theorem dX7_keep_41 : decode cX7_keep 41 = .ok (.pop, 1) := by decide +kernel
theorem dX7_keep_42 : decode cX7_keep 42 = .ok (.iconst 1, 1) := by decide +kernel
theorem dX7_keep_43 : decode cX7_keep 43 = .ok (.ireturn, 1) := by decide +kernel
theorem dX7_back_0 : decode cX7_back 0 = .ok (.aload_n 0, 1) := by decide +kernel
theorem dX7_back_1 : decode cX7_back 1 = .ok (.iconst 0, 1) := by decide +kernel
theorem dX7_back_2 : decode cX7_back 2 = .ok (.putfield 70, 3) := by decide +kernel
theorem dX7_back_5 : decode cX7_back 5 = .ok (.aload_n 0, 1) := by decide +kernel
theorem dX7_back_6 : decode cX7_back 6 = .ok (.getfield 245, 3) := by decide +kernel
theorem dX7_back_9 : decode cX7_back 9 = .ok (.ifCond .ne 11, 3) := by decide +kernel
theorem dX7_back_12 : decode cX7_back 12 = .ok (.aload_n 0, 1) := by decide +kernel
theorem dX7_back_13 : decode cX7_back 13 = .ok (.iconst 1, 1) := by decide +kernel
theorem dX7_back_14 : decode cX7_back 14 = .ok (.invokevirtual 76, 3) := by decide +kernel
theorem dX7_back_17 : decode cX7_back 17 = .ok (.pop, 1) := by decide +kernel
theorem dX7_back_18 : decode cX7_back 18 = .ok (.iconst 0, 1) := by decide +kernel
theorem dX7_back_19 : decode cX7_back 19 = .ok (.ireturn, 1) := by decide +kernel
theorem dX7_back_20 : decode cX7_back 20 = .ok (.aload_n 0, 1) := by decide +kernel
theorem dX7_back_21 : decode cX7_back 21 = .ok (.getfield 47, 3) := by decide +kernel
theorem dX7_back_24 : decode cX7_back 24 = .ok (.aload_n 0, 1) := by decide +kernel
theorem dX7_back_25 : decode cX7_back 25 = .ok (.getfield 44, 3) := by decide +kernel
theorem dX7_back_28 : decode cX7_back 28 = .ok (.invokestatic 403, 3) := by decide +kernel
theorem dX7_back_31 : decode cX7_back 31 = .ok (.aload_n 0, 1) := by decide +kernel
theorem dX7_back_32 : decode cX7_back 32 = .ok (.iconst 0, 1) := by decide +kernel
theorem dX7_back_33 : decode cX7_back 33 = .ok (.invokevirtual 238, 3) := by decide +kernel
theorem dX7_back_36 : decode cX7_back 36 = .ok (.pop, 1) := by decide +kernel
theorem dX7_back_37 : decode cX7_back 37 = .ok (.iconst 1, 1) := by decide +kernel
theorem dX7_back_38 : decode cX7_back 38 = .ok (.ireturn, 1) := by decide +kernel
theorem dX7_dry_0 : decode cX7_dry 0 = .ok (.aload_n 0, 1) := by decide +kernel
theorem dX7_dry_1 : decode cX7_dry 1 = .ok (.iconst 0, 1) := by decide +kernel
theorem dX7_dry_2 : decode cX7_dry 2 = .ok (.putfield 70, 3) := by decide +kernel
theorem dX7_dry_5 : decode cX7_dry 5 = .ok (.iconst 0, 1) := by decide +kernel
theorem dX7_dry_6 : decode cX7_dry 6 = .ok (.istore_n 2, 1) := by decide +kernel
theorem dX7_dry_7 : decode cX7_dry 7 = .ok (.iconst 0, 1) := by decide +kernel
theorem dX7_dry_8 : decode cX7_dry 8 = .ok (.istore_n 3, 1) := by decide +kernel
theorem dX7_dry_9 : decode cX7_dry 9 = .ok (.aload_n 0, 1) := by decide +kernel
theorem dX7_dry_10 : decode cX7_dry 10 = .ok (.getfield 241, 3) := by decide +kernel
theorem dX7_dry_13 : decode cX7_dry 13 = .ok (.ifCond .eq 43, 3) := by decide +kernel
theorem dX7_dry_16 : decode cX7_dry 16 = .ok (.iload_n 3, 1) := by decide +kernel
theorem dX7_dry_17 : decode cX7_dry 17 = .ok (.aload_n 0, 1) := by decide +kernel
theorem dX7_dry_18 : decode cX7_dry 18 = .ok (.getfield 235, 3) := by decide +kernel
theorem dX7_dry_21 : decode cX7_dry 21 = .ok (.if_icmp .ge 35, 3) := by decide +kernel
theorem dX7_dry_24 : decode cX7_dry 24 = .ok (.aload_n 0, 1) := by decide +kernel
theorem dX7_dry_25 : decode cX7_dry 25 = .ok (.iload_n 3, 1) := by decide +kernel
theorem dX7_dry_26 : decode cX7_dry 26 = .ok (.invokevirtual 290, 3) := by decide +kernel
theorem dX7_dry_29 : decode cX7_dry 29 = .ok (.aload_n 0, 1) := by decide +kernel
theorem dX7_dry_30 : decode cX7_dry 30 = .ok (.iload_n 3, 1) := by decide +kernel
theorem dX7_dry_31 : decode cX7_dry 31 = .ok (.invokevirtual 288, 3) := by decide +kernel
theorem dX7_dry_34 : decode cX7_dry 34 = .ok (.if_icmp .lt 6, 3) := by decide +kernel
theorem dX7_dry_37 : decode cX7_dry 37 = .ok (.goto 13, 3) := by decide +kernel
theorem dX7_dry_40 : decode cX7_dry 40 = .ok (.iload_n 2, 1) := by decide +kernel
theorem dX7_dry_41 : decode cX7_dry 41 = .ok (.iload_n 1, 1) := by decide +kernel
theorem dX7_dry_42 : decode cX7_dry 42 = .ok (.if_icmp .ne 5, 3) := by decide +kernel
theorem dX7_dry_45 : decode cX7_dry 45 = .ok (.iload_n 3, 1) := by decide +kernel
theorem dX7_dry_46 : decode cX7_dry 46 = .ok (.ireturn, 1) := by decide +kernel
theorem dX7_dry_47 : decode cX7_dry 47 = .ok (.iinc 2 1, 3) := by decide +kernel
theorem dX7_dry_50 : decode cX7_dry 50 = .ok (.iinc 3 1, 3) := by decide +kernel
theorem dX7_dry_53 : decode cX7_dry 53 = .ok (.goto (-44), 3) := by decide +kernel
theorem dX7_dry_56 : decode cX7_dry 56 = .ok (.aload_n 0, 1) := by decide +kernel
theorem dX7_dry_57 : decode cX7_dry 57 = .ok (.iconst 1, 1) := by decide +kernel
theorem dX7_dry_58 : decode cX7_dry 58 = .ok (.putfield 70, 3) := by decide +kernel
theorem dX7_dry_61 : decode cX7_dry 61 = .ok (.iconst 0, 1) := by decide +kernel
theorem dX7_dry_62 : decode cX7_dry 62 = .ok (.ireturn, 1) := by decide +kernel
theorem dX7_size_0 : decode cX7_size 0 = .ok (.aload_n 0, 1) := by decide +kernel
theorem dX7_size_1 : decode cX7_size 1 = .ok (.iconst 0, 1) := by decide +kernel
theorem dX7_size_2 : decode cX7_size 2 = .ok (.putfield 70, 3) := by decide +kernel
theorem dX7_size_5 : decode cX7_size 5 = .ok (.iload_n 1, 1) := by decide +kernel
theorem dX7_size_6 : decode cX7_size 6 = .ok (.ifCond .ne 8, 3) := by decide +kernel
theorem dX7_size_9 : decode cX7_size 9 = .ok (.aload_n 0, 1) := by decide +kernel
theorem dX7_size_10 : decode cX7_size 10 = .ok (.getfield 226, 3) := by decide +kernel
theorem dX7_size_13 : decode cX7_size 13 = .ok (.ireturn, 1) := by decide +kernel
theorem dX7_size_14 : decode cX7_size 14 = .ok (.iload_n 1, 1) := by decide +kernel
theorem dX7_size_15 : decode cX7_size 15 = .ok (.iconst 1, 1) := by decide +kernel
theorem dX7_size_16 : decode cX7_size 16 = .ok (.if_icmp .ne 16, 3) := by decide +kernel
theorem dX7_size_19 : decode cX7_size 19 = .ok (.aload_n 0, 1) := by decide +kernel
theorem dX7_size_20 : decode cX7_size 20 = .ok (.getfield 245, 3) := by decide +kernel
theorem dX7_size_23 : decode cX7_size 23 = .ok (.ifCond .eq 7, 3) := by decide +kernel
theorem dX7_size_26 : decode cX7_size 26 = .ok (.iconst 1, 1) := by decide +kernel
theorem dX7_size_27 : decode cX7_size 27 = .ok (.goto 4, 3) := by decide +kernel
theorem dX7_size_30 : decode cX7_size 30 = .ok (.iconst 0, 1) := by decide +kernel
theorem dX7_size_31 : decode cX7_size 31 = .ok (.ireturn, 1) := by decide +kernel
theorem dX7_size_32 : decode cX7_size 32 = .ok (.iload_n 1, 1) := by decide +kernel
theorem dX7_size_33 : decode cX7_size 33 = .ok (.iconst 2, 1) := by decide +kernel
theorem dX7_size_34 : decode cX7_size 34 = .ok (.if_icmp .ne 13, 3) := by decide +kernel
theorem dX7_size_37 : decode cX7_size 37 = .ok (.aload_n 0, 1) := by decide +kernel
theorem dX7_size_38 : decode cX7_size 38 = .ok (.getfield 44, 3) := by decide +kernel
theorem dX7_size_41 : decode cX7_size 41 = .ok (.bipush 36, 2) := by decide +kernel
theorem dX7_size_43 : decode cX7_size 43 = .ok (.iaload, 1) := by decide +kernel
theorem dX7_size_44 : decode cX7_size 44 = .ok (.goto 4, 3) := by decide +kernel
theorem dX7_size_47 : decode cX7_size 47 = .ok (.iconst (-1), 1) := by decide +kernel
theorem dX7_size_48 : decode cX7_size 48 = .ok (.ireturn, 1) := by decide +kernel
theorem dX7_trouble_0 : decode cX7_trouble 0 = .ok (.aload_n 0, 1) := by decide +kernel
theorem dX7_trouble_1 : decode cX7_trouble 1 = .ok (.iconst 0, 1) := by decide +kernel
theorem dX7_trouble_2 : decode cX7_trouble 2 = .ok (.putfield 70, 3) := by decide +kernel
theorem dX7_trouble_5 : decode cX7_trouble 5 = .ok (.aload_n 0, 1) := by decide +kernel
theorem dX7_trouble_6 : decode cX7_trouble 6 = .ok (.getfield 73, 3) := by decide +kernel
theorem dX7_trouble_9 : decode cX7_trouble 9 = .ok (.ireturn, 1) := by decide +kernel

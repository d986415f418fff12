theorem dX4_init_0 : decode cX4_init 0 = .ok (.aload_n 0, 1) := by decide +kernel
theorem dX4_init_1 : decode cX4_init 1 = .ok (.invokespecial 3, 3) := by decide +kernel
theorem dX4_init_4 : decode cX4_init 4 = .ok (.aload_n 0, 1) := by decide +kernel
theorem dX4_init_5 : decode cX4_init 5 = .ok (.iconst 0, 1) := by decide +kernel
theorem dX4_init_6 : decode cX4_init 6 = .ok (.putfield 9, 3) := by decide +kernel
theorem dX4_init_9 : decode cX4_init 9 = .ok (.aload_n 0, 1) := by decide +kernel
theorem dX4_init_10 : decode cX4_init 10 = .ok (.iconst 0, 1) := by decide +kernel
theorem dX4_init_11 : decode cX4_init 11 = .ok (.putfield 15, 3) := by decide +kernel
theorem dX4_init_14 : decode cX4_init 14 = .ok (.aload_n 0, 1) := by decide +kernel
theorem dX4_init_15 : decode cX4_init 15 = .ok (.iconst 0, 1) := by decide +kernel
theorem dX4_init_16 : decode cX4_init 16 = .ok (.putfield 19, 3) := by decide +kernel
theorem dX4_init_19 : decode cX4_init 19 = .ok (.aload_n 0, 1) := by decide +kernel
theorem dX4_init_20 : decode cX4_init 20 = .ok (.iconst 0, 1) := by decide +kernel
theorem dX4_init_21 : decode cX4_init 21 = .ok (.putfield 22, 3) := by decide +kernel
theorem dX4_init_24 : decode cX4_init 24 = .ok (.aload_n 0, 1) := by decide +kernel
theorem dX4_init_25 : decode cX4_init 25 = .ok (.iconst 0, 1) := by decide +kernel
theorem dX4_init_26 : decode cX4_init 26 = .ok (.putfield 25, 3) := by decide +kernel
theorem dX4_init_29 : decode cX4_init 29 = .ok (.aload_n 0, 1) := by decide +kernel
theorem dX4_init_30 : decode cX4_init 30 = .ok (.iconst 0, 1) := by decide +kernel
theorem dX4_init_31 : decode cX4_init 31 = .ok (.putfield 28, 3) := by decide +kernel
theorem dX4_init_34 : decode cX4_init 34 = .ok (.aload_n 0, 1) := by decide +kernel
theorem dX4_init_35 : decode cX4_init 35 = .ok (.iconst 0, 1) := by decide +kernel
theorem dX4_init_36 : decode cX4_init 36 = .ok (.putfield 31, 3) := by decide +kernel
theorem dX4_init_39 : decode cX4_init 39 = .ok (.aload_n 0, 1) := by decide +kernel
theorem dX4_init_40 : decode cX4_init 40 = .ok (.iconst 0, 1) := by decide +kernel
theorem dX4_init_41 : decode cX4_init 41 = .ok (.putfield 34, 3) := by decide +kernel
theorem dX4_init_44 : decode cX4_init 44 = .ok (.aload_n 0, 1) := by decide +kernel
theorem dX4_init_45 : decode cX4_init 45 = .ok (.iconst 5, 1) := by decide +kernel
theorem dX4_init_46 : decode cX4_init 46 = .ok (.newarray .int, 2) := by decide +kernel
theorem dX4_init_48 : decode cX4_init 48 = .ok (.putfield 37, 3) := by decide +kernel
theorem dX4_init_51 : decode cX4_init 51 = .ok (.aload_n 0, 1) := by decide +kernel
theorem dX4_init_52 : decode cX4_init 52 = .ok (.iconst 5, 1) := by decide +kernel
theorem dX4_init_53 : decode cX4_init 53 = .ok (.newarray .int, 2) := by decide +kernel
theorem dX4_init_55 : decode cX4_init 55 = .ok (.putfield 41, 3) := by decide +kernel
theorem dX4_init_58 : decode cX4_init 58 = .ok (.aload_n 0, 1) := by decide +kernel
theorem dX4_init_59 : decode cX4_init 59 = .ok (.iconst 5, 1) := by decide +kernel
theorem dX4_init_60 : decode cX4_init 60 = .ok (.newarray .int, 2) := by decide +kernel
theorem dX4_init_62 : decode cX4_init 62 = .ok (.putfield 44, 3) := by decide +kernel
theorem dX4_init_65 : decode cX4_init 65 = .ok (.aload_n 0, 1) := by decide +kernel
theorem dX4_init_66 : decode cX4_init 66 = .ok (.iconst 5, 1) := by decide +kernel
theorem dX4_init_67 : decode cX4_init 67 = .ok (.newarray .int, 2) := by decide +kernel
theorem dX4_init_69 : decode cX4_init 69 = .ok (.putfield 47, 3) := by decide +kernel
theorem dX4_init_72 : decode cX4_init 72 = .ok (.aload_n 0, 1) := by decide +kernel
theorem dX4_init_73 : decode cX4_init 73 = .ok (.iconst 5, 1) := by decide +kernel
theorem dX4_init_74 : decode cX4_init 74 = .ok (.newarray .int, 2) := by decide +kernel
theorem dX4_init_76 : decode cX4_init 76 = .ok (.putfield 50, 3) := by decide +kernel
theorem dX4_init_79 : decode cX4_init 79 = .ok (.aload_n 0, 1) := by decide +kernel
theorem dX4_init_80 : decode cX4_init 80 = .ok (.iconst 5, 1) := by decide +kernel
theorem dX4_init_81 : decode cX4_init 81 = .ok (.newarray .int, 2) := by decide +kernel
theorem dX4_init_83 : decode cX4_init 83 = .ok (.putfield 53, 3) := by decide +kernel
theorem dX4_init_86 : decode cX4_init 86 = .ok (.aload_n 0, 1) := by decide +kernel
theorem dX4_init_87 : decode cX4_init 87 = .ok (.iconst 5, 1) := by decide +kernel
theorem dX4_init_88 : decode cX4_init 88 = .ok (.newarray .int, 2) := by decide +kernel
theorem dX4_init_90 : decode cX4_init 90 = .ok (.putfield 56, 3) := by decide +kernel
theorem dX4_init_93 : decode cX4_init 93 = .ok (.aload_n 0, 1) := by decide +kernel
theorem dX4_init_94 : decode cX4_init 94 = .ok (.iconst 5, 1) := by decide +kernel
theorem dX4_init_95 : decode cX4_init 95 = .ok (.newarray .int, 2) := by decide +kernel
theorem dX4_init_97 : decode cX4_init 97 = .ok (.putfield 59, 3) := by decide +kernel
theorem dX4_init_100 : decode cX4_init 100 = .ok (.aload_n 0, 1) := by decide +kernel
theorem dX4_init_101 : decode cX4_init 101 = .ok (.new 62, 3) := by decide +kernel
theorem dX4_init_104 : decode cX4_init 104 = .ok (.dup, 1) := by decide +kernel
theorem dX4_init_105 : decode cX4_init 105 = .ok (.invokespecial 64, 3) := by decide +kernel
theorem dX4_init_108 : decode cX4_init 108 = .ok (.putfield 65, 3) := by decide +kernel
theorem dX4_init_111 : decode cX4_init 111 = .ok (.return_, 1) := by decide +kernel
theorem dX4_clear_0 : decode cX4_clear 0 = .ok (.aload_n 0, 1) := by decide +kernel
theorem dX4_clear_1 : decode cX4_clear 1 = .ok (.iconst 0, 1) := by decide +kernel
theorem dX4_clear_2 : decode cX4_clear 2 = .ok (.putfield 9, 3) := by decide +kernel
theorem dX4_clear_5 : decode cX4_clear 5 = .ok (.aload_n 0, 1) := by decide +kernel
theorem dX4_clear_6 : decode cX4_clear 6 = .ok (.iconst 0, 1) := by decide +kernel
theorem dX4_clear_7 : decode cX4_clear 7 = .ok (.putfield 15, 3) := by decide +kernel
theorem dX4_clear_10 : decode cX4_clear 10 = .ok (.aload_n 0, 1) := by decide +kernel
theorem dX4_clear_11 : decode cX4_clear 11 = .ok (.iconst 0, 1) := by decide +kernel
theorem dX4_clear_12 : decode cX4_clear 12 = .ok (.putfield 19, 3) := by decide +kernel
theorem dX4_clear_15 : decode cX4_clear 15 = .ok (.aload_n 0, 1) := by decide +kernel
theorem dX4_clear_16 : decode cX4_clear 16 = .ok (.iconst 0, 1) := by decide +kernel
theorem dX4_clear_17 : decode cX4_clear 17 = .ok (.putfield 22, 3) := by decide +kernel
theorem dX4_clear_20 : decode cX4_clear 20 = .ok (.aload_n 0, 1) := by decide +kernel
theorem dX4_clear_21 : decode cX4_clear 21 = .ok (.iconst 0, 1) := by decide +kernel
theorem dX4_clear_22 : decode cX4_clear 22 = .ok (.putfield 25, 3) := by decide +kernel
theorem dX4_clear_25 : decode cX4_clear 25 = .ok (.aload_n 0, 1) := by decide +kernel
theorem dX4_clear_26 : decode cX4_clear 26 = .ok (.iconst 0, 1) := by decide +kernel
theorem dX4_clear_27 : decode cX4_clear 27 = .ok (.putfield 28, 3) := by decide +kernel
theorem dX4_clear_30 : decode cX4_clear 30 = .ok (.aload_n 0, 1) := by decide +kernel
theorem dX4_clear_31 : decode cX4_clear 31 = .ok (.iconst 0, 1) := by decide +kernel
theorem dX4_clear_32 : decode cX4_clear 32 = .ok (.putfield 31, 3) := by decide +kernel
theorem dX4_clear_35 : decode cX4_clear 35 = .ok (.aload_n 0, 1) := by decide +kernel
theorem dX4_clear_36 : decode cX4_clear 36 = .ok (.iconst 0, 1) := by decide +kernel
theorem dX4_clear_37 : decode cX4_clear 37 = .ok (.putfield 34, 3) := by decide +kernel
theorem dX4_clear_40 : decode cX4_clear 40 = .ok (.iconst 0, 1) := by decide +kernel
theorem dX4_clear_41 : decode cX4_clear 41 = .ok (.istore_n 1, 1) := by decide +kernel
theorem dX4_clear_42 : decode cX4_clear 42 = .ok (.iload_n 1, 1) := by decide +kernel
theorem dX4_clear_43 : decode cX4_clear 43 = .ok (.iconst 5, 1) := by decide +kernel
theorem dX4_clear_44 : decode cX4_clear 44 = .ok (.if_icmp .ge 14, 3) := by decide +kernel
theorem dX4_clear_47 : decode cX4_clear 47 = .ok (.aload_n 0, 1) := by decide +kernel
theorem dX4_clear_48 : decode cX4_clear 48 = .ok (.iload_n 1, 1) := by decide +kernel
theorem dX4_clear_49 : decode cX4_clear 49 = .ok (.invokevirtual 69, 3) := by decide +kernel
theorem dX4_clear_52 : decode cX4_clear 52 = .ok (.iinc 1 1, 3) := by decide +kernel
theorem dX4_clear_55 : decode cX4_clear 55 = .ok (.goto (-13), 3) := by decide +kernel
theorem dX4_clear_58 : decode cX4_clear 58 = .ok (.aload_n 0, 1) := by decide +kernel
theorem dX4_clear_59 : decode cX4_clear 59 = .ok (.getfield 65, 3) := by decide +kernel
theorem dX4_clear_62 : decode cX4_clear 62 = .ok (.iconst 0, 1) := by decide +kernel
theorem dX4_clear_63 : decode cX4_clear 63 = .ok (.putfield 73, 3) := by decide +kernel
theorem dX4_clear_66 : decode cX4_clear 66 = .ok (.return_, 1) := by decide +kernel
theorem dX4_copyFrom_0 : decode cX4_copyFrom 0 = .ok (.aload_n 0, 1) := by decide +kernel
theorem dX4_copyFrom_1 : decode cX4_copyFrom 1 = .ok (.aload_n 1, 1) := by decide +kernel
theorem dX4_copyFrom_2 : decode cX4_copyFrom 2 = .ok (.getfield 9, 3) := by decide +kernel
theorem dX4_copyFrom_5 : decode cX4_copyFrom 5 = .ok (.putfield 9, 3) := by decide +kernel
theorem dX4_copyFrom_8 : decode cX4_copyFrom 8 = .ok (.aload_n 0, 1) := by decide +kernel
theorem dX4_copyFrom_9 : decode cX4_copyFrom 9 = .ok (.aload_n 1, 1) := by decide +kernel
theorem dX4_copyFrom_10 : decode cX4_copyFrom 10 = .ok (.getfield 15, 3) := by decide +kernel
theorem dX4_copyFrom_13 : decode cX4_copyFrom 13 = .ok (.putfield 15, 3) := by decide +kernel
theorem dX4_copyFrom_16 : decode cX4_copyFrom 16 = .ok (.aload_n 0, 1) := by decide +kernel
theorem dX4_copyFrom_17 : decode cX4_copyFrom 17 = .ok (.aload_n 1, 1) := by decide +kernel
theorem dX4_copyFrom_18 : decode cX4_copyFrom 18 = .ok (.getfield 19, 3) := by decide +kernel
theorem dX4_copyFrom_21 : decode cX4_copyFrom 21 = .ok (.putfield 19, 3) := by decide +kernel
theorem dX4_copyFrom_24 : decode cX4_copyFrom 24 = .ok (.aload_n 0, 1) := by decide +kernel
theorem dX4_copyFrom_25 : decode cX4_copyFrom 25 = .ok (.aload_n 1, 1) := by decide +kernel
theorem dX4_copyFrom_26 : decode cX4_copyFrom 26 = .ok (.getfield 22, 3) := by decide +kernel
theorem dX4_copyFrom_29 : decode cX4_copyFrom 29 = .ok (.putfield 22, 3) := by decide +kernel
theorem dX4_copyFrom_32 : decode cX4_copyFrom 32 = .ok (.aload_n 0, 1) := by decide +kernel
theorem dX4_copyFrom_33 : decode cX4_copyFrom 33 = .ok (.aload_n 1, 1) := by decide +kernel
theorem dX4_copyFrom_34 : decode cX4_copyFrom 34 = .ok (.getfield 25, 3) := by decide +kernel
theorem dX4_copyFrom_37 : decode cX4_copyFrom 37 = .ok (.putfield 25, 3) := by decide +kernel
theorem dX4_copyFrom_40 : decode cX4_copyFrom 40 = .ok (.aload_n 0, 1) := by decide +kernel
theorem dX4_copyFrom_41 : decode cX4_copyFrom 41 = .ok (.aload_n 1, 1) := by decide +kernel
theorem dX4_copyFrom_42 : decode cX4_copyFrom 42 = .ok (.getfield 28, 3) := by decide +kernel
theorem dX4_copyFrom_45 : decode cX4_copyFrom 45 = .ok (.putfield 28, 3) := by decide +kernel
theorem dX4_copyFrom_48 : decode cX4_copyFrom 48 = .ok (.aload_n 0, 1) := by decide +kernel
theorem dX4_copyFrom_49 : decode cX4_copyFrom 49 = .ok (.aload_n 1, 1) := by decide +kernel
theorem dX4_copyFrom_50 : decode cX4_copyFrom 50 = .ok (.getfield 31, 3) := by decide +kernel
theorem dX4_copyFrom_53 : decode cX4_copyFrom 53 = .ok (.putfield 31, 3) := by decide +kernel
theorem dX4_copyFrom_56 : decode cX4_copyFrom 56 = .ok (.aload_n 0, 1) := by decide +kernel
theorem dX4_copyFrom_57 : decode cX4_copyFrom 57 = .ok (.aload_n 1, 1) := by decide +kernel
theorem dX4_copyFrom_58 : decode cX4_copyFrom 58 = .ok (.getfield 34, 3) := by decide +kernel
theorem dX4_copyFrom_61 : decode cX4_copyFrom 61 = .ok (.putfield 34, 3) := by decide +kernel
theorem dX4_copyFrom_64 : decode cX4_copyFrom 64 = .ok (.aload_n 1, 1) := by decide +kernel
theorem dX4_copyFrom_65 : decode cX4_copyFrom 65 = .ok (.getfield 37, 3) := by decide +kernel
theorem dX4_copyFrom_68 : decode cX4_copyFrom 68 = .ok (.iconst 0, 1) := by decide +kernel
theorem dX4_copyFrom_69 : decode cX4_copyFrom 69 = .ok (.aload_n 0, 1) := by decide +kernel
theorem dX4_copyFrom_70 : decode cX4_copyFrom 70 = .ok (.getfield 37, 3) := by decide +kernel
theorem dX4_copyFrom_73 : decode cX4_copyFrom 73 = .ok (.iconst 0, 1) := by decide +kernel
theorem dX4_copyFrom_74 : decode cX4_copyFrom 74 = .ok (.iconst 5, 1) := by decide +kernel
theorem dX4_copyFrom_75 : decode cX4_copyFrom 75 = .ok (.invokestatic 76, 3) := by decide +kernel
theorem dX4_copyFrom_78 : decode cX4_copyFrom 78 = .ok (.aload_n 1, 1) := by decide +kernel
theorem dX4_copyFrom_79 : decode cX4_copyFrom 79 = .ok (.getfield 41, 3) := by decide +kernel
theorem dX4_copyFrom_82 : decode cX4_copyFrom 82 = .ok (.iconst 0, 1) := by decide +kernel
theorem dX4_copyFrom_83 : decode cX4_copyFrom 83 = .ok (.aload_n 0, 1) := by decide +kernel
theorem dX4_copyFrom_84 : decode cX4_copyFrom 84 = .ok (.getfield 41, 3) := by decide +kernel
theorem dX4_copyFrom_87 : decode cX4_copyFrom 87 = .ok (.iconst 0, 1) := by decide +kernel
theorem dX4_copyFrom_88 : decode cX4_copyFrom 88 = .ok (.iconst 5, 1) := by decide +kernel
theorem dX4_copyFrom_89 : decode cX4_copyFrom 89 = .ok (.invokestatic 76, 3) := by decide +kernel
theorem dX4_copyFrom_92 : decode cX4_copyFrom 92 = .ok (.aload_n 1, 1) := by decide +kernel
theorem dX4_copyFrom_93 : decode cX4_copyFrom 93 = .ok (.getfield 44, 3) := by decide +kernel
theorem dX4_copyFrom_96 : decode cX4_copyFrom 96 = .ok (.iconst 0, 1) := by decide +kernel
theorem dX4_copyFrom_97 : decode cX4_copyFrom 97 = .ok (.aload_n 0, 1) := by decide +kernel
theorem dX4_copyFrom_98 : decode cX4_copyFrom 98 = .ok (.getfield 44, 3) := by decide +kernel
theorem dX4_copyFrom_101 : decode cX4_copyFrom 101 = .ok (.iconst 0, 1) := by decide +kernel
theorem dX4_copyFrom_102 : decode cX4_copyFrom 102 = .ok (.iconst 5, 1) := by decide +kernel
theorem dX4_copyFrom_103 : decode cX4_copyFrom 103 = .ok (.invokestatic 76, 3) := by decide +kernel
theorem dX4_copyFrom_106 : decode cX4_copyFrom 106 = .ok (.aload_n 1, 1) := by decide +kernel
theorem dX4_copyFrom_107 : decode cX4_copyFrom 107 = .ok (.getfield 47, 3) := by decide +kernel
theorem dX4_copyFrom_110 : decode cX4_copyFrom 110 = .ok (.iconst 0, 1) := by decide +kernel
theorem dX4_copyFrom_111 : decode cX4_copyFrom 111 = .ok (.aload_n 0, 1) := by decide +kernel
theorem dX4_copyFrom_112 : decode cX4_copyFrom 112 = .ok (.getfield 47, 3) := by decide +kernel
theorem dX4_copyFrom_115 : decode cX4_copyFrom 115 = .ok (.iconst 0, 1) := by decide +kernel
theorem dX4_copyFrom_116 : decode cX4_copyFrom 116 = .ok (.iconst 5, 1) := by decide +kernel
theorem dX4_copyFrom_117 : decode cX4_copyFrom 117 = .ok (.invokestatic 76, 3) := by decide +kernel
theorem dX4_copyFrom_120 : decode cX4_copyFrom 120 = .ok (.aload_n 1, 1) := by decide +kernel
theorem dX4_copyFrom_121 : decode cX4_copyFrom 121 = .ok (.getfield 50, 3) := by decide +kernel
theorem dX4_copyFrom_124 : decode cX4_copyFrom 124 = .ok (.iconst 0, 1) := by decide +kernel
theorem dX4_copyFrom_125 : decode cX4_copyFrom 125 = .ok (.aload_n 0, 1) := by decide +kernel
theorem dX4_copyFrom_126 : decode cX4_copyFrom 126 = .ok (.getfield 50, 3) := by decide +kernel
theorem dX4_copyFrom_129 : decode cX4_copyFrom 129 = .ok (.iconst 0, 1) := by decide +kernel
theorem dX4_copyFrom_130 : decode cX4_copyFrom 130 = .ok (.iconst 5, 1) := by decide +kernel
theorem dX4_copyFrom_131 : decode cX4_copyFrom 131 = .ok (.invokestatic 76, 3) := by decide +kernel
theorem dX4_copyFrom_134 : decode cX4_copyFrom 134 = .ok (.aload_n 1, 1) := by decide +kernel
theorem dX4_copyFrom_135 : decode cX4_copyFrom 135 = .ok (.getfield 53, 3) := by decide +kernel
theorem dX4_copyFrom_138 : decode cX4_copyFrom 138 = .ok (.iconst 0, 1) := by decide +kernel
theorem dX4_copyFrom_139 : decode cX4_copyFrom 139 = .ok (.aload_n 0, 1) := by decide +kernel
theorem dX4_copyFrom_140 : decode cX4_copyFrom 140 = .ok (.getfield 53, 3) := by decide +kernel
theorem dX4_copyFrom_143 : decode cX4_copyFrom 143 = .ok (.iconst 0, 1) := by decide +kernel
theorem dX4_copyFrom_144 : decode cX4_copyFrom 144 = .ok (.iconst 5, 1) := by decide +kernel
theorem dX4_copyFrom_145 : decode cX4_copyFrom 145 = .ok (.invokestatic 76, 3) := by decide +kernel
theorem dX4_copyFrom_148 : decode cX4_copyFrom 148 = .ok (.aload_n 1, 1) := by decide +kernel
theorem dX4_copyFrom_149 : decode cX4_copyFrom 149 = .ok (.getfield 56, 3) := by decide +kernel
theorem dX4_copyFrom_152 : decode cX4_copyFrom 152 = .ok (.iconst 0, 1) := by decide +kernel
theorem dX4_copyFrom_153 : decode cX4_copyFrom 153 = .ok (.aload_n 0, 1) := by decide +kernel
theorem dX4_copyFrom_154 : decode cX4_copyFrom 154 = .ok (.getfield 56, 3) := by decide +kernel
theorem dX4_copyFrom_157 : decode cX4_copyFrom 157 = .ok (.iconst 0, 1) := by decide +kernel
theorem dX4_copyFrom_158 : decode cX4_copyFrom 158 = .ok (.iconst 5, 1) := by decide +kernel
theorem dX4_copyFrom_159 : decode cX4_copyFrom 159 = .ok (.invokestatic 76, 3) := by decide +kernel
theorem dX4_copyFrom_162 : decode cX4_copyFrom 162 = .ok (.aload_n 1, 1) := by decide +kernel
theorem dX4_copyFrom_163 : decode cX4_copyFrom 163 = .ok (.getfield 59, 3) := by decide +kernel
theorem dX4_copyFrom_166 : decode cX4_copyFrom 166 = .ok (.iconst 0, 1) := by decide +kernel
theorem dX4_copyFrom_167 : decode cX4_copyFrom 167 = .ok (.aload_n 0, 1) := by decide +kernel
theorem dX4_copyFrom_168 : decode cX4_copyFrom 168 = .ok (.getfield 59, 3) := by decide +kernel
theorem dX4_copyFrom_171 : decode cX4_copyFrom 171 = .ok (.iconst 0, 1) := by decide +kernel
theorem dX4_copyFrom_172 : decode cX4_copyFrom 172 = .ok (.iconst 5, 1) := by decide +kernel
theorem dX4_copyFrom_173 : decode cX4_copyFrom 173 = .ok (.invokestatic 76, 3) := by decide +kernel
theorem dX4_copyFrom_176 : decode cX4_copyFrom 176 = .ok (.aload_n 0, 1) := by decide +kernel
theorem dX4_copyFrom_177 : decode cX4_copyFrom 177 = .ok (.getfield 65, 3) := by decide +kernel
theorem dX4_copyFrom_180 : decode cX4_copyFrom 180 = .ok (.aload_n 1, 1) := by decide +kernel
theorem dX4_copyFrom_181 : decode cX4_copyFrom 181 = .ok (.getfield 65, 3) := by decide +kernel
theorem dX4_copyFrom_184 : decode cX4_copyFrom 184 = .ok (.invokevirtual 82, 3) := by decide +kernel
theorem dX4_copyFrom_187 : decode cX4_copyFrom 187 = .ok (.return_, 1) := by decide +kernel
theorem dX4_drop_0 : decode cX4_drop 0 = .ok (.aload_n 0, 1) := by decide +kernel
theorem dX4_drop_1 : decode cX4_drop 1 = .ok (.getfield 37, 3) := by decide +kernel
theorem dX4_drop_4 : decode cX4_drop 4 = .ok (.iload_n 1, 1) := by decide +kernel
theorem dX4_drop_5 : decode cX4_drop 5 = .ok (.iconst 0, 1) := by decide +kernel
theorem dX4_drop_6 : decode cX4_drop 6 = .ok (.iastore, 1) := by decide +kernel
theorem dX4_drop_7 : decode cX4_drop 7 = .ok (.aload_n 0, 1) := by decide +kernel
theorem dX4_drop_8 : decode cX4_drop 8 = .ok (.getfield 41, 3) := by decide +kernel
theorem dX4_drop_11 : decode cX4_drop 11 = .ok (.iload_n 1, 1) := by decide +kernel
theorem dX4_drop_12 : decode cX4_drop 12 = .ok (.iconst 0, 1) := by decide +kernel
theorem dX4_drop_13 : decode cX4_drop 13 = .ok (.iastore, 1) := by decide +kernel
theorem dX4_drop_14 : decode cX4_drop 14 = .ok (.aload_n 0, 1) := by decide +kernel
theorem dX4_drop_15 : decode cX4_drop 15 = .ok (.getfield 44, 3) := by decide +kernel
theorem dX4_drop_18 : decode cX4_drop 18 = .ok (.iload_n 1, 1) := by decide +kernel
theorem dX4_drop_19 : decode cX4_drop 19 = .ok (.iconst 0, 1) := by decide +kernel
theorem dX4_drop_20 : decode cX4_drop 20 = .ok (.iastore, 1) := by decide +kernel
theorem dX4_drop_21 : decode cX4_drop 21 = .ok (.aload_n 0, 1) := by decide +kernel
theorem dX4_drop_22 : decode cX4_drop 22 = .ok (.getfield 47, 3) := by decide +kernel
theorem dX4_drop_25 : decode cX4_drop 25 = .ok (.iload_n 1, 1) := by decide +kernel
theorem dX4_drop_26 : decode cX4_drop 26 = .ok (.iconst 0, 1) := by decide +kernel
theorem dX4_drop_27 : decode cX4_drop 27 = .ok (.iastore, 1) := by decide +kernel
theorem dX4_drop_28 : decode cX4_drop 28 = .ok (.aload_n 0, 1) := by decide +kernel
theorem dX4_drop_29 : decode cX4_drop 29 = .ok (.getfield 50, 3) := by decide +kernel
theorem dX4_drop_32 : decode cX4_drop 32 = .ok (.iload_n 1, 1) := by decide +kernel
theorem dX4_drop_33 : decode cX4_drop 33 = .ok (.iconst 0, 1) := by decide +kernel
theorem dX4_drop_34 : decode cX4_drop 34 = .ok (.iastore, 1) := by decide +kernel
theorem dX4_drop_35 : decode cX4_drop 35 = .ok (.aload_n 0, 1) := by decide +kernel
theorem dX4_drop_36 : decode cX4_drop 36 = .ok (.getfield 53, 3) := by decide +kernel
theorem dX4_drop_39 : decode cX4_drop 39 = .ok (.iload_n 1, 1) := by decide +kernel
theorem dX4_drop_40 : decode cX4_drop 40 = .ok (.iconst 0, 1) := by decide +kernel
theorem dX4_drop_41 : decode cX4_drop 41 = .ok (.iastore, 1) := by decide +kernel
theorem dX4_drop_42 : decode cX4_drop 42 = .ok (.aload_n 0, 1) := by decide +kernel
theorem dX4_drop_43 : decode cX4_drop 43 = .ok (.getfield 56, 3) := by decide +kernel
theorem dX4_drop_46 : decode cX4_drop 46 = .ok (.iload_n 1, 1) := by decide +kernel
theorem dX4_drop_47 : decode cX4_drop 47 = .ok (.bipush (-2), 2) := by decide +kernel
theorem dX4_drop_49 : decode cX4_drop 49 = .ok (.iastore, 1) := by decide +kernel
theorem dX4_drop_50 : decode cX4_drop 50 = .ok (.aload_n 0, 1) := by decide +kernel
theorem dX4_drop_51 : decode cX4_drop 51 = .ok (.getfield 59, 3) := by decide +kernel
theorem dX4_drop_54 : decode cX4_drop 54 = .ok (.iload_n 1, 1) := by decide +kernel
theorem dX4_drop_55 : decode cX4_drop 55 = .ok (.bipush (-2), 2) := by decide +kernel
theorem dX4_drop_57 : decode cX4_drop 57 = .ok (.iastore, 1) := by decide +kernel
theorem dX4_drop_58 : decode cX4_drop 58 = .ok (.return_, 1) := by decide +kernel
theorem dX4_nothingUnderWay_0 : decode cX4_nothingUnderWay 0 = .ok (.iconst 0, 1) := by decide +kernel
theorem dX4_nothingUnderWay_1 : decode cX4_nothingUnderWay 1 = .ok (.istore_n 2, 1) := by decide +kernel
theorem dX4_nothingUnderWay_2 : decode cX4_nothingUnderWay 2 = .ok (.iload_n 2, 1) := by decide +kernel
theorem dX4_nothingUnderWay_3 : decode cX4_nothingUnderWay 3 = .ok (.aload_n 1, 1) := by decide +kernel
theorem dX4_nothingUnderWay_4 : decode cX4_nothingUnderWay 4 = .ok (.getfield 86, 3) := by decide +kernel
theorem dX4_nothingUnderWay_7 : decode cX4_nothingUnderWay 7 = .ok (.if_icmp .ge 20, 3) := by decide +kernel
theorem dX4_nothingUnderWay_10 : decode cX4_nothingUnderWay 10 = .ok (.aload_n 0, 1) := by decide +kernel
theorem dX4_nothingUnderWay_11 : decode cX4_nothingUnderWay 11 = .ok (.getfield 37, 3) := by decide +kernel
theorem dX4_nothingUnderWay_14 : decode cX4_nothingUnderWay 14 = .ok (.iload_n 2, 1) := by decide +kernel
theorem dX4_nothingUnderWay_15 : decode cX4_nothingUnderWay 15 = .ok (.iaload, 1) := by decide +kernel
theorem dX4_nothingUnderWay_16 : decode cX4_nothingUnderWay 16 = .ok (.ifCond .eq 5, 3) := by decide +kernel
theorem dX4_nothingUnderWay_19 : decode cX4_nothingUnderWay 19 = .ok (.iconst 0, 1) := by decide +kernel
theorem dX4_nothingUnderWay_20 : decode cX4_nothingUnderWay 20 = .ok (.ireturn, 1) := by decide +kernel
theorem dX4_nothingUnderWay_21 : decode cX4_nothingUnderWay 21 = .ok (.iinc 2 1, 3) := by decide +kernel
theorem dX4_nothingUnderWay_24 : decode cX4_nothingUnderWay 24 = .ok (.goto (-22), 3) := by decide +kernel
theorem dX4_nothingUnderWay_27 : decode cX4_nothingUnderWay 27 = .ok (.iconst 1, 1) := by decide +kernel
theorem dX4_nothingUnderWay_28 : decode cX4_nothingUnderWay 28 = .ok (.ireturn, 1) := by decide +kernel
theorem dX4_isOver_0 : decode cX4_isOver 0 = .ok (.aload_n 0, 1) := by decide +kernel
theorem dX4_isOver_1 : decode cX4_isOver 1 = .ok (.getfield 9, 3) := by decide +kernel
theorem dX4_isOver_4 : decode cX4_isOver 4 = .ok (.ifCond .eq 11, 3) := by decide +kernel
theorem dX4_isOver_7 : decode cX4_isOver 7 = .ok (.aload_n 0, 1) := by decide +kernel
theorem dX4_isOver_8 : decode cX4_isOver 8 = .ok (.aload_n 1, 1) := by decide +kernel
theorem dX4_isOver_9 : decode cX4_isOver 9 = .ok (.invokevirtual 91, 3) := by decide +kernel
theorem dX4_isOver_12 : decode cX4_isOver 12 = .ok (.ifCond .ne 5, 3) := by decide +kernel
theorem dX4_isOver_15 : decode cX4_isOver 15 = .ok (.iconst 0, 1) := by decide +kernel
theorem dX4_isOver_16 : decode cX4_isOver 16 = .ok (.ireturn, 1) := by decide +kernel
theorem dX4_isOver_17 : decode cX4_isOver 17 = .ok (.aload_n 0, 1) := by decide +kernel
theorem dX4_isOver_18 : decode cX4_isOver 18 = .ok (.getfield 19, 3) := by decide +kernel
theorem dX4_isOver_21 : decode cX4_isOver 21 = .ok (.ifCond .eq 25, 3) := by decide +kernel
theorem dX4_isOver_24 : decode cX4_isOver 24 = .ok (.aload_n 0, 1) := by decide +kernel
theorem dX4_isOver_25 : decode cX4_isOver 25 = .ok (.getfield 34, 3) := by decide +kernel
theorem dX4_isOver_28 : decode cX4_isOver 28 = .ok (.aload_n 1, 1) := by decide +kernel
theorem dX4_isOver_29 : decode cX4_isOver 29 = .ok (.getfield 95, 3) := by decide +kernel
theorem dX4_isOver_32 : decode cX4_isOver 32 = .ok (.if_icmp .ne 18, 3) := by decide +kernel
theorem dX4_isOver_35 : decode cX4_isOver 35 = .ok (.aload_n 1, 1) := by decide +kernel
theorem dX4_isOver_36 : decode cX4_isOver 36 = .ok (.aload_n 0, 1) := by decide +kernel
theorem dX4_isOver_37 : decode cX4_isOver 37 = .ok (.getfield 19, 3) := by decide +kernel
theorem dX4_isOver_40 : decode cX4_isOver 40 = .ok (.invokevirtual 98, 3) := by decide +kernel
theorem dX4_isOver_43 : decode cX4_isOver 43 = .ok (.ifCond .ne 7, 3) := by decide +kernel
theorem dX4_isOver_46 : decode cX4_isOver 46 = .ok (.iconst 1, 1) := by decide +kernel
theorem dX4_isOver_47 : decode cX4_isOver 47 = .ok (.goto 4, 3) := by decide +kernel
theorem dX4_isOver_50 : decode cX4_isOver 50 = .ok (.iconst 0, 1) := by decide +kernel
theorem dX4_isOver_51 : decode cX4_isOver 51 = .ok (.ireturn, 1) := by decide +kernel
theorem dX4_startRound_0 : decode cX4_startRound 0 = .ok (.aload_n 0, 1) := by decide +kernel
theorem dX4_startRound_1 : decode cX4_startRound 1 = .ok (.aload_n 1, 1) := by decide +kernel
theorem dX4_startRound_2 : decode cX4_startRound 2 = .ok (.invokevirtual 91, 3) := by decide +kernel
theorem dX4_startRound_5 : decode cX4_startRound 5 = .ok (.ifCond .eq 21, 3) := by decide +kernel
theorem dX4_startRound_8 : decode cX4_startRound 8 = .ok (.aload_n 0, 1) := by decide +kernel
theorem dX4_startRound_9 : decode cX4_startRound 9 = .ok (.getfield 19, 3) := by decide +kernel
theorem dX4_startRound_12 : decode cX4_startRound 12 = .ok (.ifCond .eq 14, 3) := by decide +kernel
theorem dX4_startRound_15 : decode cX4_startRound 15 = .ok (.aload_n 1, 1) := by decide +kernel
theorem dX4_startRound_16 : decode cX4_startRound 16 = .ok (.aload_n 0, 1) := by decide +kernel
theorem dX4_startRound_17 : decode cX4_startRound 17 = .ok (.getfield 19, 3) := by decide +kernel
theorem dX4_startRound_20 : decode cX4_startRound 20 = .ok (.invokevirtual 98, 3) := by decide +kernel
theorem dX4_startRound_23 : decode cX4_startRound 23 = .ok (.ifCond .ne 5, 3) := by decide +kernel
theorem dX4_startRound_26 : decode cX4_startRound 26 = .ok (.iconst 0, 1) := by decide +kernel
theorem dX4_startRound_27 : decode cX4_startRound 27 = .ok (.ireturn, 1) := by decide +kernel
theorem dX4_startRound_28 : decode cX4_startRound 28 = .ok (.aload_n 0, 1) := by decide +kernel
theorem dX4_startRound_29 : decode cX4_startRound 29 = .ok (.getfield 31, 3) := by decide +kernel
theorem dX4_startRound_32 : decode cX4_startRound 32 = .ok (.ifCond .ne 21, 3) := by decide +kernel
theorem dX4_startRound_35 : decode cX4_startRound 35 = .ok (.aload_n 1, 1) := by decide +kernel
theorem dX4_startRound_36 : decode cX4_startRound 36 = .ok (.invokevirtual 102, 3) := by decide +kernel
theorem dX4_startRound_39 : decode cX4_startRound 39 = .ok (.ifCond .le 14, 3) := by decide +kernel
theorem dX4_startRound_42 : decode cX4_startRound 42 = .ok (.aload_n 1, 1) := by decide +kernel
theorem dX4_startRound_43 : decode cX4_startRound 43 = .ok (.invokevirtual 106, 3) := by decide +kernel
theorem dX4_startRound_46 : decode cX4_startRound 46 = .ok (.ifCond .eq 7, 3) := by decide +kernel
theorem dX4_startRound_49 : decode cX4_startRound 49 = .ok (.iconst 1, 1) := by decide +kernel
theorem dX4_startRound_50 : decode cX4_startRound 50 = .ok (.goto 4, 3) := by decide +kernel
theorem dX4_startRound_53 : decode cX4_startRound 53 = .ok (.iconst 0, 1) := by decide +kernel
theorem dX4_startRound_54 : decode cX4_startRound 54 = .ok (.istore_n 3, 1) := by decide +kernel
theorem dX4_startRound_55 : decode cX4_startRound 55 = .ok (.iload_n 3, 1) := by decide +kernel
theorem dX4_startRound_56 : decode cX4_startRound 56 = .ok (.ifCond .ne 13, 3) := by decide +kernel
theorem dX4_startRound_59 : decode cX4_startRound 59 = .ok (.aload_n 2, 1) := by decide +kernel
theorem dX4_startRound_60 : decode cX4_startRound 60 = .ok (.aload_n 1, 1) := by decide +kernel
theorem dX4_startRound_61 : decode cX4_startRound 61 = .ok (.aload_n 0, 1) := by decide +kernel
theorem dX4_startRound_62 : decode cX4_startRound 62 = .ok (.getfield 19, 3) := by decide +kernel
theorem dX4_startRound_65 : decode cX4_startRound 65 = .ok (.iconst (-1), 1) := by decide +kernel
theorem dX4_startRound_66 : decode cX4_startRound 66 = .ok (.invokevirtual 110, 3) := by decide +kernel
theorem dX4_startRound_69 : decode cX4_startRound 69 = .ok (.aload_n 0, 1) := by decide +kernel
theorem dX4_startRound_70 : decode cX4_startRound 70 = .ok (.dup, 1) := by decide +kernel
theorem dX4_startRound_71 : decode cX4_startRound 71 = .ok (.getfield 31, 3) := by decide +kernel
theorem dX4_startRound_74 : decode cX4_startRound 74 = .ok (.iconst 1, 1) := by decide +kernel
theorem dX4_startRound_75 : decode cX4_startRound 75 = .ok (.iadd, 1) := by decide +kernel
theorem dX4_startRound_76 : decode cX4_startRound 76 = .ok (.putfield 31, 3) := by decide +kernel
theorem dX4_startRound_79 : decode cX4_startRound 79 = .ok (.iconst 0, 1) := by decide +kernel
theorem dX4_startRound_80 : decode cX4_startRound 80 = .ok (.istore 4, 2) := by decide +kernel
theorem dX4_startRound_82 : decode cX4_startRound 82 = .ok (.iconst 0, 1) := by decide +kernel
theorem dX4_startRound_83 : decode cX4_startRound 83 = .ok (.istore 5, 2) := by decide +kernel
theorem dX4_startRound_85 : decode cX4_startRound 85 = .ok (.iload 5, 2) := by decide +kernel
theorem dX4_startRound_87 : decode cX4_startRound 87 = .ok (.aload_n 1, 1) := by decide +kernel
theorem dX4_startRound_88 : decode cX4_startRound 88 = .ok (.getfield 86, 3) := by decide +kernel
theorem dX4_startRound_91 : decode cX4_startRound 91 = .ok (.if_icmp .ge 49, 3) := by decide +kernel
theorem dX4_startRound_94 : decode cX4_startRound 94 = .ok (.iload_n 3, 1) := by decide +kernel
theorem dX4_startRound_95 : decode cX4_startRound 95 = .ok (.ifCond .eq 13, 3) := by decide +kernel
theorem dX4_startRound_98 : decode cX4_startRound 98 = .ok (.aload_n 1, 1) := by decide +kernel
theorem dX4_startRound_99 : decode cX4_startRound 99 = .ok (.getfield 116, 3) := by decide +kernel
theorem dX4_startRound_102 : decode cX4_startRound 102 = .ok (.iload 5, 2) := by decide +kernel
theorem dX4_startRound_104 : decode cX4_startRound 104 = .ok (.iaload, 1) := by decide +kernel
theorem dX4_startRound_105 : decode cX4_startRound 105 = .ok (.goto 10, 3) := by decide +kernel
theorem dX4_startRound_108 : decode cX4_startRound 108 = .ok (.aload_n 2, 1) := by decide +kernel
theorem dX4_startRound_109 : decode cX4_startRound 109 = .ok (.getfield 119, 3) := by decide +kernel
theorem dX4_startRound_112 : decode cX4_startRound 112 = .ok (.iload 5, 2) := by decide +kernel
theorem dX4_startRound_114 : decode cX4_startRound 114 = .ok (.iaload, 1) := by decide +kernel
theorem dX4_startRound_115 : decode cX4_startRound 115 = .ok (.istore 6, 2) := by decide +kernel
theorem dX4_startRound_117 : decode cX4_startRound 117 = .ok (.iload 6, 2) := by decide +kernel
theorem dX4_startRound_119 : decode cX4_startRound 119 = .ok (.ifCond .le 15, 3) := by decide +kernel
theorem dX4_startRound_122 : decode cX4_startRound 122 = .ok (.aload_n 0, 1) := by decide +kernel
theorem dX4_startRound_123 : decode cX4_startRound 123 = .ok (.aload_n 1, 1) := by decide +kernel
theorem dX4_startRound_124 : decode cX4_startRound 124 = .ok (.iload 5, 2) := by decide +kernel
theorem dX4_startRound_126 : decode cX4_startRound 126 = .ok (.iload 6, 2) := by decide +kernel
theorem dX4_startRound_128 : decode cX4_startRound 128 = .ok (.invokevirtual 122, 3) := by decide +kernel
theorem dX4_startRound_131 : decode cX4_startRound 131 = .ok (.iinc 4 1, 3) := by decide +kernel
theorem dX4_startRound_134 : decode cX4_startRound 134 = .ok (.iinc 5 1, 3) := by decide +kernel
theorem dX4_startRound_137 : decode cX4_startRound 137 = .ok (.goto (-52), 3) := by decide +kernel
theorem dX4_startRound_140 : decode cX4_startRound 140 = .ok (.iload 4, 2) := by decide +kernel
theorem dX4_startRound_142 : decode cX4_startRound 142 = .ok (.ireturn, 1) := by decide +kernel
theorem dX4_send_0 : decode cX4_send 0 = .ok (.aload_n 0, 1) := by decide +kernel
theorem dX4_send_1 : decode cX4_send 1 = .ok (.iload_n 2, 1) := by decide +kernel
theorem dX4_send_2 : decode cX4_send 2 = .ok (.invokevirtual 69, 3) := by decide +kernel
theorem dX4_send_5 : decode cX4_send 5 = .ok (.aload_n 0, 1) := by decide +kernel
theorem dX4_send_6 : decode cX4_send 6 = .ok (.getfield 37, 3) := by decide +kernel
theorem dX4_send_9 : decode cX4_send 9 = .ok (.iload_n 2, 1) := by decide +kernel
theorem dX4_send_10 : decode cX4_send 10 = .ok (.iconst 1, 1) := by decide +kernel
theorem dX4_send_11 : decode cX4_send 11 = .ok (.iastore, 1) := by decide +kernel
theorem dX4_send_12 : decode cX4_send 12 = .ok (.aload_n 0, 1) := by decide +kernel
theorem dX4_send_13 : decode cX4_send 13 = .ok (.getfield 41, 3) := by decide +kernel
theorem dX4_send_16 : decode cX4_send 16 = .ok (.iload_n 2, 1) := by decide +kernel
theorem dX4_send_17 : decode cX4_send 17 = .ok (.iload_n 3, 1) := by decide +kernel
theorem dX4_send_18 : decode cX4_send 18 = .ok (.iastore, 1) := by decide +kernel
theorem dX4_send_19 : decode cX4_send 19 = .ok (.aload_n 0, 1) := by decide +kernel
theorem dX4_send_20 : decode cX4_send 20 = .ok (.getfield 50, 3) := by decide +kernel
theorem dX4_send_23 : decode cX4_send 23 = .ok (.iload_n 2, 1) := by decide +kernel
theorem dX4_send_24 : decode cX4_send 24 = .ok (.aload_n 1, 1) := by decide +kernel
theorem dX4_send_25 : decode cX4_send 25 = .ok (.iload_n 2, 1) := by decide +kernel
theorem dX4_send_26 : decode cX4_send 26 = .ok (.iload_n 3, 1) := by decide +kernel
theorem dX4_send_27 : decode cX4_send 27 = .ok (.invokevirtual 125, 3) := by decide +kernel
theorem dX4_send_30 : decode cX4_send 30 = .ok (.iastore, 1) := by decide +kernel
theorem dX4_send_31 : decode cX4_send 31 = .ok (.aload_n 0, 1) := by decide +kernel
theorem dX4_send_32 : decode cX4_send 32 = .ok (.getfield 53, 3) := by decide +kernel
theorem dX4_send_35 : decode cX4_send 35 = .ok (.iload_n 2, 1) := by decide +kernel
theorem dX4_send_36 : decode cX4_send 36 = .ok (.aload_n 1, 1) := by decide +kernel
theorem dX4_send_37 : decode cX4_send 37 = .ok (.iload_n 2, 1) := by decide +kernel
theorem dX4_send_38 : decode cX4_send 38 = .ok (.iload_n 3, 1) := by decide +kernel
theorem dX4_send_39 : decode cX4_send 39 = .ok (.invokevirtual 129, 3) := by decide +kernel
theorem dX4_send_42 : decode cX4_send 42 = .ok (.iastore, 1) := by decide +kernel
theorem dX4_send_43 : decode cX4_send 43 = .ok (.aload_n 0, 1) := by decide +kernel
theorem dX4_send_44 : decode cX4_send 44 = .ok (.getfield 56, 3) := by decide +kernel
theorem dX4_send_47 : decode cX4_send 47 = .ok (.iload_n 2, 1) := by decide +kernel
theorem dX4_send_48 : decode cX4_send 48 = .ok (.aload_n 0, 1) := by decide +kernel
theorem dX4_send_49 : decode cX4_send 49 = .ok (.getfield 15, 3) := by decide +kernel
theorem dX4_send_52 : decode cX4_send 52 = .ok (.aload_n 1, 1) := by decide +kernel
theorem dX4_send_53 : decode cX4_send 53 = .ok (.getfield 132, 3) := by decide +kernel
theorem dX4_send_56 : decode cX4_send 56 = .ok (.iload_n 2, 1) := by decide +kernel
theorem dX4_send_57 : decode cX4_send 57 = .ok (.iaload, 1) := by decide +kernel
theorem dX4_send_58 : decode cX4_send 58 = .ok (.iadd, 1) := by decide +kernel
theorem dX4_send_59 : decode cX4_send 59 = .ok (.iastore, 1) := by decide +kernel
theorem dX4_send_60 : decode cX4_send 60 = .ok (.return_, 1) := by decide +kernel
theorem dX4_tick_0 : decode cX4_tick 0 = .ok (.aload_n 0, 1) := by decide +kernel
theorem dX4_tick_1 : decode cX4_tick 1 = .ok (.dup, 1) := by decide +kernel
theorem dX4_tick_2 : decode cX4_tick 2 = .ok (.getfield 15, 3) := by decide +kernel
theorem dX4_tick_5 : decode cX4_tick 5 = .ok (.iconst 1, 1) := by decide +kernel
theorem dX4_tick_6 : decode cX4_tick 6 = .ok (.iadd, 1) := by decide +kernel
theorem dX4_tick_7 : decode cX4_tick 7 = .ok (.putfield 15, 3) := by decide +kernel
theorem dX4_tick_10 : decode cX4_tick 10 = .ok (.aload_n 0, 1) := by decide +kernel
theorem dX4_tick_11 : decode cX4_tick 11 = .ok (.getfield 34, 3) := by decide +kernel
theorem dX4_tick_14 : decode cX4_tick 14 = .ok (.aload_n 1, 1) := by decide +kernel
theorem dX4_tick_15 : decode cX4_tick 15 = .ok (.getfield 95, 3) := by decide +kernel
theorem dX4_tick_18 : decode cX4_tick 18 = .ok (.if_icmp .ge 55, 3) := by decide +kernel
theorem dX4_tick_21 : decode cX4_tick 21 = .ok (.aload_n 1, 1) := by decide +kernel
theorem dX4_tick_22 : decode cX4_tick 22 = .ok (.getfield 135, 3) := by decide +kernel
theorem dX4_tick_25 : decode cX4_tick 25 = .ok (.aload_n 0, 1) := by decide +kernel
theorem dX4_tick_26 : decode cX4_tick 26 = .ok (.getfield 34, 3) := by decide +kernel
theorem dX4_tick_29 : decode cX4_tick 29 = .ok (.iaload, 1) := by decide +kernel
theorem dX4_tick_30 : decode cX4_tick 30 = .ok (.aload_n 0, 1) := by decide +kernel
theorem dX4_tick_31 : decode cX4_tick 31 = .ok (.getfield 15, 3) := by decide +kernel
theorem dX4_tick_34 : decode cX4_tick 34 = .ok (.if_icmp .gt 39, 3) := by decide +kernel
theorem dX4_tick_37 : decode cX4_tick 37 = .ok (.aload_n 1, 1) := by decide +kernel
theorem dX4_tick_38 : decode cX4_tick 38 = .ok (.getfield 138, 3) := by decide +kernel
theorem dX4_tick_41 : decode cX4_tick 41 = .ok (.aload_n 1, 1) := by decide +kernel
theorem dX4_tick_42 : decode cX4_tick 42 = .ok (.getfield 141, 3) := by decide +kernel
theorem dX4_tick_45 : decode cX4_tick 45 = .ok (.aload_n 0, 1) := by decide +kernel
theorem dX4_tick_46 : decode cX4_tick 46 = .ok (.getfield 34, 3) := by decide +kernel
theorem dX4_tick_49 : decode cX4_tick 49 = .ok (.iaload, 1) := by decide +kernel
theorem dX4_tick_50 : decode cX4_tick 50 = .ok (.aload_n 1, 1) := by decide +kernel
theorem dX4_tick_51 : decode cX4_tick 51 = .ok (.getfield 144, 3) := by decide +kernel
theorem dX4_tick_54 : decode cX4_tick 54 = .ok (.aload_n 0, 1) := by decide +kernel
theorem dX4_tick_55 : decode cX4_tick 55 = .ok (.getfield 34, 3) := by decide +kernel
theorem dX4_tick_58 : decode cX4_tick 58 = .ok (.iaload, 1) := by decide +kernel
theorem dX4_tick_59 : decode cX4_tick 59 = .ok (.iastore, 1) := by decide +kernel
theorem dX4_tick_60 : decode cX4_tick 60 = .ok (.aload_n 0, 1) := by decide +kernel
theorem dX4_tick_61 : decode cX4_tick 61 = .ok (.dup, 1) := by decide +kernel
theorem dX4_tick_62 : decode cX4_tick 62 = .ok (.getfield 34, 3) := by decide +kernel
theorem dX4_tick_65 : decode cX4_tick 65 = .ok (.iconst 1, 1) := by decide +kernel
theorem dX4_tick_66 : decode cX4_tick 66 = .ok (.iadd, 1) := by decide +kernel
theorem dX4_tick_67 : decode cX4_tick 67 = .ok (.putfield 34, 3) := by decide +kernel
theorem dX4_tick_70 : decode cX4_tick 70 = .ok (.goto (-60), 3) := by decide +kernel
theorem dX4_tick_73 : decode cX4_tick 73 = .ok (.iconst 0, 1) := by decide +kernel
theorem dX4_tick_74 : decode cX4_tick 74 = .ok (.istore_n 3, 1) := by decide +kernel
theorem dX4_tick_75 : decode cX4_tick 75 = .ok (.iload_n 3, 1) := by decide +kernel
theorem dX4_tick_76 : decode cX4_tick 76 = .ok (.aload_n 1, 1) := by decide +kernel
theorem dX4_tick_77 : decode cX4_tick 77 = .ok (.getfield 86, 3) := by decide +kernel
theorem dX4_tick_80 : decode cX4_tick 80 = .ok (.if_icmp .ge 15, 3) := by decide +kernel
theorem dX4_tick_83 : decode cX4_tick 83 = .ok (.aload_n 0, 1) := by decide +kernel
theorem dX4_tick_84 : decode cX4_tick 84 = .ok (.aload_n 1, 1) := by decide +kernel
theorem dX4_tick_85 : decode cX4_tick 85 = .ok (.iload_n 3, 1) := by decide +kernel
theorem dX4_tick_86 : decode cX4_tick 86 = .ok (.invokevirtual 147, 3) := by decide +kernel
theorem dX4_tick_89 : decode cX4_tick 89 = .ok (.iinc 3 1, 3) := by decide +kernel
theorem dX4_tick_92 : decode cX4_tick 92 = .ok (.goto (-17), 3) := by decide +kernel
theorem dX4_tick_95 : decode cX4_tick 95 = .ok (.aload_n 0, 1) := by decide +kernel
theorem dX4_tick_96 : decode cX4_tick 96 = .ok (.aload_n 1, 1) := by decide +kernel
theorem dX4_tick_97 : decode cX4_tick 97 = .ok (.aload_n 2, 1) := by decide +kernel
theorem dX4_tick_98 : decode cX4_tick 98 = .ok (.invokevirtual 151, 3) := by decide +kernel
theorem dX4_tick_101 : decode cX4_tick 101 = .ok (.pop, 1) := by decide +kernel
theorem dX4_tick_102 : decode cX4_tick 102 = .ok (.return_, 1) := by decide +kernel
theorem dX4_visit_0 : decode cX4_visit 0 = .ok (.aload_n 0, 1) := by decide +kernel
theorem dX4_visit_1 : decode cX4_visit 1 = .ok (.getfield 37, 3) := by decide +kernel
theorem dX4_visit_4 : decode cX4_visit 4 = .ok (.iload_n 2, 1) := by decide +kernel
theorem dX4_visit_5 : decode cX4_visit 5 = .ok (.iaload, 1) := by decide +kernel
theorem dX4_visit_6 : decode cX4_visit 6 = .ok (.iconst 1, 1) := by decide +kernel
theorem dX4_visit_7 : decode cX4_visit 7 = .ok (.if_icmp .ne 38, 3) := by decide +kernel
theorem dX4_visit_10 : decode cX4_visit 10 = .ok (.aload_n 0, 1) := by decide +kernel
theorem dX4_visit_11 : decode cX4_visit 11 = .ok (.getfield 56, 3) := by decide +kernel
theorem dX4_visit_14 : decode cX4_visit 14 = .ok (.iload_n 2, 1) := by decide +kernel
theorem dX4_visit_15 : decode cX4_visit 15 = .ok (.iaload, 1) := by decide +kernel
theorem dX4_visit_16 : decode cX4_visit 16 = .ok (.aload_n 0, 1) := by decide +kernel
theorem dX4_visit_17 : decode cX4_visit 17 = .ok (.getfield 15, 3) := by decide +kernel
theorem dX4_visit_20 : decode cX4_visit 20 = .ok (.if_icmp .gt 25, 3) := by decide +kernel
theorem dX4_visit_23 : decode cX4_visit 23 = .ok (.aload_n 0, 1) := by decide +kernel
theorem dX4_visit_24 : decode cX4_visit 24 = .ok (.getfield 37, 3) := by decide +kernel
theorem dX4_visit_27 : decode cX4_visit 27 = .ok (.iload_n 2, 1) := by decide +kernel
theorem dX4_visit_28 : decode cX4_visit 28 = .ok (.iconst 2, 1) := by decide +kernel
theorem dX4_visit_29 : decode cX4_visit 29 = .ok (.iastore, 1) := by decide +kernel
theorem dX4_visit_30 : decode cX4_visit 30 = .ok (.aload_n 0, 1) := by decide +kernel
theorem dX4_visit_31 : decode cX4_visit 31 = .ok (.getfield 56, 3) := by decide +kernel
theorem dX4_visit_34 : decode cX4_visit 34 = .ok (.iload_n 2, 1) := by decide +kernel
theorem dX4_visit_35 : decode cX4_visit 35 = .ok (.aload_n 0, 1) := by decide +kernel
theorem dX4_visit_36 : decode cX4_visit 36 = .ok (.getfield 15, 3) := by decide +kernel
theorem dX4_visit_39 : decode cX4_visit 39 = .ok (.aload_n 1, 1) := by decide +kernel
theorem dX4_visit_40 : decode cX4_visit 40 = .ok (.getfield 155, 3) := by decide +kernel
theorem dX4_visit_43 : decode cX4_visit 43 = .ok (.iadd, 1) := by decide +kernel
theorem dX4_visit_44 : decode cX4_visit 44 = .ok (.iastore, 1) := by decide +kernel
theorem dX4_visit_45 : decode cX4_visit 45 = .ok (.aload_n 0, 1) := by decide +kernel
theorem dX4_visit_46 : decode cX4_visit 46 = .ok (.getfield 37, 3) := by decide +kernel
theorem dX4_visit_49 : decode cX4_visit 49 = .ok (.iload_n 2, 1) := by decide +kernel
theorem dX4_visit_50 : decode cX4_visit 50 = .ok (.iaload, 1) := by decide +kernel
theorem dX4_visit_51 : decode cX4_visit 51 = .ok (.iconst 2, 1) := by decide +kernel
theorem dX4_visit_52 : decode cX4_visit 52 = .ok (.if_icmp .ne 59, 3) := by decide +kernel
theorem dX4_visit_55 : decode cX4_visit 55 = .ok (.aload_n 0, 1) := by decide +kernel
theorem dX4_visit_56 : decode cX4_visit 56 = .ok (.aload_n 1, 1) := by decide +kernel
theorem dX4_visit_57 : decode cX4_visit 57 = .ok (.iload_n 2, 1) := by decide +kernel
theorem dX4_visit_58 : decode cX4_visit 58 = .ok (.invokevirtual 158, 3) := by decide +kernel
theorem dX4_visit_61 : decode cX4_visit 61 = .ok (.aload_n 0, 1) := by decide +kernel
theorem dX4_visit_62 : decode cX4_visit 62 = .ok (.getfield 44, 3) := by decide +kernel
theorem dX4_visit_65 : decode cX4_visit 65 = .ok (.iload_n 2, 1) := by decide +kernel
theorem dX4_visit_66 : decode cX4_visit 66 = .ok (.iaload, 1) := by decide +kernel
theorem dX4_visit_67 : decode cX4_visit 67 = .ok (.aload_n 0, 1) := by decide +kernel
theorem dX4_visit_68 : decode cX4_visit 68 = .ok (.getfield 41, 3) := by decide +kernel
theorem dX4_visit_71 : decode cX4_visit 71 = .ok (.iload_n 2, 1) := by decide +kernel
theorem dX4_visit_72 : decode cX4_visit 72 = .ok (.iaload, 1) := by decide +kernel
theorem dX4_visit_73 : decode cX4_visit 73 = .ok (.if_icmp .eq 29, 3) := by decide +kernel
theorem dX4_visit_76 : decode cX4_visit 76 = .ok (.aload_n 0, 1) := by decide +kernel
theorem dX4_visit_77 : decode cX4_visit 77 = .ok (.getfield 59, 3) := by decide +kernel
theorem dX4_visit_80 : decode cX4_visit 80 = .ok (.iload_n 2, 1) := by decide +kernel
theorem dX4_visit_81 : decode cX4_visit 81 = .ok (.iaload, 1) := by decide +kernel
theorem dX4_visit_82 : decode cX4_visit 82 = .ok (.aload_n 0, 1) := by decide +kernel
theorem dX4_visit_83 : decode cX4_visit 83 = .ok (.getfield 15, 3) := by decide +kernel
theorem dX4_visit_86 : decode cX4_visit 86 = .ok (.if_icmp .eq 16, 3) := by decide +kernel
theorem dX4_visit_89 : decode cX4_visit 89 = .ok (.aload_n 0, 1) := by decide +kernel
theorem dX4_visit_90 : decode cX4_visit 90 = .ok (.getfield 56, 3) := by decide +kernel
theorem dX4_visit_93 : decode cX4_visit 93 = .ok (.iload_n 2, 1) := by decide +kernel
theorem dX4_visit_94 : decode cX4_visit 94 = .ok (.iaload, 1) := by decide +kernel
theorem dX4_visit_95 : decode cX4_visit 95 = .ok (.aload_n 0, 1) := by decide +kernel
theorem dX4_visit_96 : decode cX4_visit 96 = .ok (.getfield 15, 3) := by decide +kernel
theorem dX4_visit_99 : decode cX4_visit 99 = .ok (.if_icmp .gt 55, 3) := by decide +kernel
theorem dX4_visit_102 : decode cX4_visit 102 = .ok (.aload_n 0, 1) := by decide +kernel
theorem dX4_visit_103 : decode cX4_visit 103 = .ok (.aload_n 1, 1) := by decide +kernel
theorem dX4_visit_104 : decode cX4_visit 104 = .ok (.iload_n 2, 1) := by decide +kernel
theorem dX4_visit_105 : decode cX4_visit 105 = .ok (.invokevirtual 161, 3) := by decide +kernel
theorem dX4_visit_108 : decode cX4_visit 108 = .ok (.goto 46, 3) := by decide +kernel
theorem dX4_visit_111 : decode cX4_visit 111 = .ok (.aload_n 0, 1) := by decide +kernel
theorem dX4_visit_112 : decode cX4_visit 112 = .ok (.getfield 37, 3) := by decide +kernel
theorem dX4_visit_115 : decode cX4_visit 115 = .ok (.iload_n 2, 1) := by decide +kernel
theorem dX4_visit_116 : decode cX4_visit 116 = .ok (.iaload, 1) := by decide +kernel
theorem dX4_visit_117 : decode cX4_visit 117 = .ok (.iconst 3, 1) := by decide +kernel
theorem dX4_visit_118 : decode cX4_visit 118 = .ok (.if_icmp .ne 36, 3) := by decide +kernel
theorem dX4_visit_121 : decode cX4_visit 121 = .ok (.aload_n 0, 1) := by decide +kernel
theorem dX4_visit_122 : decode cX4_visit 122 = .ok (.getfield 56, 3) := by decide +kernel
theorem dX4_visit_125 : decode cX4_visit 125 = .ok (.iload_n 2, 1) := by decide +kernel
theorem dX4_visit_126 : decode cX4_visit 126 = .ok (.iaload, 1) := by decide +kernel
theorem dX4_visit_127 : decode cX4_visit 127 = .ok (.aload_n 0, 1) := by decide +kernel
theorem dX4_visit_128 : decode cX4_visit 128 = .ok (.getfield 15, 3) := by decide +kernel
theorem dX4_visit_131 : decode cX4_visit 131 = .ok (.if_icmp .gt 23, 3) := by decide +kernel
theorem dX4_visit_134 : decode cX4_visit 134 = .ok (.aload_n 0, 1) := by decide +kernel
theorem dX4_visit_135 : decode cX4_visit 135 = .ok (.dup, 1) := by decide +kernel
theorem dX4_visit_136 : decode cX4_visit 136 = .ok (.getfield 19, 3) := by decide +kernel
theorem dX4_visit_139 : decode cX4_visit 139 = .ok (.aload_n 0, 1) := by decide +kernel
theorem dX4_visit_140 : decode cX4_visit 140 = .ok (.getfield 44, 3) := by decide +kernel
theorem dX4_visit_143 : decode cX4_visit 143 = .ok (.iload_n 2, 1) := by decide +kernel
theorem dX4_visit_144 : decode cX4_visit 144 = .ok (.iaload, 1) := by decide +kernel
theorem dX4_visit_145 : decode cX4_visit 145 = .ok (.isub, 1) := by decide +kernel
theorem dX4_visit_146 : decode cX4_visit 146 = .ok (.putfield 19, 3) := by decide +kernel
theorem dX4_visit_149 : decode cX4_visit 149 = .ok (.aload_n 0, 1) := by decide +kernel
theorem dX4_visit_150 : decode cX4_visit 150 = .ok (.iload_n 2, 1) := by decide +kernel
theorem dX4_visit_151 : decode cX4_visit 151 = .ok (.invokevirtual 69, 3) := by decide +kernel
theorem dX4_visit_154 : decode cX4_visit 154 = .ok (.return_, 1) := by decide +kernel
theorem dX4_buy_0 : decode cX4_buy 0 = .ok (.aload_n 1, 1) := by decide +kernel
theorem dX4_buy_1 : decode cX4_buy 1 = .ok (.iload_n 2, 1) := by decide +kernel
theorem dX4_buy_2 : decode cX4_buy 2 = .ok (.aload_n 0, 1) := by decide +kernel
theorem dX4_buy_3 : decode cX4_buy 3 = .ok (.getfield 53, 3) := by decide +kernel
theorem dX4_buy_6 : decode cX4_buy 6 = .ok (.iload_n 2, 1) := by decide +kernel
theorem dX4_buy_7 : decode cX4_buy 7 = .ok (.iaload, 1) := by decide +kernel
theorem dX4_buy_8 : decode cX4_buy 8 = .ok (.invokevirtual 164, 3) := by decide +kernel
theorem dX4_buy_11 : decode cX4_buy 11 = .ok (.istore_n 3, 1) := by decide +kernel
theorem dX4_buy_12 : decode cX4_buy 12 = .ok (.aload_n 0, 1) := by decide +kernel
theorem dX4_buy_13 : decode cX4_buy 13 = .ok (.getfield 41, 3) := by decide +kernel
theorem dX4_buy_16 : decode cX4_buy 16 = .ok (.iload_n 2, 1) := by decide +kernel
theorem dX4_buy_17 : decode cX4_buy 17 = .ok (.iaload, 1) := by decide +kernel
theorem dX4_buy_18 : decode cX4_buy 18 = .ok (.aload_n 0, 1) := by decide +kernel
theorem dX4_buy_19 : decode cX4_buy 19 = .ok (.getfield 44, 3) := by decide +kernel
theorem dX4_buy_22 : decode cX4_buy 22 = .ok (.iload_n 2, 1) := by decide +kernel
theorem dX4_buy_23 : decode cX4_buy 23 = .ok (.iaload, 1) := by decide +kernel
theorem dX4_buy_24 : decode cX4_buy 24 = .ok (.isub, 1) := by decide +kernel
theorem dX4_buy_25 : decode cX4_buy 25 = .ok (.istore 4, 2) := by decide +kernel
theorem dX4_buy_27 : decode cX4_buy 27 = .ok (.iload_n 3, 1) := by decide +kernel
theorem dX4_buy_28 : decode cX4_buy 28 = .ok (.iload 4, 2) := by decide +kernel
theorem dX4_buy_30 : decode cX4_buy 30 = .ok (.if_icmp .ge 7, 3) := by decide +kernel
theorem dX4_buy_33 : decode cX4_buy 33 = .ok (.iload_n 3, 1) := by decide +kernel
theorem dX4_buy_34 : decode cX4_buy 34 = .ok (.goto 5, 3) := by decide +kernel
theorem dX4_buy_37 : decode cX4_buy 37 = .ok (.iload 4, 2) := by decide +kernel
theorem dX4_buy_39 : decode cX4_buy 39 = .ok (.istore 5, 2) := by decide +kernel
theorem dX4_buy_41 : decode cX4_buy 41 = .ok (.iload 5, 2) := by decide +kernel
theorem dX4_buy_43 : decode cX4_buy 43 = .ok (.iload 5, 2) := by decide +kernel
theorem dX4_buy_45 : decode cX4_buy 45 = .ok (.aload_n 1, 1) := by decide +kernel
theorem dX4_buy_46 : decode cX4_buy 46 = .ok (.iload_n 2, 1) := by decide +kernel
theorem dX4_buy_47 : decode cX4_buy 47 = .ok (.invokevirtual 167, 3) := by decide +kernel
theorem dX4_buy_50 : decode cX4_buy 50 = .ok (.irem, 1) := by decide +kernel
theorem dX4_buy_51 : decode cX4_buy 51 = .ok (.isub, 1) := by decide +kernel
theorem dX4_buy_52 : decode cX4_buy 52 = .ok (.istore 5, 2) := by decide +kernel
theorem dX4_buy_54 : decode cX4_buy 54 = .ok (.iconst 0, 1) := by decide +kernel
theorem dX4_buy_55 : decode cX4_buy 55 = .ok (.istore 6, 2) := by decide +kernel
theorem dX4_buy_57 : decode cX4_buy 57 = .ok (.iload 6, 2) := by decide +kernel
theorem dX4_buy_59 : decode cX4_buy 59 = .ok (.aload_n 1, 1) := by decide +kernel
theorem dX4_buy_60 : decode cX4_buy 60 = .ok (.getfield 171, 3) := by decide +kernel
theorem dX4_buy_63 : decode cX4_buy 63 = .ok (.iload_n 2, 1) := by decide +kernel
theorem dX4_buy_64 : decode cX4_buy 64 = .ok (.iaload, 1) := by decide +kernel
theorem dX4_buy_65 : decode cX4_buy 65 = .ok (.if_icmp .ge 149, 3) := by decide +kernel
theorem dX4_buy_68 : decode cX4_buy 68 = .ok (.iload 5, 2) := by decide +kernel
theorem dX4_buy_70 : decode cX4_buy 70 = .ok (.ifCond .le 144, 3) := by decide +kernel
theorem dX4_buy_73 : decode cX4_buy 73 = .ok (.iload_n 2, 1) := by decide +kernel
theorem dX4_buy_74 : decode cX4_buy 74 = .ok (.iload 6, 2) := by decide +kernel
theorem dX4_buy_76 : decode cX4_buy 76 = .ok (.invokestatic 174, 3) := by decide +kernel
theorem dX4_buy_79 : decode cX4_buy 79 = .ok (.istore 7, 2) := by decide +kernel
theorem dX4_buy_81 : decode cX4_buy 81 = .ok (.aload_n 1, 1) := by decide +kernel
theorem dX4_buy_82 : decode cX4_buy 82 = .ok (.getfield 138, 3) := by decide +kernel
theorem dX4_buy_85 : decode cX4_buy 85 = .ok (.iload 7, 2) := by decide +kernel
theorem dX4_buy_87 : decode cX4_buy 87 = .ok (.iaload, 1) := by decide +kernel
theorem dX4_buy_88 : decode cX4_buy 88 = .ok (.iload 5, 2) := by decide +kernel
theorem dX4_buy_90 : decode cX4_buy 90 = .ok (.if_icmp .ge 13, 3) := by decide +kernel
theorem dX4_buy_93 : decode cX4_buy 93 = .ok (.aload_n 1, 1) := by decide +kernel
theorem dX4_buy_94 : decode cX4_buy 94 = .ok (.getfield 138, 3) := by decide +kernel
theorem dX4_buy_97 : decode cX4_buy 97 = .ok (.iload 7, 2) := by decide +kernel
theorem dX4_buy_99 : decode cX4_buy 99 = .ok (.iaload, 1) := by decide +kernel
theorem dX4_buy_100 : decode cX4_buy 100 = .ok (.goto 5, 3) := by decide +kernel
theorem dX4_buy_103 : decode cX4_buy 103 = .ok (.iload 5, 2) := by decide +kernel
theorem dX4_buy_105 : decode cX4_buy 105 = .ok (.istore 8, 2) := by decide +kernel
theorem dX4_buy_107 : decode cX4_buy 107 = .ok (.iload 8, 2) := by decide +kernel
theorem dX4_buy_109 : decode cX4_buy 109 = .ok (.ifCond .le 99, 3) := by decide +kernel
theorem dX4_buy_112 : decode cX4_buy 112 = .ok (.iload 5, 2) := by decide +kernel
theorem dX4_buy_114 : decode cX4_buy 114 = .ok (.iload 8, 2) := by decide +kernel
theorem dX4_buy_116 : decode cX4_buy 116 = .ok (.isub, 1) := by decide +kernel
theorem dX4_buy_117 : decode cX4_buy 117 = .ok (.istore 5, 2) := by decide +kernel
theorem dX4_buy_119 : decode cX4_buy 119 = .ok (.aload_n 1, 1) := by decide +kernel
theorem dX4_buy_120 : decode cX4_buy 120 = .ok (.getfield 138, 3) := by decide +kernel
theorem dX4_buy_123 : decode cX4_buy 123 = .ok (.iload 7, 2) := by decide +kernel
theorem dX4_buy_125 : decode cX4_buy 125 = .ok (.dup2, 1) := by decide +kernel
theorem dX4_buy_126 : decode cX4_buy 126 = .ok (.iaload, 1) := by decide +kernel
theorem dX4_buy_127 : decode cX4_buy 127 = .ok (.iload 8, 2) := by decide +kernel
theorem dX4_buy_129 : decode cX4_buy 129 = .ok (.isub, 1) := by decide +kernel
theorem dX4_buy_130 : decode cX4_buy 130 = .ok (.iastore, 1) := by decide +kernel
theorem dX4_buy_131 : decode cX4_buy 131 = .ok (.aload_n 0, 1) := by decide +kernel
theorem dX4_buy_132 : decode cX4_buy 132 = .ok (.getfield 44, 3) := by decide +kernel
theorem dX4_buy_135 : decode cX4_buy 135 = .ok (.iload_n 2, 1) := by decide +kernel
theorem dX4_buy_136 : decode cX4_buy 136 = .ok (.dup2, 1) := by decide +kernel
theorem dX4_buy_137 : decode cX4_buy 137 = .ok (.iaload, 1) := by decide +kernel
theorem dX4_buy_138 : decode cX4_buy 138 = .ok (.iload 8, 2) := by decide +kernel
theorem dX4_buy_140 : decode cX4_buy 140 = .ok (.iadd, 1) := by decide +kernel
theorem dX4_buy_141 : decode cX4_buy 141 = .ok (.iastore, 1) := by decide +kernel
theorem dX4_buy_142 : decode cX4_buy 142 = .ok (.aload_n 0, 1) := by decide +kernel
theorem dX4_buy_143 : decode cX4_buy 143 = .ok (.dup, 1) := by decide +kernel
theorem dX4_buy_144 : decode cX4_buy 144 = .ok (.getfield 22, 3) := by decide +kernel
theorem dX4_buy_147 : decode cX4_buy 147 = .ok (.iload 8, 2) := by decide +kernel
theorem dX4_buy_149 : decode cX4_buy 149 = .ok (.iadd, 1) := by decide +kernel
theorem dX4_buy_150 : decode cX4_buy 150 = .ok (.putfield 22, 3) := by decide +kernel
theorem dX4_buy_153 : decode cX4_buy 153 = .ok (.aload_n 0, 1) := by decide +kernel
theorem dX4_buy_154 : decode cX4_buy 154 = .ok (.getfield 47, 3) := by decide +kernel
theorem dX4_buy_157 : decode cX4_buy 157 = .ok (.iload_n 2, 1) := by decide +kernel
theorem dX4_buy_158 : decode cX4_buy 158 = .ok (.dup2, 1) := by decide +kernel
theorem dX4_buy_159 : decode cX4_buy 159 = .ok (.iaload, 1) := by decide +kernel
theorem dX4_buy_160 : decode cX4_buy 160 = .ok (.iload 8, 2) := by decide +kernel
theorem dX4_buy_162 : decode cX4_buy 162 = .ok (.aload_n 1, 1) := by decide +kernel
theorem dX4_buy_163 : decode cX4_buy 163 = .ok (.getfield 177, 3) := by decide +kernel
theorem dX4_buy_166 : decode cX4_buy 166 = .ok (.iload 7, 2) := by decide +kernel
theorem dX4_buy_168 : decode cX4_buy 168 = .ok (.iaload, 1) := by decide +kernel
theorem dX4_buy_169 : decode cX4_buy 169 = .ok (.imul, 1) := by decide +kernel
theorem dX4_buy_170 : decode cX4_buy 170 = .ok (.iadd, 1) := by decide +kernel
theorem dX4_buy_171 : decode cX4_buy 171 = .ok (.iastore, 1) := by decide +kernel
theorem dX4_buy_172 : decode cX4_buy 172 = .ok (.aload_n 0, 1) := by decide +kernel
theorem dX4_buy_173 : decode cX4_buy 173 = .ok (.dup, 1) := by decide +kernel
theorem dX4_buy_174 : decode cX4_buy 174 = .ok (.getfield 25, 3) := by decide +kernel
theorem dX4_buy_177 : decode cX4_buy 177 = .ok (.iload 8, 2) := by decide +kernel
theorem dX4_buy_179 : decode cX4_buy 179 = .ok (.aload_n 1, 1) := by decide +kernel
theorem dX4_buy_180 : decode cX4_buy 180 = .ok (.getfield 177, 3) := by decide +kernel
theorem dX4_buy_183 : decode cX4_buy 183 = .ok (.iload 7, 2) := by decide +kernel
theorem dX4_buy_185 : decode cX4_buy 185 = .ok (.iaload, 1) := by decide +kernel
theorem dX4_buy_186 : decode cX4_buy 186 = .ok (.imul, 1) := by decide +kernel
theorem dX4_buy_187 : decode cX4_buy 187 = .ok (.iadd, 1) := by decide +kernel
theorem dX4_buy_188 : decode cX4_buy 188 = .ok (.putfield 25, 3) := by decide +kernel
theorem dX4_buy_191 : decode cX4_buy 191 = .ok (.aload_n 0, 1) := by decide +kernel
theorem dX4_buy_192 : decode cX4_buy 192 = .ok (.getfield 65, 3) := by decide +kernel
theorem dX4_buy_195 : decode cX4_buy 195 = .ok (.iload_n 2, 1) := by decide +kernel
theorem dX4_buy_196 : decode cX4_buy 196 = .ok (.aload_n 1, 1) := by decide +kernel
theorem dX4_buy_197 : decode cX4_buy 197 = .ok (.getfield 177, 3) := by decide +kernel
theorem dX4_buy_200 : decode cX4_buy 200 = .ok (.iload 7, 2) := by decide +kernel
theorem dX4_buy_202 : decode cX4_buy 202 = .ok (.iaload, 1) := by decide +kernel
theorem dX4_buy_203 : decode cX4_buy 203 = .ok (.iload 8, 2) := by decide +kernel
theorem dX4_buy_205 : decode cX4_buy 205 = .ok (.invokevirtual 180, 3) := by decide +kernel
theorem dX4_buy_208 : decode cX4_buy 208 = .ok (.iinc 6 1, 3) := by decide +kernel
theorem dX4_buy_211 : decode cX4_buy 211 = .ok (.goto (-154), 3) := by decide +kernel
theorem dX4_buy_214 : decode cX4_buy 214 = .ok (.return_, 1) := by decide +kernel
theorem dX4_finish_0 : decode cX4_finish 0 = .ok (.aload_n 1, 1) := by decide +kernel
theorem dX4_finish_1 : decode cX4_finish 1 = .ok (.iload_n 2, 1) := by decide +kernel
theorem dX4_finish_2 : decode cX4_finish 2 = .ok (.aload_n 0, 1) := by decide +kernel
theorem dX4_finish_3 : decode cX4_finish 3 = .ok (.getfield 44, 3) := by decide +kernel
theorem dX4_finish_6 : decode cX4_finish 6 = .ok (.iload_n 2, 1) := by decide +kernel
theorem dX4_finish_7 : decode cX4_finish 7 = .ok (.iaload, 1) := by decide +kernel
theorem dX4_finish_8 : decode cX4_finish 8 = .ok (.invokevirtual 184, 3) := by decide +kernel
theorem dX4_finish_11 : decode cX4_finish 11 = .ok (.istore_n 3, 1) := by decide +kernel
theorem dX4_finish_12 : decode cX4_finish 12 = .ok (.aload_n 0, 1) := by decide +kernel
theorem dX4_finish_13 : decode cX4_finish 13 = .ok (.getfield 47, 3) := by decide +kernel
theorem dX4_finish_16 : decode cX4_finish 16 = .ok (.iload_n 2, 1) := by decide +kernel
theorem dX4_finish_17 : decode cX4_finish 17 = .ok (.dup2, 1) := by decide +kernel
theorem dX4_finish_18 : decode cX4_finish 18 = .ok (.iaload, 1) := by decide +kernel
theorem dX4_finish_19 : decode cX4_finish 19 = .ok (.iload_n 3, 1) := by decide +kernel
theorem dX4_finish_20 : decode cX4_finish 20 = .ok (.iadd, 1) := by decide +kernel
theorem dX4_finish_21 : decode cX4_finish 21 = .ok (.iastore, 1) := by decide +kernel
theorem dX4_finish_22 : decode cX4_finish 22 = .ok (.aload_n 0, 1) := by decide +kernel
theorem dX4_finish_23 : decode cX4_finish 23 = .ok (.dup, 1) := by decide +kernel
theorem dX4_finish_24 : decode cX4_finish 24 = .ok (.getfield 25, 3) := by decide +kernel
theorem dX4_finish_27 : decode cX4_finish 27 = .ok (.iload_n 3, 1) := by decide +kernel
theorem dX4_finish_28 : decode cX4_finish 28 = .ok (.iadd, 1) := by decide +kernel
theorem dX4_finish_29 : decode cX4_finish 29 = .ok (.putfield 25, 3) := by decide +kernel
theorem dX4_finish_32 : decode cX4_finish 32 = .ok (.aload_n 0, 1) := by decide +kernel
theorem dX4_finish_33 : decode cX4_finish 33 = .ok (.getfield 41, 3) := by decide +kernel
theorem dX4_finish_36 : decode cX4_finish 36 = .ok (.iload_n 2, 1) := by decide +kernel
theorem dX4_finish_37 : decode cX4_finish 37 = .ok (.iaload, 1) := by decide +kernel
theorem dX4_finish_38 : decode cX4_finish 38 = .ok (.ifCond .le 41, 3) := by decide +kernel
theorem dX4_finish_41 : decode cX4_finish 41 = .ok (.aload_n 0, 1) := by decide +kernel
theorem dX4_finish_42 : decode cX4_finish 42 = .ok (.dup, 1) := by decide +kernel
theorem dX4_finish_43 : decode cX4_finish 43 = .ok (.getfield 28, 3) := by decide +kernel
theorem dX4_finish_46 : decode cX4_finish 46 = .ok (.aload_n 0, 1) := by decide +kernel
theorem dX4_finish_47 : decode cX4_finish 47 = .ok (.getfield 47, 3) := by decide +kernel
theorem dX4_finish_50 : decode cX4_finish 50 = .ok (.iload_n 2, 1) := by decide +kernel
theorem dX4_finish_51 : decode cX4_finish 51 = .ok (.iaload, 1) := by decide +kernel
theorem dX4_finish_52 : decode cX4_finish 52 = .ok (.aload_n 0, 1) := by decide +kernel
theorem dX4_finish_53 : decode cX4_finish 53 = .ok (.getfield 50, 3) := by decide +kernel
theorem dX4_finish_56 : decode cX4_finish 56 = .ok (.iload_n 2, 1) := by decide +kernel
theorem dX4_finish_57 : decode cX4_finish 57 = .ok (.iaload, 1) := by decide +kernel
theorem dX4_finish_58 : decode cX4_finish 58 = .ok (.aload_n 0, 1) := by decide +kernel
theorem dX4_finish_59 : decode cX4_finish 59 = .ok (.getfield 44, 3) := by decide +kernel
theorem dX4_finish_62 : decode cX4_finish 62 = .ok (.iload_n 2, 1) := by decide +kernel
theorem dX4_finish_63 : decode cX4_finish 63 = .ok (.iaload, 1) := by decide +kernel
theorem dX4_finish_64 : decode cX4_finish 64 = .ok (.imul, 1) := by decide +kernel
theorem dX4_finish_65 : decode cX4_finish 65 = .ok (.aload_n 0, 1) := by decide +kernel
theorem dX4_finish_66 : decode cX4_finish 66 = .ok (.getfield 41, 3) := by decide +kernel
theorem dX4_finish_69 : decode cX4_finish 69 = .ok (.iload_n 2, 1) := by decide +kernel
theorem dX4_finish_70 : decode cX4_finish 70 = .ok (.iaload, 1) := by decide +kernel
theorem dX4_finish_71 : decode cX4_finish 71 = .ok (.invokestatic 187, 3) := by decide +kernel
theorem dX4_finish_74 : decode cX4_finish 74 = .ok (.isub, 1) := by decide +kernel
theorem dX4_finish_75 : decode cX4_finish 75 = .ok (.iadd, 1) := by decide +kernel
theorem dX4_finish_76 : decode cX4_finish 76 = .ok (.putfield 28, 3) := by decide +kernel
theorem dX4_finish_79 : decode cX4_finish 79 = .ok (.aload_n 0, 1) := by decide +kernel
theorem dX4_finish_80 : decode cX4_finish 80 = .ok (.getfield 37, 3) := by decide +kernel
theorem dX4_finish_83 : decode cX4_finish 83 = .ok (.iload_n 2, 1) := by decide +kernel
theorem dX4_finish_84 : decode cX4_finish 84 = .ok (.iconst 3, 1) := by decide +kernel
theorem dX4_finish_85 : decode cX4_finish 85 = .ok (.iastore, 1) := by decide +kernel
theorem dX4_finish_86 : decode cX4_finish 86 = .ok (.aload_n 0, 1) := by decide +kernel
theorem dX4_finish_87 : decode cX4_finish 87 = .ok (.getfield 56, 3) := by decide +kernel
theorem dX4_finish_90 : decode cX4_finish 90 = .ok (.iload_n 2, 1) := by decide +kernel
theorem dX4_finish_91 : decode cX4_finish 91 = .ok (.aload_n 0, 1) := by decide +kernel
theorem dX4_finish_92 : decode cX4_finish 92 = .ok (.getfield 15, 3) := by decide +kernel
theorem dX4_finish_95 : decode cX4_finish 95 = .ok (.aload_n 1, 1) := by decide +kernel
theorem dX4_finish_96 : decode cX4_finish 96 = .ok (.getfield 132, 3) := by decide +kernel
theorem dX4_finish_99 : decode cX4_finish 99 = .ok (.iload_n 2, 1) := by decide +kernel
theorem dX4_finish_100 : decode cX4_finish 100 = .ok (.iaload, 1) := by decide +kernel
theorem dX4_finish_101 : decode cX4_finish 101 = .ok (.iadd, 1) := by decide +kernel
theorem dX4_finish_102 : decode cX4_finish 102 = .ok (.iastore, 1) := by decide +kernel
theorem dX4_finish_103 : decode cX4_finish 103 = .ok (.return_, 1) := by decide +kernel
theorem dX4_canBeCalled_0 : decode cX4_canBeCalled 0 = .ok (.aload_n 0, 1) := by decide +kernel
theorem dX4_canBeCalled_1 : decode cX4_canBeCalled 1 = .ok (.getfield 9, 3) := by decide +kernel
theorem dX4_canBeCalled_4 : decode cX4_canBeCalled 4 = .ok (.ifCond .eq 40, 3) := by decide +kernel
theorem dX4_canBeCalled_7 : decode cX4_canBeCalled 7 = .ok (.aload_n 0, 1) := by decide +kernel
theorem dX4_canBeCalled_8 : decode cX4_canBeCalled 8 = .ok (.getfield 37, 3) := by decide +kernel
theorem dX4_canBeCalled_11 : decode cX4_canBeCalled 11 = .ok (.iload_n 1, 1) := by decide +kernel
theorem dX4_canBeCalled_12 : decode cX4_canBeCalled 12 = .ok (.iaload, 1) := by decide +kernel
theorem dX4_canBeCalled_13 : decode cX4_canBeCalled 13 = .ok (.iconst 1, 1) := by decide +kernel
theorem dX4_canBeCalled_14 : decode cX4_canBeCalled 14 = .ok (.if_icmp .eq 13, 3) := by decide +kernel
theorem dX4_canBeCalled_17 : decode cX4_canBeCalled 17 = .ok (.aload_n 0, 1) := by decide +kernel
theorem dX4_canBeCalled_18 : decode cX4_canBeCalled 18 = .ok (.getfield 37, 3) := by decide +kernel
theorem dX4_canBeCalled_21 : decode cX4_canBeCalled 21 = .ok (.iload_n 1, 1) := by decide +kernel
theorem dX4_canBeCalled_22 : decode cX4_canBeCalled 22 = .ok (.iaload, 1) := by decide +kernel
theorem dX4_canBeCalled_23 : decode cX4_canBeCalled 23 = .ok (.iconst 2, 1) := by decide +kernel
theorem dX4_canBeCalled_24 : decode cX4_canBeCalled 24 = .ok (.if_icmp .ne 20, 3) := by decide +kernel
theorem dX4_canBeCalled_27 : decode cX4_canBeCalled 27 = .ok (.aload_n 0, 1) := by decide +kernel
theorem dX4_canBeCalled_28 : decode cX4_canBeCalled 28 = .ok (.getfield 59, 3) := by decide +kernel
theorem dX4_canBeCalled_31 : decode cX4_canBeCalled 31 = .ok (.iload_n 1, 1) := by decide +kernel
theorem dX4_canBeCalled_32 : decode cX4_canBeCalled 32 = .ok (.iaload, 1) := by decide +kernel
theorem dX4_canBeCalled_33 : decode cX4_canBeCalled 33 = .ok (.aload_n 0, 1) := by decide +kernel
theorem dX4_canBeCalled_34 : decode cX4_canBeCalled 34 = .ok (.getfield 15, 3) := by decide +kernel
theorem dX4_canBeCalled_37 : decode cX4_canBeCalled 37 = .ok (.if_icmp .gt 7, 3) := by decide +kernel
theorem dX4_canBeCalled_40 : decode cX4_canBeCalled 40 = .ok (.iconst 1, 1) := by decide +kernel
theorem dX4_canBeCalled_41 : decode cX4_canBeCalled 41 = .ok (.goto 4, 3) := by decide +kernel
theorem dX4_canBeCalled_44 : decode cX4_canBeCalled 44 = .ok (.iconst 0, 1) := by decide +kernel
theorem dX4_canBeCalled_45 : decode cX4_canBeCalled 45 = .ok (.ireturn, 1) := by decide +kernel
theorem dX4_tell_0 : decode cX4_tell 0 = .ok (.iload_n 2, 1) := by decide +kernel
theorem dX4_tell_1 : decode cX4_tell 1 = .ok (.tableswitch 87 0 6 #[43, 48, 53, 58, 63, 68, 73], 43) := by decide +kernel
theorem dX4_tell_44 : decode cX4_tell 44 = .ok (.aload_n 0, 1) := by decide +kernel
theorem dX4_tell_45 : decode cX4_tell 45 = .ok (.getfield 15, 3) := by decide +kernel
theorem dX4_tell_48 : decode cX4_tell 48 = .ok (.ireturn, 1) := by decide +kernel
theorem dX4_tell_49 : decode cX4_tell 49 = .ok (.aload_n 0, 1) := by decide +kernel
theorem dX4_tell_50 : decode cX4_tell 50 = .ok (.getfield 19, 3) := by decide +kernel
theorem dX4_tell_53 : decode cX4_tell 53 = .ok (.ireturn, 1) := by decide +kernel
theorem dX4_tell_54 : decode cX4_tell 54 = .ok (.aload_n 0, 1) := by decide +kernel
theorem dX4_tell_55 : decode cX4_tell 55 = .ok (.getfield 22, 3) := by decide +kernel
theorem dX4_tell_58 : decode cX4_tell 58 = .ok (.ireturn, 1) := by decide +kernel
theorem dX4_tell_59 : decode cX4_tell 59 = .ok (.aload_n 0, 1) := by decide +kernel
theorem dX4_tell_60 : decode cX4_tell 60 = .ok (.getfield 25, 3) := by decide +kernel
theorem dX4_tell_63 : decode cX4_tell 63 = .ok (.ireturn, 1) := by decide +kernel
theorem dX4_tell_64 : decode cX4_tell 64 = .ok (.aload_n 0, 1) := by decide +kernel
theorem dX4_tell_65 : decode cX4_tell 65 = .ok (.getfield 28, 3) := by decide +kernel
theorem dX4_tell_68 : decode cX4_tell 68 = .ok (.ireturn, 1) := by decide +kernel
theorem dX4_tell_69 : decode cX4_tell 69 = .ok (.aload_n 0, 1) := by decide +kernel
theorem dX4_tell_70 : decode cX4_tell 70 = .ok (.getfield 31, 3) := by decide +kernel
theorem dX4_tell_73 : decode cX4_tell 73 = .ok (.ireturn, 1) := by decide +kernel
theorem dX4_tell_74 : decode cX4_tell 74 = .ok (.aload_n 0, 1) := by decide +kernel
theorem dX4_tell_75 : decode cX4_tell 75 = .ok (.aload_n 1, 1) := by decide +kernel
theorem dX4_tell_76 : decode cX4_tell 76 = .ok (.invokevirtual 192, 3) := by decide +kernel
theorem dX4_tell_79 : decode cX4_tell 79 = .ok (.ifCond .eq 7, 3) := by decide +kernel
theorem dX4_tell_82 : decode cX4_tell 82 = .ok (.iconst 1, 1) := by decide +kernel
theorem dX4_tell_83 : decode cX4_tell 83 = .ok (.goto 4, 3) := by decide +kernel
theorem dX4_tell_86 : decode cX4_tell 86 = .ok (.iconst 0, 1) := by decide +kernel
theorem dX4_tell_87 : decode cX4_tell 87 = .ok (.ireturn, 1) := by decide +kernel
theorem dX4_tell_88 : decode cX4_tell 88 = .ok (.aload_n 1, 1) := by decide +kernel
theorem dX4_tell_89 : decode cX4_tell 89 = .ok (.getfield 95, 3) := by decide +kernel
theorem dX4_tell_92 : decode cX4_tell 92 = .ok (.aload_n 0, 1) := by decide +kernel
theorem dX4_tell_93 : decode cX4_tell 93 = .ok (.getfield 34, 3) := by decide +kernel
theorem dX4_tell_96 : decode cX4_tell 96 = .ok (.isub, 1) := by decide +kernel
theorem dX4_tell_97 : decode cX4_tell 97 = .ok (.ireturn, 1) := by decide +kernel
theorem dX4_tellPart_0 : decode cX4_tellPart 0 = .ok (.iload_n 2, 1) := by decide +kernel
theorem dX4_tellPart_1 : decode cX4_tellPart 1 = .ok (.tableswitch 81 0 5 #[39, 46, 53, 60, 67, 74], 39) := by decide +kernel
theorem dX4_tellPart_40 : decode cX4_tellPart 40 = .ok (.aload_n 0, 1) := by decide +kernel
theorem dX4_tellPart_41 : decode cX4_tellPart 41 = .ok (.getfield 37, 3) := by decide +kernel
theorem dX4_tellPart_44 : decode cX4_tellPart 44 = .ok (.iload_n 1, 1) := by decide +kernel
theorem dX4_tellPart_45 : decode cX4_tellPart 45 = .ok (.iaload, 1) := by decide +kernel
theorem dX4_tellPart_46 : decode cX4_tellPart 46 = .ok (.ireturn, 1) := by decide +kernel
theorem dX4_tellPart_47 : decode cX4_tellPart 47 = .ok (.aload_n 0, 1) := by decide +kernel
theorem dX4_tellPart_48 : decode cX4_tellPart 48 = .ok (.getfield 41, 3) := by decide +kernel
theorem dX4_tellPart_51 : decode cX4_tellPart 51 = .ok (.iload_n 1, 1) := by decide +kernel
theorem dX4_tellPart_52 : decode cX4_tellPart 52 = .ok (.iaload, 1) := by decide +kernel
theorem dX4_tellPart_53 : decode cX4_tellPart 53 = .ok (.ireturn, 1) := by decide +kernel
theorem dX4_tellPart_54 : decode cX4_tellPart 54 = .ok (.aload_n 0, 1) := by decide +kernel
theorem dX4_tellPart_55 : decode cX4_tellPart 55 = .ok (.getfield 44, 3) := by decide +kernel
theorem dX4_tellPart_58 : decode cX4_tellPart 58 = .ok (.iload_n 1, 1) := by decide +kernel
theorem dX4_tellPart_59 : decode cX4_tellPart 59 = .ok (.iaload, 1) := by decide +kernel
theorem dX4_tellPart_60 : decode cX4_tellPart 60 = .ok (.ireturn, 1) := by decide +kernel
theorem dX4_tellPart_61 : decode cX4_tellPart 61 = .ok (.aload_n 0, 1) := by decide +kernel
theorem dX4_tellPart_62 : decode cX4_tellPart 62 = .ok (.getfield 50, 3) := by decide +kernel
theorem dX4_tellPart_65 : decode cX4_tellPart 65 = .ok (.iload_n 1, 1) := by decide +kernel
theorem dX4_tellPart_66 : decode cX4_tellPart 66 = .ok (.iaload, 1) := by decide +kernel
theorem dX4_tellPart_67 : decode cX4_tellPart 67 = .ok (.ireturn, 1) := by decide +kernel
theorem dX4_tellPart_68 : decode cX4_tellPart 68 = .ok (.aload_n 0, 1) := by decide +kernel
theorem dX4_tellPart_69 : decode cX4_tellPart 69 = .ok (.getfield 53, 3) := by decide +kernel
theorem dX4_tellPart_72 : decode cX4_tellPart 72 = .ok (.iload_n 1, 1) := by decide +kernel
theorem dX4_tellPart_73 : decode cX4_tellPart 73 = .ok (.iaload, 1) := by decide +kernel
theorem dX4_tellPart_74 : decode cX4_tellPart 74 = .ok (.ireturn, 1) := by decide +kernel
theorem dX4_tellPart_75 : decode cX4_tellPart 75 = .ok (.aload_n 0, 1) := by decide +kernel
theorem dX4_tellPart_76 : decode cX4_tellPart 76 = .ok (.getfield 56, 3) := by decide +kernel
theorem dX4_tellPart_79 : decode cX4_tellPart 79 = .ok (.iload_n 1, 1) := by decide +kernel
theorem dX4_tellPart_80 : decode cX4_tellPart 80 = .ok (.iaload, 1) := by decide +kernel
theorem dX4_tellPart_81 : decode cX4_tellPart 81 = .ok (.ireturn, 1) := by decide +kernel
theorem dX4_tellPart_82 : decode cX4_tellPart 82 = .ok (.aload_n 0, 1) := by decide +kernel
theorem dX4_tellPart_83 : decode cX4_tellPart 83 = .ok (.getfield 59, 3) := by decide +kernel
theorem dX4_tellPart_86 : decode cX4_tellPart 86 = .ok (.iload_n 1, 1) := by decide +kernel
theorem dX4_tellPart_87 : decode cX4_tellPart 87 = .ok (.iaload, 1) := by decide +kernel
theorem dX4_tellPart_88 : decode cX4_tellPart 88 = .ok (.aload_n 0, 1) := by decide +kernel
theorem dX4_tellPart_89 : decode cX4_tellPart 89 = .ok (.getfield 15, 3) := by decide +kernel
theorem dX4_tellPart_92 : decode cX4_tellPart 92 = .ok (.if_icmp .le 12, 3) := by decide +kernel
theorem dX4_tellPart_95 : decode cX4_tellPart 95 = .ok (.aload_n 0, 1) := by decide +kernel
theorem dX4_tellPart_96 : decode cX4_tellPart 96 = .ok (.getfield 59, 3) := by decide +kernel
theorem dX4_tellPart_99 : decode cX4_tellPart 99 = .ok (.iload_n 1, 1) := by decide +kernel
theorem dX4_tellPart_100 : decode cX4_tellPart 100 = .ok (.iaload, 1) := by decide +kernel
theorem dX4_tellPart_101 : decode cX4_tellPart 101 = .ok (.goto 5, 3) := by decide +kernel
theorem dX4_tellPart_104 : decode cX4_tellPart 104 = .ok (.bipush (-2), 2) := by decide +kernel
theorem dX4_tellPart_106 : decode cX4_tellPart 106 = .ok (.ireturn, 1) := by decide +kernel
theorem dX5_init_0 : decode cX5_init 0 = .ok (.aload_n 0, 1) := by decide +kernel
theorem dX5_init_1 : decode cX5_init 1 = .ok (.invokespecial 3, 3) := by decide +kernel
theorem dX5_init_4 : decode cX5_init 4 = .ok (.aload_n 0, 1) := by decide +kernel
theorem dX5_init_5 : decode cX5_init 5 = .ok (.iconst 0, 1) := by decide +kernel
theorem dX5_init_6 : decode cX5_init 6 = .ok (.putfield 9, 3) := by decide +kernel
theorem dX5_init_9 : decode cX5_init 9 = .ok (.aload_n 0, 1) := by decide +kernel
theorem dX5_init_10 : decode cX5_init 10 = .ok (.iconst 0, 1) := by decide +kernel
theorem dX5_init_11 : decode cX5_init 11 = .ok (.putfield 15, 3) := by decide +kernel
theorem dX5_init_14 : decode cX5_init 14 = .ok (.aload_n 0, 1) := by decide +kernel
theorem dX5_init_15 : decode cX5_init 15 = .ok (.iconst (-1), 1) := by decide +kernel
theorem dX5_init_16 : decode cX5_init 16 = .ok (.putfield 18, 3) := by decide +kernel
theorem dX5_init_19 : decode cX5_init 19 = .ok (.aload_n 0, 1) := by decide +kernel
theorem dX5_init_20 : decode cX5_init 20 = .ok (.sipush 900, 3) := by decide +kernel
theorem dX5_init_23 : decode cX5_init 23 = .ok (.newarray .byte, 2) := by decide +kernel
theorem dX5_init_25 : decode cX5_init 25 = .ok (.putfield 21, 3) := by decide +kernel
theorem dX5_init_28 : decode cX5_init 28 = .ok (.aload_n 0, 1) := by decide +kernel
theorem dX5_init_29 : decode cX5_init 29 = .ok (.iconst 5, 1) := by decide +kernel
theorem dX5_init_30 : decode cX5_init 30 = .ok (.newarray .int, 2) := by decide +kernel
theorem dX5_init_32 : decode cX5_init 32 = .ok (.putfield 25, 3) := by decide +kernel
theorem dX5_init_35 : decode cX5_init 35 = .ok (.aload_n 0, 1) := by decide +kernel
theorem dX5_init_36 : decode cX5_init 36 = .ok (.iconst 0, 1) := by decide +kernel
theorem dX5_init_37 : decode cX5_init 37 = .ok (.putfield 29, 3) := by decide +kernel
theorem dX5_init_40 : decode cX5_init 40 = .ok (.aload_n 0, 1) := by decide +kernel
theorem dX5_init_41 : decode cX5_init 41 = .ok (.iconst 0, 1) := by decide +kernel
theorem dX5_init_42 : decode cX5_init 42 = .ok (.putfield 32, 3) := by decide +kernel
theorem dX5_init_45 : decode cX5_init 45 = .ok (.aload_n 0, 1) := by decide +kernel
theorem dX5_init_46 : decode cX5_init 46 = .ok (.iconst 0, 1) := by decide +kernel
theorem dX5_init_47 : decode cX5_init 47 = .ok (.putfield 35, 3) := by decide +kernel
theorem dX5_init_50 : decode cX5_init 50 = .ok (.aload_n 0, 1) := by decide +kernel
theorem dX5_init_51 : decode cX5_init 51 = .ok (.iconst 0, 1) := by decide +kernel
theorem dX5_init_52 : decode cX5_init 52 = .ok (.putfield 38, 3) := by decide +kernel
theorem dX5_init_55 : decode cX5_init 55 = .ok (.aload_n 0, 1) := by decide +kernel
theorem dX5_init_56 : decode cX5_init 56 = .ok (.iconst 0, 1) := by decide +kernel
theorem dX5_init_57 : decode cX5_init 57 = .ok (.putfield 41, 3) := by decide +kernel
theorem dX5_init_60 : decode cX5_init 60 = .ok (.aload_n 0, 1) := by decide +kernel
theorem dX5_init_61 : decode cX5_init 61 = .ok (.iconst 0, 1) := by decide +kernel
theorem dX5_init_62 : decode cX5_init 62 = .ok (.putfield 44, 3) := by decide +kernel
theorem dX5_init_65 : decode cX5_init 65 = .ok (.return_, 1) := by decide +kernel
theorem dX5_put_0 : decode cX5_put 0 = .ok (.bipush 24, 2) := by decide +kernel
theorem dX5_put_2 : decode cX5_put 2 = .ok (.istore_n 2, 1) := by decide +kernel
theorem dX5_put_3 : decode cX5_put 3 = .ok (.iload_n 2, 1) := by decide +kernel
theorem dX5_put_4 : decode cX5_put 4 = .ok (.ifCond .lt 42, 3) := by decide +kernel
theorem dX5_put_7 : decode cX5_put 7 = .ok (.aload_n 0, 1) := by decide +kernel
theorem dX5_put_8 : decode cX5_put 8 = .ok (.getfield 9, 3) := by decide +kernel
theorem dX5_put_11 : decode cX5_put 11 = .ok (.sipush 900, 3) := by decide +kernel
theorem dX5_put_14 : decode cX5_put 14 = .ok (.if_icmp .ge 32, 3) := by decide +kernel
theorem dX5_put_17 : decode cX5_put 17 = .ok (.aload_n 0, 1) := by decide +kernel
theorem dX5_put_18 : decode cX5_put 18 = .ok (.getfield 21, 3) := by decide +kernel
theorem dX5_put_21 : decode cX5_put 21 = .ok (.aload_n 0, 1) := by decide +kernel
theorem dX5_put_22 : decode cX5_put 22 = .ok (.getfield 9, 3) := by decide +kernel
theorem dX5_put_25 : decode cX5_put 25 = .ok (.iload_n 1, 1) := by decide +kernel
theorem dX5_put_26 : decode cX5_put 26 = .ok (.iload_n 2, 1) := by decide +kernel
theorem dX5_put_27 : decode cX5_put 27 = .ok (.ishr, 1) := by decide +kernel
theorem dX5_put_28 : decode cX5_put 28 = .ok (.i2b, 1) := by decide +kernel
theorem dX5_put_29 : decode cX5_put 29 = .ok (.bastore, 1) := by decide +kernel
theorem dX5_put_30 : decode cX5_put 30 = .ok (.aload_n 0, 1) := by decide +kernel
theorem dX5_put_31 : decode cX5_put 31 = .ok (.dup, 1) := by decide +kernel
theorem dX5_put_32 : decode cX5_put 32 = .ok (.getfield 9, 3) := by decide +kernel
theorem dX5_put_35 : decode cX5_put 35 = .ok (.iconst 1, 1) := by decide +kernel
theorem dX5_put_36 : decode cX5_put 36 = .ok (.iadd, 1) := by decide +kernel
theorem dX5_put_37 : decode cX5_put 37 = .ok (.putfield 9, 3) := by decide +kernel
theorem dX5_put_40 : decode cX5_put 40 = .ok (.iinc 2 (-8), 3) := by decide +kernel
theorem dX5_put_43 : decode cX5_put 43 = .ok (.goto (-40), 3) := by decide +kernel
theorem dX5_put_46 : decode cX5_put 46 = .ok (.return_, 1) := by decide +kernel
theorem dX5_readInto_0 : decode cX5_readInto 0 = .ok (.aload_n 1, 1) := by decide +kernel
theorem dX5_readInto_1 : decode cX5_readInto 1 = .ok (.invokevirtual 47, 3) := by decide +kernel
theorem dX5_readInto_4 : decode cX5_readInto 4 = .ok (.aload_n 0, 1) := by decide +kernel
theorem dX5_readInto_5 : decode cX5_readInto 5 = .ok (.iconst 0, 1) := by decide +kernel
theorem dX5_readInto_6 : decode cX5_readInto 6 = .ok (.putfield 15, 3) := by decide +kernel
theorem dX5_readInto_9 : decode cX5_readInto 9 = .ok (.aload_n 0, 1) := by decide +kernel
theorem dX5_readInto_10 : decode cX5_readInto 10 = .ok (.iconst (-1), 1) := by decide +kernel
theorem dX5_readInto_11 : decode cX5_readInto 11 = .ok (.putfield 18, 3) := by decide +kernel
theorem dX5_readInto_14 : decode cX5_readInto 14 = .ok (.aload_n 0, 1) := by decide +kernel
theorem dX5_readInto_15 : decode cX5_readInto 15 = .ok (.iconst 0, 1) := by decide +kernel
theorem dX5_readInto_16 : decode cX5_readInto 16 = .ok (.putfield 32, 3) := by decide +kernel
theorem dX5_readInto_19 : decode cX5_readInto 19 = .ok (.aload_n 0, 1) := by decide +kernel
theorem dX5_readInto_20 : decode cX5_readInto 20 = .ok (.iload_n 2, 1) := by decide +kernel
theorem dX5_readInto_21 : decode cX5_readInto 21 = .ok (.putfield 29, 3) := by decide +kernel
theorem dX5_readInto_24 : decode cX5_readInto 24 = .ok (.aload_n 0, 1) := by decide +kernel
theorem dX5_readInto_25 : decode cX5_readInto 25 = .ok (.invokevirtual 52, 3) := by decide +kernel
theorem dX5_readInto_28 : decode cX5_readInto 28 = .ok (.iconst 0, 1) := by decide +kernel
theorem dX5_readInto_29 : decode cX5_readInto 29 = .ok (.istore_n 3, 1) := by decide +kernel
theorem dX5_readInto_30 : decode cX5_readInto 30 = .ok (.iload_n 3, 1) := by decide +kernel
theorem dX5_readInto_31 : decode cX5_readInto 31 = .ok (.sipush 900, 3) := by decide +kernel
theorem dX5_readInto_34 : decode cX5_readInto 34 = .ok (.if_icmp .gt 66, 3) := by decide +kernel
theorem dX5_readInto_37 : decode cX5_readInto 37 = .ok (.aload_n 0, 1) := by decide +kernel
theorem dX5_readInto_38 : decode cX5_readInto 38 = .ok (.aload_n 1, 1) := by decide +kernel
theorem dX5_readInto_39 : decode cX5_readInto 39 = .ok (.invokevirtual 55, 3) := by decide +kernel
theorem dX5_readInto_42 : decode cX5_readInto 42 = .ok (.ifCond .ne 5, 3) := by decide +kernel
theorem dX5_readInto_45 : decode cX5_readInto 45 = .ok (.iconst 0, 1) := by decide +kernel
theorem dX5_readInto_46 : decode cX5_readInto 46 = .ok (.ireturn, 1) := by decide +kernel
theorem dX5_readInto_47 : decode cX5_readInto 47 = .ok (.aload_n 0, 1) := by decide +kernel
theorem dX5_readInto_48 : decode cX5_readInto 48 = .ok (.getfield 35, 3) := by decide +kernel
theorem dX5_readInto_51 : decode cX5_readInto 51 = .ok (.ifCond .ne 25, 3) := by decide +kernel
theorem dX5_readInto_54 : decode cX5_readInto 54 = .ok (.aload_n 1, 1) := by decide +kernel
theorem dX5_readInto_55 : decode cX5_readInto 55 = .ok (.getfield 59, 3) := by decide +kernel
theorem dX5_readInto_58 : decode cX5_readInto 58 = .ok (.ifCond .gt 12, 3) := by decide +kernel
theorem dX5_readInto_61 : decode cX5_readInto 61 = .ok (.aload_n 0, 1) := by decide +kernel
theorem dX5_readInto_62 : decode cX5_readInto 62 = .ok (.bipush 6, 2) := by decide +kernel
theorem dX5_readInto_64 : decode cX5_readInto 64 = .ok (.invokevirtual 62, 3) := by decide +kernel
theorem dX5_readInto_67 : decode cX5_readInto 67 = .ok (.ifCond .eq 7, 3) := by decide +kernel
theorem dX5_readInto_70 : decode cX5_readInto 70 = .ok (.iconst 1, 1) := by decide +kernel
theorem dX5_readInto_71 : decode cX5_readInto 71 = .ok (.goto 4, 3) := by decide +kernel
theorem dX5_readInto_74 : decode cX5_readInto 74 = .ok (.iconst 0, 1) := by decide +kernel
theorem dX5_readInto_75 : decode cX5_readInto 75 = .ok (.ireturn, 1) := by decide +kernel
theorem dX5_readInto_76 : decode cX5_readInto 76 = .ok (.aload_n 0, 1) := by decide +kernel
theorem dX5_readInto_77 : decode cX5_readInto 77 = .ok (.getfield 35, 3) := by decide +kernel
theorem dX5_readInto_80 : decode cX5_readInto 80 = .ok (.iconst 3, 1) := by decide +kernel
theorem dX5_readInto_81 : decode cX5_readInto 81 = .ok (.if_icmp .eq 9, 3) := by decide +kernel
theorem dX5_readInto_84 : decode cX5_readInto 84 = .ok (.aload_n 0, 1) := by decide +kernel
theorem dX5_readInto_85 : decode cX5_readInto 85 = .ok (.iconst 1, 1) := by decide +kernel
theorem dX5_readInto_86 : decode cX5_readInto 86 = .ok (.invokevirtual 62, 3) := by decide +kernel
theorem dX5_readInto_89 : decode cX5_readInto 89 = .ok (.ireturn, 1) := by decide +kernel
theorem dX5_readInto_90 : decode cX5_readInto 90 = .ok (.aload_n 0, 1) := by decide +kernel
theorem dX5_readInto_91 : decode cX5_readInto 91 = .ok (.invokevirtual 52, 3) := by decide +kernel
theorem dX5_readInto_94 : decode cX5_readInto 94 = .ok (.iinc 3 1, 3) := by decide +kernel
theorem dX5_readInto_97 : decode cX5_readInto 97 = .ok (.goto (-67), 3) := by decide +kernel
theorem dX5_readInto_100 : decode cX5_readInto 100 = .ok (.aload_n 0, 1) := by decide +kernel
theorem dX5_readInto_101 : decode cX5_readInto 101 = .ok (.iconst 1, 1) := by decide +kernel
theorem dX5_readInto_102 : decode cX5_readInto 102 = .ok (.invokevirtual 62, 3) := by decide +kernel
theorem dX5_readInto_105 : decode cX5_readInto 105 = .ok (.ireturn, 1) := by decide +kernel
theorem dX5_fails_0 : decode cX5_fails 0 = .ok (.aload_n 0, 1) := by decide +kernel
theorem dX5_fails_1 : decode cX5_fails 1 = .ok (.iload_n 1, 1) := by decide +kernel
theorem dX5_fails_2 : decode cX5_fails 2 = .ok (.putfield 15, 3) := by decide +kernel
theorem dX5_fails_5 : decode cX5_fails 5 = .ok (.aload_n 0, 1) := by decide +kernel
theorem dX5_fails_6 : decode cX5_fails 6 = .ok (.aload_n 0, 1) := by decide +kernel
theorem dX5_fails_7 : decode cX5_fails 7 = .ok (.getfield 38, 3) := by decide +kernel
theorem dX5_fails_10 : decode cX5_fails 10 = .ok (.putfield 18, 3) := by decide +kernel
theorem dX5_fails_13 : decode cX5_fails 13 = .ok (.iconst 0, 1) := by decide +kernel
theorem dX5_fails_14 : decode cX5_fails 14 = .ok (.ireturn, 1) := by decide +kernel
theorem dX5_readLine_0 : decode cX5_readLine 0 = .ok (.aload_n 0, 1) := by decide +kernel
theorem dX5_readLine_1 : decode cX5_readLine 1 = .ok (.ldc 66, 2) := by decide +kernel
theorem dX5_readLine_3 : decode cX5_readLine 3 = .ok (.invokevirtual 68, 3) := by decide +kernel
theorem dX5_readLine_6 : decode cX5_readLine 6 = .ok (.ifCond .eq 9, 3) := by decide +kernel
theorem dX5_readLine_9 : decode cX5_readLine 9 = .ok (.aload_n 0, 1) := by decide +kernel
theorem dX5_readLine_10 : decode cX5_readLine 10 = .ok (.aload_n 1, 1) := by decide +kernel
theorem dX5_readLine_11 : decode cX5_readLine 11 = .ok (.invokevirtual 72, 3) := by decide +kernel
theorem dX5_readLine_14 : decode cX5_readLine 14 = .ok (.ireturn, 1) := by decide +kernel
theorem dX5_readLine_15 : decode cX5_readLine 15 = .ok (.aload_n 0, 1) := by decide +kernel
theorem dX5_readLine_16 : decode cX5_readLine 16 = .ok (.ldc 75, 2) := by decide +kernel
theorem dX5_readLine_18 : decode cX5_readLine 18 = .ok (.invokevirtual 68, 3) := by decide +kernel
theorem dX5_readLine_21 : decode cX5_readLine 21 = .ok (.ifCond .eq 42, 3) := by decide +kernel
theorem dX5_readLine_24 : decode cX5_readLine 24 = .ok (.aload_n 0, 1) := by decide +kernel
theorem dX5_readLine_25 : decode cX5_readLine 25 = .ok (.aload_n 1, 1) := by decide +kernel
theorem dX5_readLine_26 : decode cX5_readLine 26 = .ok (.aload_n 1, 1) := by decide +kernel
theorem dX5_readLine_27 : decode cX5_readLine 27 = .ok (.getfield 59, 3) := by decide +kernel
theorem dX5_readLine_30 : decode cX5_readLine 30 = .ok (.iconst 5, 1) := by decide +kernel
theorem dX5_readLine_31 : decode cX5_readLine 31 = .ok (.if_icmp .ge 7, 3) := by decide +kernel
theorem dX5_readLine_34 : decode cX5_readLine 34 = .ok (.iconst 1, 1) := by decide +kernel
theorem dX5_readLine_35 : decode cX5_readLine 35 = .ok (.goto 4, 3) := by decide +kernel
theorem dX5_readLine_38 : decode cX5_readLine 38 = .ok (.iconst 0, 1) := by decide +kernel
theorem dX5_readLine_39 : decode cX5_readLine 39 = .ok (.invokevirtual 77, 3) := by decide +kernel
theorem dX5_readLine_42 : decode cX5_readLine 42 = .ok (.ifCond .eq 19, 3) := by decide +kernel
theorem dX5_readLine_45 : decode cX5_readLine 45 = .ok (.aload_n 0, 1) := by decide +kernel
theorem dX5_readLine_46 : decode cX5_readLine 46 = .ok (.aload_n 1, 1) := by decide +kernel
theorem dX5_readLine_47 : decode cX5_readLine 47 = .ok (.aload_n 1, 1) := by decide +kernel
theorem dX5_readLine_48 : decode cX5_readLine 48 = .ok (.getfield 59, 3) := by decide +kernel
theorem dX5_readLine_51 : decode cX5_readLine 51 = .ok (.invokevirtual 81, 3) := by decide +kernel
theorem dX5_readLine_54 : decode cX5_readLine 54 = .ok (.ifCond .eq 7, 3) := by decide +kernel
theorem dX5_readLine_57 : decode cX5_readLine 57 = .ok (.iconst 1, 1) := by decide +kernel
theorem dX5_readLine_58 : decode cX5_readLine 58 = .ok (.goto 4, 3) := by decide +kernel
theorem dX5_readLine_61 : decode cX5_readLine 61 = .ok (.iconst 0, 1) := by decide +kernel
theorem dX5_readLine_62 : decode cX5_readLine 62 = .ok (.ireturn, 1) := by decide +kernel
theorem dX5_readLine_63 : decode cX5_readLine 63 = .ok (.aload_n 0, 1) := by decide +kernel
theorem dX5_readLine_64 : decode cX5_readLine 64 = .ok (.ldc 85, 2) := by decide +kernel
theorem dX5_readLine_66 : decode cX5_readLine 66 = .ok (.invokevirtual 68, 3) := by decide +kernel
theorem dX5_readLine_69 : decode cX5_readLine 69 = .ok (.ifCond .eq 26, 3) := by decide +kernel
theorem dX5_readLine_72 : decode cX5_readLine 72 = .ok (.aload_n 0, 1) := by decide +kernel
theorem dX5_readLine_73 : decode cX5_readLine 73 = .ok (.aload_n 1, 1) := by decide +kernel
theorem dX5_readLine_74 : decode cX5_readLine 74 = .ok (.iconst 1, 1) := by decide +kernel
theorem dX5_readLine_75 : decode cX5_readLine 75 = .ok (.invokevirtual 77, 3) := by decide +kernel
theorem dX5_readLine_78 : decode cX5_readLine 78 = .ok (.ifCond .eq 15, 3) := by decide +kernel
theorem dX5_readLine_81 : decode cX5_readLine 81 = .ok (.aload_n 0, 1) := by decide +kernel
theorem dX5_readLine_82 : decode cX5_readLine 82 = .ok (.aload_n 1, 1) := by decide +kernel
theorem dX5_readLine_83 : decode cX5_readLine 83 = .ok (.invokevirtual 87, 3) := by decide +kernel
theorem dX5_readLine_86 : decode cX5_readLine 86 = .ok (.ifCond .eq 7, 3) := by decide +kernel
theorem dX5_readLine_89 : decode cX5_readLine 89 = .ok (.iconst 1, 1) := by decide +kernel
theorem dX5_readLine_90 : decode cX5_readLine 90 = .ok (.goto 4, 3) := by decide +kernel
theorem dX5_readLine_93 : decode cX5_readLine 93 = .ok (.iconst 0, 1) := by decide +kernel
theorem dX5_readLine_94 : decode cX5_readLine 94 = .ok (.ireturn, 1) := by decide +kernel
theorem dX5_readLine_95 : decode cX5_readLine 95 = .ok (.aload_n 0, 1) := by decide +kernel
theorem dX5_readLine_96 : decode cX5_readLine 96 = .ok (.ldc 90, 2) := by decide +kernel
theorem dX5_readLine_98 : decode cX5_readLine 98 = .ok (.invokevirtual 68, 3) := by decide +kernel
theorem dX5_readLine_101 : decode cX5_readLine 101 = .ok (.ifCond .eq 43, 3) := by decide +kernel
theorem dX5_readLine_104 : decode cX5_readLine 104 = .ok (.aload_n 0, 1) := by decide +kernel
theorem dX5_readLine_105 : decode cX5_readLine 105 = .ok (.aload_n 1, 1) := by decide +kernel
theorem dX5_readLine_106 : decode cX5_readLine 106 = .ok (.aload_n 1, 1) := by decide +kernel
theorem dX5_readLine_107 : decode cX5_readLine 107 = .ok (.getfield 92, 3) := by decide +kernel
theorem dX5_readLine_110 : decode cX5_readLine 110 = .ok (.bipush 10, 2) := by decide +kernel
theorem dX5_readLine_112 : decode cX5_readLine 112 = .ok (.if_icmp .ge 7, 3) := by decide +kernel
theorem dX5_readLine_115 : decode cX5_readLine 115 = .ok (.iconst 1, 1) := by decide +kernel
theorem dX5_readLine_116 : decode cX5_readLine 116 = .ok (.goto 4, 3) := by decide +kernel
theorem dX5_readLine_119 : decode cX5_readLine 119 = .ok (.iconst 0, 1) := by decide +kernel
theorem dX5_readLine_120 : decode cX5_readLine 120 = .ok (.invokevirtual 77, 3) := by decide +kernel
theorem dX5_readLine_123 : decode cX5_readLine 123 = .ok (.ifCond .eq 19, 3) := by decide +kernel
theorem dX5_readLine_126 : decode cX5_readLine 126 = .ok (.aload_n 0, 1) := by decide +kernel
theorem dX5_readLine_127 : decode cX5_readLine 127 = .ok (.aload_n 1, 1) := by decide +kernel
theorem dX5_readLine_128 : decode cX5_readLine 128 = .ok (.aload_n 1, 1) := by decide +kernel
theorem dX5_readLine_129 : decode cX5_readLine 129 = .ok (.getfield 92, 3) := by decide +kernel
theorem dX5_readLine_132 : decode cX5_readLine 132 = .ok (.invokevirtual 95, 3) := by decide +kernel
theorem dX5_readLine_135 : decode cX5_readLine 135 = .ok (.ifCond .eq 7, 3) := by decide +kernel
theorem dX5_readLine_138 : decode cX5_readLine 138 = .ok (.iconst 1, 1) := by decide +kernel
theorem dX5_readLine_139 : decode cX5_readLine 139 = .ok (.goto 4, 3) := by decide +kernel
theorem dX5_readLine_142 : decode cX5_readLine 142 = .ok (.iconst 0, 1) := by decide +kernel
theorem dX5_readLine_143 : decode cX5_readLine 143 = .ok (.ireturn, 1) := by decide +kernel
theorem dX5_readLine_144 : decode cX5_readLine 144 = .ok (.aload_n 0, 1) := by decide +kernel
theorem dX5_readLine_145 : decode cX5_readLine 145 = .ok (.iconst 1, 1) := by decide +kernel
theorem dX5_readLine_146 : decode cX5_readLine 146 = .ok (.invokevirtual 62, 3) := by decide +kernel
theorem dX5_readLine_149 : decode cX5_readLine 149 = .ok (.ireturn, 1) := by decide +kernel
theorem dX5_opens_0 : decode cX5_opens 0 = .ok (.iload_n 2, 1) := by decide +kernel
theorem dX5_opens_1 : decode cX5_opens 1 = .ok (.ifCond .ne 9, 3) := by decide +kernel
theorem dX5_opens_4 : decode cX5_opens 4 = .ok (.aload_n 0, 1) := by decide +kernel
theorem dX5_opens_5 : decode cX5_opens 5 = .ok (.iconst 5, 1) := by decide +kernel
theorem dX5_opens_6 : decode cX5_opens 6 = .ok (.invokevirtual 62, 3) := by decide +kernel
theorem dX5_opens_9 : decode cX5_opens 9 = .ok (.ireturn, 1) := by decide +kernel
theorem dX5_opens_10 : decode cX5_opens 10 = .ok (.aload_n 1, 1) := by decide +kernel
theorem dX5_opens_11 : decode cX5_opens 11 = .ok (.getfield 98, 3) := by decide +kernel
theorem dX5_opens_14 : decode cX5_opens 14 = .ok (.ifCond .ne 10, 3) := by decide +kernel
theorem dX5_opens_17 : decode cX5_opens 17 = .ok (.aload_n 0, 1) := by decide +kernel
theorem dX5_opens_18 : decode cX5_opens 18 = .ok (.bipush 6, 2) := by decide +kernel
theorem dX5_opens_20 : decode cX5_opens 20 = .ok (.invokevirtual 62, 3) := by decide +kernel
theorem dX5_opens_23 : decode cX5_opens 23 = .ok (.ireturn, 1) := by decide +kernel
theorem dX5_opens_24 : decode cX5_opens 24 = .ok (.aload_n 0, 1) := by decide +kernel
theorem dX5_opens_25 : decode cX5_opens 25 = .ok (.invokevirtual 52, 3) := by decide +kernel
theorem dX5_opens_28 : decode cX5_opens 28 = .ok (.iconst 1, 1) := by decide +kernel
theorem dX5_opens_29 : decode cX5_opens 29 = .ok (.ireturn, 1) := by decide +kernel
theorem dX5_readOrder_0 : decode cX5_readOrder 0 = .ok (.aload_n 1, 1) := by decide +kernel
theorem dX5_readOrder_1 : decode cX5_readOrder 1 = .ok (.getfield 98, 3) := by decide +kernel
theorem dX5_readOrder_4 : decode cX5_readOrder 4 = .ok (.ifCond .eq 9, 3) := by decide +kernel
theorem dX5_readOrder_7 : decode cX5_readOrder 7 = .ok (.aload_n 0, 1) := by decide +kernel
theorem dX5_readOrder_8 : decode cX5_readOrder 8 = .ok (.iconst 3, 1) := by decide +kernel
theorem dX5_readOrder_9 : decode cX5_readOrder 9 = .ok (.invokevirtual 62, 3) := by decide +kernel
theorem dX5_readOrder_12 : decode cX5_readOrder 12 = .ok (.ireturn, 1) := by decide +kernel
theorem dX5_readOrder_13 : decode cX5_readOrder 13 = .ok (.aload_n 0, 1) := by decide +kernel
theorem dX5_readOrder_14 : decode cX5_readOrder 14 = .ok (.ldc 66, 2) := by decide +kernel
theorem dX5_readOrder_16 : decode cX5_readOrder 16 = .ok (.invokevirtual 101, 3) := by decide +kernel
theorem dX5_readOrder_19 : decode cX5_readOrder 19 = .ok (.ifCond .eq 13, 3) := by decide +kernel
theorem dX5_readOrder_22 : decode cX5_readOrder 22 = .ok (.aload_n 0, 1) := by decide +kernel
theorem dX5_readOrder_23 : decode cX5_readOrder 23 = .ok (.iconst 1, 1) := by decide +kernel
theorem dX5_readOrder_24 : decode cX5_readOrder 24 = .ok (.bipush 120, 2) := by decide +kernel
theorem dX5_readOrder_26 : decode cX5_readOrder 26 = .ok (.invokevirtual 104, 3) := by decide +kernel
theorem dX5_readOrder_29 : decode cX5_readOrder 29 = .ok (.ifCond .ne 5, 3) := by decide +kernel
theorem dX5_readOrder_32 : decode cX5_readOrder 32 = .ok (.iconst 0, 1) := by decide +kernel
theorem dX5_readOrder_33 : decode cX5_readOrder 33 = .ok (.ireturn, 1) := by decide +kernel
theorem dX5_readOrder_34 : decode cX5_readOrder 34 = .ok (.aload_n 1, 1) := by decide +kernel
theorem dX5_readOrder_35 : decode cX5_readOrder 35 = .ok (.aload_n 0, 1) := by decide +kernel
theorem dX5_readOrder_36 : decode cX5_readOrder 36 = .ok (.getfield 44, 3) := by decide +kernel
theorem dX5_readOrder_39 : decode cX5_readOrder 39 = .ok (.putfield 98, 3) := by decide +kernel
theorem dX5_readOrder_42 : decode cX5_readOrder 42 = .ok (.aload_n 0, 1) := by decide +kernel
theorem dX5_readOrder_43 : decode cX5_readOrder 43 = .ok (.ldc 108, 2) := by decide +kernel
theorem dX5_readOrder_45 : decode cX5_readOrder 45 = .ok (.invokevirtual 101, 3) := by decide +kernel
theorem dX5_readOrder_48 : decode cX5_readOrder 48 = .ok (.ifCond .eq 14, 3) := by decide +kernel
theorem dX5_readOrder_51 : decode cX5_readOrder 51 = .ok (.aload_n 0, 1) := by decide +kernel
theorem dX5_readOrder_52 : decode cX5_readOrder 52 = .ok (.iconst 1, 1) := by decide +kernel
theorem dX5_readOrder_53 : decode cX5_readOrder 53 = .ok (.sipush 999, 3) := by decide +kernel
theorem dX5_readOrder_56 : decode cX5_readOrder 56 = .ok (.invokevirtual 104, 3) := by decide +kernel
theorem dX5_readOrder_59 : decode cX5_readOrder 59 = .ok (.ifCond .ne 5, 3) := by decide +kernel
theorem dX5_readOrder_62 : decode cX5_readOrder 62 = .ok (.iconst 0, 1) := by decide +kernel
theorem dX5_readOrder_63 : decode cX5_readOrder 63 = .ok (.ireturn, 1) := by decide +kernel
theorem dX5_readOrder_64 : decode cX5_readOrder 64 = .ok (.aload_n 1, 1) := by decide +kernel
theorem dX5_readOrder_65 : decode cX5_readOrder 65 = .ok (.aload_n 0, 1) := by decide +kernel
theorem dX5_readOrder_66 : decode cX5_readOrder 66 = .ok (.getfield 44, 3) := by decide +kernel
theorem dX5_readOrder_69 : decode cX5_readOrder 69 = .ok (.putfield 110, 3) := by decide +kernel
theorem dX5_readOrder_72 : decode cX5_readOrder 72 = .ok (.aload_n 0, 1) := by decide +kernel
theorem dX5_readOrder_73 : decode cX5_readOrder 73 = .ok (.ldc 112, 2) := by decide +kernel
theorem dX5_readOrder_75 : decode cX5_readOrder 75 = .ok (.invokevirtual 101, 3) := by decide +kernel
theorem dX5_readOrder_78 : decode cX5_readOrder 78 = .ok (.ifCond .eq 13, 3) := by decide +kernel
theorem dX5_readOrder_81 : decode cX5_readOrder 81 = .ok (.aload_n 0, 1) := by decide +kernel
theorem dX5_readOrder_82 : decode cX5_readOrder 82 = .ok (.iconst 1, 1) := by decide +kernel
theorem dX5_readOrder_83 : decode cX5_readOrder 83 = .ok (.bipush 20, 2) := by decide +kernel
theorem dX5_readOrder_85 : decode cX5_readOrder 85 = .ok (.invokevirtual 104, 3) := by decide +kernel
theorem dX5_readOrder_88 : decode cX5_readOrder 88 = .ok (.ifCond .ne 5, 3) := by decide +kernel
theorem dX5_readOrder_91 : decode cX5_readOrder 91 = .ok (.iconst 0, 1) := by decide +kernel
theorem dX5_readOrder_92 : decode cX5_readOrder 92 = .ok (.ireturn, 1) := by decide +kernel
theorem dX5_readOrder_93 : decode cX5_readOrder 93 = .ok (.aload_n 1, 1) := by decide +kernel
theorem dX5_readOrder_94 : decode cX5_readOrder 94 = .ok (.aload_n 0, 1) := by decide +kernel
theorem dX5_readOrder_95 : decode cX5_readOrder 95 = .ok (.getfield 44, 3) := by decide +kernel
theorem dX5_readOrder_98 : decode cX5_readOrder 98 = .ok (.putfield 114, 3) := by decide +kernel
theorem dX5_readOrder_101 : decode cX5_readOrder 101 = .ok (.iconst 1, 1) := by decide +kernel
theorem dX5_readOrder_102 : decode cX5_readOrder 102 = .ok (.ireturn, 1) := by decide +kernel
theorem dX5_readVenue_0 : decode cX5_readVenue 0 = .ok (.aload_n 0, 1) := by decide +kernel
theorem dX5_readVenue_1 : decode cX5_readVenue 1 = .ok (.invokevirtual 116, 3) := by decide +kernel
theorem dX5_readVenue_4 : decode cX5_readVenue 4 = .ok (.ifCond .ne 9, 3) := by decide +kernel
theorem dX5_readVenue_7 : decode cX5_readVenue 7 = .ok (.aload_n 0, 1) := by decide +kernel
theorem dX5_readVenue_8 : decode cX5_readVenue 8 = .ok (.iconst 1, 1) := by decide +kernel
theorem dX5_readVenue_9 : decode cX5_readVenue 9 = .ok (.invokevirtual 62, 3) := by decide +kernel
theorem dX5_readVenue_12 : decode cX5_readVenue 12 = .ok (.ireturn, 1) := by decide +kernel
theorem dX5_readVenue_13 : decode cX5_readVenue 13 = .ok (.aload_n 0, 1) := by decide +kernel
theorem dX5_readVenue_14 : decode cX5_readVenue 14 = .ok (.aload_n 0, 1) := by decide +kernel
theorem dX5_readVenue_15 : decode cX5_readVenue 15 = .ok (.getfield 41, 3) := by decide +kernel
theorem dX5_readVenue_18 : decode cX5_readVenue 18 = .ok (.aload_n 1, 1) := by decide +kernel
theorem dX5_readVenue_19 : decode cX5_readVenue 19 = .ok (.getfield 59, 3) := by decide +kernel
theorem dX5_readVenue_22 : decode cX5_readVenue 22 = .ok (.invokevirtual 120, 3) := by decide +kernel
theorem dX5_readVenue_25 : decode cX5_readVenue 25 = .ok (.iconst (-1), 1) := by decide +kernel
theorem dX5_readVenue_26 : decode cX5_readVenue 26 = .ok (.if_icmp .eq 9, 3) := by decide +kernel
theorem dX5_readVenue_29 : decode cX5_readVenue 29 = .ok (.aload_n 0, 1) := by decide +kernel
theorem dX5_readVenue_30 : decode cX5_readVenue 30 = .ok (.iconst 3, 1) := by decide +kernel
theorem dX5_readVenue_31 : decode cX5_readVenue 31 = .ok (.invokevirtual 62, 3) := by decide +kernel
theorem dX5_readVenue_34 : decode cX5_readVenue 34 = .ok (.ireturn, 1) := by decide +kernel
theorem dX5_readVenue_35 : decode cX5_readVenue 35 = .ok (.aload_n 0, 1) := by decide +kernel
theorem dX5_readVenue_36 : decode cX5_readVenue 36 = .ok (.getfield 25, 3) := by decide +kernel
theorem dX5_readVenue_39 : decode cX5_readVenue 39 = .ok (.iload_n 2, 1) := by decide +kernel
theorem dX5_readVenue_40 : decode cX5_readVenue 40 = .ok (.aload_n 0, 1) := by decide +kernel
theorem dX5_readVenue_41 : decode cX5_readVenue 41 = .ok (.getfield 41, 3) := by decide +kernel
theorem dX5_readVenue_44 : decode cX5_readVenue 44 = .ok (.iastore, 1) := by decide +kernel
theorem dX5_readVenue_45 : decode cX5_readVenue 45 = .ok (.aload_n 0, 1) := by decide +kernel
theorem dX5_readVenue_46 : decode cX5_readVenue 46 = .ok (.invokevirtual 52, 3) := by decide +kernel
theorem dX5_readVenue_49 : decode cX5_readVenue 49 = .ok (.aload_n 0, 1) := by decide +kernel
theorem dX5_readVenue_50 : decode cX5_readVenue 50 = .ok (.invokevirtual 124, 3) := by decide +kernel
theorem dX5_readVenue_53 : decode cX5_readVenue 53 = .ok (.ifCond .ne 5, 3) := by decide +kernel
theorem dX5_readVenue_56 : decode cX5_readVenue 56 = .ok (.iconst 0, 1) := by decide +kernel
theorem dX5_readVenue_57 : decode cX5_readVenue 57 = .ok (.ireturn, 1) := by decide +kernel
theorem dX5_readVenue_58 : decode cX5_readVenue 58 = .ok (.aload_n 1, 1) := by decide +kernel
theorem dX5_readVenue_59 : decode cX5_readVenue 59 = .ok (.getfield 127, 3) := by decide +kernel
theorem dX5_readVenue_62 : decode cX5_readVenue 62 = .ok (.iload_n 2, 1) := by decide +kernel
theorem dX5_readVenue_63 : decode cX5_readVenue 63 = .ok (.aload_n 0, 1) := by decide +kernel
theorem dX5_readVenue_64 : decode cX5_readVenue 64 = .ok (.getfield 44, 3) := by decide +kernel
theorem dX5_readVenue_67 : decode cX5_readVenue 67 = .ok (.iastore, 1) := by decide +kernel
theorem dX5_readVenue_68 : decode cX5_readVenue 68 = .ok (.aload_n 0, 1) := by decide +kernel
theorem dX5_readVenue_69 : decode cX5_readVenue 69 = .ok (.ldc 130, 2) := by decide +kernel
theorem dX5_readVenue_71 : decode cX5_readVenue 71 = .ok (.invokevirtual 101, 3) := by decide +kernel
theorem dX5_readVenue_74 : decode cX5_readVenue 74 = .ok (.ifCond .eq 13, 3) := by decide +kernel
theorem dX5_readVenue_77 : decode cX5_readVenue 77 = .ok (.aload_n 0, 1) := by decide +kernel
theorem dX5_readVenue_78 : decode cX5_readVenue 78 = .ok (.iconst 1, 1) := by decide +kernel
theorem dX5_readVenue_79 : decode cX5_readVenue 79 = .ok (.bipush 20, 2) := by decide +kernel
theorem dX5_readVenue_81 : decode cX5_readVenue 81 = .ok (.invokevirtual 104, 3) := by decide +kernel
theorem dX5_readVenue_84 : decode cX5_readVenue 84 = .ok (.ifCond .ne 5, 3) := by decide +kernel
theorem dX5_readVenue_87 : decode cX5_readVenue 87 = .ok (.iconst 0, 1) := by decide +kernel
theorem dX5_readVenue_88 : decode cX5_readVenue 88 = .ok (.ireturn, 1) := by decide +kernel
theorem dX5_readVenue_89 : decode cX5_readVenue 89 = .ok (.aload_n 1, 1) := by decide +kernel
theorem dX5_readVenue_90 : decode cX5_readVenue 90 = .ok (.getfield 132, 3) := by decide +kernel
theorem dX5_readVenue_93 : decode cX5_readVenue 93 = .ok (.iload_n 2, 1) := by decide +kernel
theorem dX5_readVenue_94 : decode cX5_readVenue 94 = .ok (.aload_n 0, 1) := by decide +kernel
theorem dX5_readVenue_95 : decode cX5_readVenue 95 = .ok (.getfield 44, 3) := by decide +kernel
theorem dX5_readVenue_98 : decode cX5_readVenue 98 = .ok (.iastore, 1) := by decide +kernel
theorem dX5_readVenue_99 : decode cX5_readVenue 99 = .ok (.aload_n 0, 1) := by decide +kernel
theorem dX5_readVenue_100 : decode cX5_readVenue 100 = .ok (.invokevirtual 135, 3) := by decide +kernel
theorem dX5_readVenue_103 : decode cX5_readVenue 103 = .ok (.ifCond .ne 5, 3) := by decide +kernel
theorem dX5_readVenue_106 : decode cX5_readVenue 106 = .ok (.iconst 0, 1) := by decide +kernel
theorem dX5_readVenue_107 : decode cX5_readVenue 107 = .ok (.ireturn, 1) := by decide +kernel
theorem dX5_readVenue_108 : decode cX5_readVenue 108 = .ok (.aload_n 1, 1) := by decide +kernel
theorem dX5_readVenue_109 : decode cX5_readVenue 109 = .ok (.getfield 138, 3) := by decide +kernel
theorem dX5_readVenue_112 : decode cX5_readVenue 112 = .ok (.iload_n 2, 1) := by decide +kernel
theorem dX5_readVenue_113 : decode cX5_readVenue 113 = .ok (.aload_n 0, 1) := by decide +kernel
theorem dX5_readVenue_114 : decode cX5_readVenue 114 = .ok (.getfield 44, 3) := by decide +kernel
theorem dX5_readVenue_117 : decode cX5_readVenue 117 = .ok (.iastore, 1) := by decide +kernel
theorem dX5_readVenue_118 : decode cX5_readVenue 118 = .ok (.aload_n 0, 1) := by decide +kernel
theorem dX5_readVenue_119 : decode cX5_readVenue 119 = .ok (.ldc 141, 2) := by decide +kernel
theorem dX5_readVenue_121 : decode cX5_readVenue 121 = .ok (.invokevirtual 101, 3) := by decide +kernel
theorem dX5_readVenue_124 : decode cX5_readVenue 124 = .ok (.ifCond .eq 14, 3) := by decide +kernel
theorem dX5_readVenue_127 : decode cX5_readVenue 127 = .ok (.aload_n 0, 1) := by decide +kernel
theorem dX5_readVenue_128 : decode cX5_readVenue 128 = .ok (.iconst 0, 1) := by decide +kernel
theorem dX5_readVenue_129 : decode cX5_readVenue 129 = .ok (.sipush 300, 3) := by decide +kernel
theorem dX5_readVenue_132 : decode cX5_readVenue 132 = .ok (.invokevirtual 104, 3) := by decide +kernel
theorem dX5_readVenue_135 : decode cX5_readVenue 135 = .ok (.ifCond .ne 5, 3) := by decide +kernel
theorem dX5_readVenue_138 : decode cX5_readVenue 138 = .ok (.iconst 0, 1) := by decide +kernel
theorem dX5_readVenue_139 : decode cX5_readVenue 139 = .ok (.ireturn, 1) := by decide +kernel
theorem dX5_readVenue_140 : decode cX5_readVenue 140 = .ok (.aload_n 1, 1) := by decide +kernel
theorem dX5_readVenue_141 : decode cX5_readVenue 141 = .ok (.getfield 143, 3) := by decide +kernel
theorem dX5_readVenue_144 : decode cX5_readVenue 144 = .ok (.iload_n 2, 1) := by decide +kernel
theorem dX5_readVenue_145 : decode cX5_readVenue 145 = .ok (.aload_n 0, 1) := by decide +kernel
theorem dX5_readVenue_146 : decode cX5_readVenue 146 = .ok (.getfield 44, 3) := by decide +kernel
theorem dX5_readVenue_149 : decode cX5_readVenue 149 = .ok (.iastore, 1) := by decide +kernel
theorem dX5_readVenue_150 : decode cX5_readVenue 150 = .ok (.aload_n 0, 1) := by decide +kernel
theorem dX5_readVenue_151 : decode cX5_readVenue 151 = .ok (.ldc 146, 2) := by decide +kernel
theorem dX5_readVenue_153 : decode cX5_readVenue 153 = .ok (.invokevirtual 101, 3) := by decide +kernel
theorem dX5_readVenue_156 : decode cX5_readVenue 156 = .ok (.ifCond .eq 13, 3) := by decide +kernel
theorem dX5_readVenue_159 : decode cX5_readVenue 159 = .ok (.aload_n 0, 1) := by decide +kernel
theorem dX5_readVenue_160 : decode cX5_readVenue 160 = .ok (.iconst 1, 1) := by decide +kernel
theorem dX5_readVenue_161 : decode cX5_readVenue 161 = .ok (.bipush 9, 2) := by decide +kernel
theorem dX5_readVenue_163 : decode cX5_readVenue 163 = .ok (.invokevirtual 104, 3) := by decide +kernel
theorem dX5_readVenue_166 : decode cX5_readVenue 166 = .ok (.ifCond .ne 5, 3) := by decide +kernel
theorem dX5_readVenue_169 : decode cX5_readVenue 169 = .ok (.iconst 0, 1) := by decide +kernel
theorem dX5_readVenue_170 : decode cX5_readVenue 170 = .ok (.ireturn, 1) := by decide +kernel
theorem dX5_readVenue_171 : decode cX5_readVenue 171 = .ok (.aload_n 1, 1) := by decide +kernel
theorem dX5_readVenue_172 : decode cX5_readVenue 172 = .ok (.getfield 148, 3) := by decide +kernel
theorem dX5_readVenue_175 : decode cX5_readVenue 175 = .ok (.iload_n 2, 1) := by decide +kernel
theorem dX5_readVenue_176 : decode cX5_readVenue 176 = .ok (.aload_n 0, 1) := by decide +kernel
theorem dX5_readVenue_177 : decode cX5_readVenue 177 = .ok (.getfield 44, 3) := by decide +kernel
theorem dX5_readVenue_180 : decode cX5_readVenue 180 = .ok (.iastore, 1) := by decide +kernel
theorem dX5_readVenue_181 : decode cX5_readVenue 181 = .ok (.aload_n 1, 1) := by decide +kernel
theorem dX5_readVenue_182 : decode cX5_readVenue 182 = .ok (.dup, 1) := by decide +kernel
theorem dX5_readVenue_183 : decode cX5_readVenue 183 = .ok (.getfield 59, 3) := by decide +kernel
theorem dX5_readVenue_186 : decode cX5_readVenue 186 = .ok (.iconst 1, 1) := by decide +kernel
theorem dX5_readVenue_187 : decode cX5_readVenue 187 = .ok (.iadd, 1) := by decide +kernel
theorem dX5_readVenue_188 : decode cX5_readVenue 188 = .ok (.putfield 59, 3) := by decide +kernel
theorem dX5_readVenue_191 : decode cX5_readVenue 191 = .ok (.iconst 1, 1) := by decide +kernel
theorem dX5_readVenue_192 : decode cX5_readVenue 192 = .ok (.ireturn, 1) := by decide +kernel
theorem dX5_readLevel_0 : decode cX5_readLevel 0 = .ok (.aload_n 0, 1) := by decide +kernel
theorem dX5_readLevel_1 : decode cX5_readLevel 1 = .ok (.aload_n 1, 1) := by decide +kernel
theorem dX5_readLevel_2 : decode cX5_readLevel 2 = .ok (.invokevirtual 151, 3) := by decide +kernel
theorem dX5_readLevel_5 : decode cX5_readLevel 5 = .ok (.ifCond .ne 5, 3) := by decide +kernel
theorem dX5_readLevel_8 : decode cX5_readLevel 8 = .ok (.iconst 0, 1) := by decide +kernel
theorem dX5_readLevel_9 : decode cX5_readLevel 9 = .ok (.ireturn, 1) := by decide +kernel
theorem dX5_readLevel_10 : decode cX5_readLevel 10 = .ok (.aload_n 0, 1) := by decide +kernel
theorem dX5_readLevel_11 : decode cX5_readLevel 11 = .ok (.getfield 44, 3) := by decide +kernel
theorem dX5_readLevel_14 : decode cX5_readLevel 14 = .ok (.istore_n 2, 1) := by decide +kernel
theorem dX5_readLevel_15 : decode cX5_readLevel 15 = .ok (.aload_n 1, 1) := by decide +kernel
theorem dX5_readLevel_16 : decode cX5_readLevel 16 = .ok (.getfield 154, 3) := by decide +kernel
theorem dX5_readLevel_19 : decode cX5_readLevel 19 = .ok (.iload_n 2, 1) := by decide +kernel
theorem dX5_readLevel_20 : decode cX5_readLevel 20 = .ok (.iaload, 1) := by decide +kernel
theorem dX5_readLevel_21 : decode cX5_readLevel 21 = .ok (.istore_n 3, 1) := by decide +kernel
theorem dX5_readLevel_22 : decode cX5_readLevel 22 = .ok (.iload_n 3, 1) := by decide +kernel
theorem dX5_readLevel_23 : decode cX5_readLevel 23 = .ok (.bipush 6, 2) := by decide +kernel
theorem dX5_readLevel_25 : decode cX5_readLevel 25 = .ok (.if_icmp .lt 9, 3) := by decide +kernel
theorem dX5_readLevel_28 : decode cX5_readLevel 28 = .ok (.aload_n 0, 1) := by decide +kernel
theorem dX5_readLevel_29 : decode cX5_readLevel 29 = .ok (.iconst 5, 1) := by decide +kernel
theorem dX5_readLevel_30 : decode cX5_readLevel 30 = .ok (.invokevirtual 62, 3) := by decide +kernel
theorem dX5_readLevel_33 : decode cX5_readLevel 33 = .ok (.ireturn, 1) := by decide +kernel
theorem dX5_readLevel_34 : decode cX5_readLevel 34 = .ok (.aload_n 0, 1) := by decide +kernel
theorem dX5_readLevel_35 : decode cX5_readLevel 35 = .ok (.invokevirtual 52, 3) := by decide +kernel
theorem dX5_readLevel_38 : decode cX5_readLevel 38 = .ok (.iload_n 3, 1) := by decide +kernel
theorem dX5_readLevel_39 : decode cX5_readLevel 39 = .ok (.ifCond .le 18, 3) := by decide +kernel
theorem dX5_readLevel_42 : decode cX5_readLevel 42 = .ok (.aload_n 1, 1) := by decide +kernel
theorem dX5_readLevel_43 : decode cX5_readLevel 43 = .ok (.getfield 157, 3) := by decide +kernel
theorem dX5_readLevel_46 : decode cX5_readLevel 46 = .ok (.iload_n 2, 1) := by decide +kernel
theorem dX5_readLevel_47 : decode cX5_readLevel 47 = .ok (.iload_n 3, 1) := by decide +kernel
theorem dX5_readLevel_48 : decode cX5_readLevel 48 = .ok (.iconst 1, 1) := by decide +kernel
theorem dX5_readLevel_49 : decode cX5_readLevel 49 = .ok (.isub, 1) := by decide +kernel
theorem dX5_readLevel_50 : decode cX5_readLevel 50 = .ok (.invokestatic 160, 3) := by decide +kernel
theorem dX5_readLevel_53 : decode cX5_readLevel 53 = .ok (.iaload, 1) := by decide +kernel
theorem dX5_readLevel_54 : decode cX5_readLevel 54 = .ok (.goto 4, 3) := by decide +kernel
theorem dX5_readLevel_57 : decode cX5_readLevel 57 = .ok (.iconst 0, 1) := by decide +kernel
theorem dX5_readLevel_58 : decode cX5_readLevel 58 = .ok (.istore 4, 2) := by decide +kernel
theorem dX5_readLevel_60 : decode cX5_readLevel 60 = .ok (.aload_n 0, 1) := by decide +kernel
theorem dX5_readLevel_61 : decode cX5_readLevel 61 = .ok (.iload 4, 2) := by decide +kernel
theorem dX5_readLevel_63 : decode cX5_readLevel 63 = .ok (.iconst 1, 1) := by decide +kernel
theorem dX5_readLevel_64 : decode cX5_readLevel 64 = .ok (.iadd, 1) := by decide +kernel
theorem dX5_readLevel_65 : decode cX5_readLevel 65 = .ok (.sipush 999, 3) := by decide +kernel
theorem dX5_readLevel_68 : decode cX5_readLevel 68 = .ok (.invokevirtual 104, 3) := by decide +kernel
theorem dX5_readLevel_71 : decode cX5_readLevel 71 = .ok (.ifCond .ne 5, 3) := by decide +kernel
theorem dX5_readLevel_74 : decode cX5_readLevel 74 = .ok (.iconst 0, 1) := by decide +kernel
theorem dX5_readLevel_75 : decode cX5_readLevel 75 = .ok (.ireturn, 1) := by decide +kernel
theorem dX5_readLevel_76 : decode cX5_readLevel 76 = .ok (.aload_n 1, 1) := by decide +kernel
theorem dX5_readLevel_77 : decode cX5_readLevel 77 = .ok (.getfield 157, 3) := by decide +kernel
theorem dX5_readLevel_80 : decode cX5_readLevel 80 = .ok (.iload_n 2, 1) := by decide +kernel
theorem dX5_readLevel_81 : decode cX5_readLevel 81 = .ok (.iload_n 3, 1) := by decide +kernel
theorem dX5_readLevel_82 : decode cX5_readLevel 82 = .ok (.invokestatic 160, 3) := by decide +kernel
theorem dX5_readLevel_85 : decode cX5_readLevel 85 = .ok (.aload_n 0, 1) := by decide +kernel
theorem dX5_readLevel_86 : decode cX5_readLevel 86 = .ok (.getfield 44, 3) := by decide +kernel
theorem dX5_readLevel_89 : decode cX5_readLevel 89 = .ok (.iastore, 1) := by decide +kernel
theorem dX5_readLevel_90 : decode cX5_readLevel 90 = .ok (.aload_n 0, 1) := by decide +kernel
theorem dX5_readLevel_91 : decode cX5_readLevel 91 = .ok (.iconst 1, 1) := by decide +kernel
theorem dX5_readLevel_92 : decode cX5_readLevel 92 = .ok (.bipush 99, 2) := by decide +kernel
theorem dX5_readLevel_94 : decode cX5_readLevel 94 = .ok (.invokevirtual 104, 3) := by decide +kernel
theorem dX5_readLevel_97 : decode cX5_readLevel 97 = .ok (.ifCond .ne 5, 3) := by decide +kernel
theorem dX5_readLevel_100 : decode cX5_readLevel 100 = .ok (.iconst 0, 1) := by decide +kernel
theorem dX5_readLevel_101 : decode cX5_readLevel 101 = .ok (.ireturn, 1) := by decide +kernel
theorem dX5_readLevel_102 : decode cX5_readLevel 102 = .ok (.aload_n 1, 1) := by decide +kernel
theorem dX5_readLevel_103 : decode cX5_readLevel 103 = .ok (.getfield 163, 3) := by decide +kernel
theorem dX5_readLevel_106 : decode cX5_readLevel 106 = .ok (.iload_n 2, 1) := by decide +kernel
theorem dX5_readLevel_107 : decode cX5_readLevel 107 = .ok (.iload_n 3, 1) := by decide +kernel
theorem dX5_readLevel_108 : decode cX5_readLevel 108 = .ok (.invokestatic 160, 3) := by decide +kernel
theorem dX5_readLevel_111 : decode cX5_readLevel 111 = .ok (.aload_n 0, 1) := by decide +kernel
theorem dX5_readLevel_112 : decode cX5_readLevel 112 = .ok (.getfield 44, 3) := by decide +kernel
theorem dX5_readLevel_115 : decode cX5_readLevel 115 = .ok (.iastore, 1) := by decide +kernel
theorem dX5_readLevel_116 : decode cX5_readLevel 116 = .ok (.aload_n 1, 1) := by decide +kernel
theorem dX5_readLevel_117 : decode cX5_readLevel 117 = .ok (.getfield 154, 3) := by decide +kernel
theorem dX5_readLevel_120 : decode cX5_readLevel 120 = .ok (.iload_n 2, 1) := by decide +kernel
theorem dX5_readLevel_121 : decode cX5_readLevel 121 = .ok (.dup2, 1) := by decide +kernel
theorem dX5_readLevel_122 : decode cX5_readLevel 122 = .ok (.iaload, 1) := by decide +kernel
theorem dX5_readLevel_123 : decode cX5_readLevel 123 = .ok (.iconst 1, 1) := by decide +kernel
theorem dX5_readLevel_124 : decode cX5_readLevel 124 = .ok (.iadd, 1) := by decide +kernel
theorem dX5_readLevel_125 : decode cX5_readLevel 125 = .ok (.iastore, 1) := by decide +kernel
theorem dX5_readLevel_126 : decode cX5_readLevel 126 = .ok (.iconst 1, 1) := by decide +kernel
theorem dX5_readLevel_127 : decode cX5_readLevel 127 = .ok (.ireturn, 1) := by decide +kernel
theorem dX5_readEvent_0 : decode cX5_readEvent 0 = .ok (.iload_n 2, 1) := by decide +kernel
theorem dX5_readEvent_1 : decode cX5_readEvent 1 = .ok (.ifCond .le 14, 3) := by decide +kernel
theorem dX5_readEvent_4 : decode cX5_readEvent 4 = .ok (.aload_n 1, 1) := by decide +kernel
theorem dX5_readEvent_5 : decode cX5_readEvent 5 = .ok (.getfield 166, 3) := by decide +kernel
theorem dX5_readEvent_8 : decode cX5_readEvent 8 = .ok (.iload_n 2, 1) := by decide +kernel
theorem dX5_readEvent_9 : decode cX5_readEvent 9 = .ok (.iconst 1, 1) := by decide +kernel
theorem dX5_readEvent_10 : decode cX5_readEvent 10 = .ok (.isub, 1) := by decide +kernel
theorem dX5_readEvent_11 : decode cX5_readEvent 11 = .ok (.iaload, 1) := by decide +kernel
theorem dX5_readEvent_12 : decode cX5_readEvent 12 = .ok (.goto 4, 3) := by decide +kernel
theorem dX5_readEvent_15 : decode cX5_readEvent 15 = .ok (.iconst 1, 1) := by decide +kernel
theorem dX5_readEvent_16 : decode cX5_readEvent 16 = .ok (.istore_n 3, 1) := by decide +kernel
theorem dX5_readEvent_17 : decode cX5_readEvent 17 = .ok (.aload_n 0, 1) := by decide +kernel
theorem dX5_readEvent_18 : decode cX5_readEvent 18 = .ok (.iload_n 3, 1) := by decide +kernel
theorem dX5_readEvent_19 : decode cX5_readEvent 19 = .ok (.sipush 200, 3) := by decide +kernel
theorem dX5_readEvent_22 : decode cX5_readEvent 22 = .ok (.invokevirtual 104, 3) := by decide +kernel
theorem dX5_readEvent_25 : decode cX5_readEvent 25 = .ok (.ifCond .ne 5, 3) := by decide +kernel
theorem dX5_readEvent_28 : decode cX5_readEvent 28 = .ok (.iconst 0, 1) := by decide +kernel
theorem dX5_readEvent_29 : decode cX5_readEvent 29 = .ok (.ireturn, 1) := by decide +kernel
theorem dX5_readEvent_30 : decode cX5_readEvent 30 = .ok (.aload_n 1, 1) := by decide +kernel
theorem dX5_readEvent_31 : decode cX5_readEvent 31 = .ok (.getfield 166, 3) := by decide +kernel
theorem dX5_readEvent_34 : decode cX5_readEvent 34 = .ok (.iload_n 2, 1) := by decide +kernel
theorem dX5_readEvent_35 : decode cX5_readEvent 35 = .ok (.aload_n 0, 1) := by decide +kernel
theorem dX5_readEvent_36 : decode cX5_readEvent 36 = .ok (.getfield 44, 3) := by decide +kernel
theorem dX5_readEvent_39 : decode cX5_readEvent 39 = .ok (.iastore, 1) := by decide +kernel
theorem dX5_readEvent_40 : decode cX5_readEvent 40 = .ok (.aload_n 0, 1) := by decide +kernel
theorem dX5_readEvent_41 : decode cX5_readEvent 41 = .ok (.aload_n 1, 1) := by decide +kernel
theorem dX5_readEvent_42 : decode cX5_readEvent 42 = .ok (.invokevirtual 151, 3) := by decide +kernel
theorem dX5_readEvent_45 : decode cX5_readEvent 45 = .ok (.ifCond .ne 5, 3) := by decide +kernel
theorem dX5_readEvent_48 : decode cX5_readEvent 48 = .ok (.iconst 0, 1) := by decide +kernel
theorem dX5_readEvent_49 : decode cX5_readEvent 49 = .ok (.ireturn, 1) := by decide +kernel
theorem dX5_readEvent_50 : decode cX5_readEvent 50 = .ok (.aload_n 0, 1) := by decide +kernel
theorem dX5_readEvent_51 : decode cX5_readEvent 51 = .ok (.getfield 44, 3) := by decide +kernel
theorem dX5_readEvent_54 : decode cX5_readEvent 54 = .ok (.istore 4, 2) := by decide +kernel
theorem dX5_readEvent_56 : decode cX5_readEvent 56 = .ok (.aload_n 0, 1) := by decide +kernel
theorem dX5_readEvent_57 : decode cX5_readEvent 57 = .ok (.invokevirtual 52, 3) := by decide +kernel
theorem dX5_readEvent_60 : decode cX5_readEvent 60 = .ok (.aload_n 0, 1) := by decide +kernel
theorem dX5_readEvent_61 : decode cX5_readEvent 61 = .ok (.iconst 0, 1) := by decide +kernel
theorem dX5_readEvent_62 : decode cX5_readEvent 62 = .ok (.aload_n 1, 1) := by decide +kernel
theorem dX5_readEvent_63 : decode cX5_readEvent 63 = .ok (.getfield 154, 3) := by decide +kernel
theorem dX5_readEvent_66 : decode cX5_readEvent 66 = .ok (.iload 4, 2) := by decide +kernel
theorem dX5_readEvent_68 : decode cX5_readEvent 68 = .ok (.iaload, 1) := by decide +kernel
theorem dX5_readEvent_69 : decode cX5_readEvent 69 = .ok (.iconst 1, 1) := by decide +kernel
theorem dX5_readEvent_70 : decode cX5_readEvent 70 = .ok (.isub, 1) := by decide +kernel
theorem dX5_readEvent_71 : decode cX5_readEvent 71 = .ok (.invokevirtual 104, 3) := by decide +kernel
theorem dX5_readEvent_74 : decode cX5_readEvent 74 = .ok (.ifCond .ne 5, 3) := by decide +kernel
theorem dX5_readEvent_77 : decode cX5_readEvent 77 = .ok (.iconst 0, 1) := by decide +kernel
theorem dX5_readEvent_78 : decode cX5_readEvent 78 = .ok (.ireturn, 1) := by decide +kernel
theorem dX5_readEvent_79 : decode cX5_readEvent 79 = .ok (.aload_n 1, 1) := by decide +kernel
theorem dX5_readEvent_80 : decode cX5_readEvent 80 = .ok (.getfield 169, 3) := by decide +kernel
theorem dX5_readEvent_83 : decode cX5_readEvent 83 = .ok (.iload_n 2, 1) := by decide +kernel
theorem dX5_readEvent_84 : decode cX5_readEvent 84 = .ok (.iload 4, 2) := by decide +kernel
theorem dX5_readEvent_86 : decode cX5_readEvent 86 = .ok (.aload_n 0, 1) := by decide +kernel
theorem dX5_readEvent_87 : decode cX5_readEvent 87 = .ok (.getfield 44, 3) := by decide +kernel
theorem dX5_readEvent_90 : decode cX5_readEvent 90 = .ok (.invokestatic 160, 3) := by decide +kernel
theorem dX5_readEvent_93 : decode cX5_readEvent 93 = .ok (.iastore, 1) := by decide +kernel
theorem dX5_readEvent_94 : decode cX5_readEvent 94 = .ok (.aload_n 0, 1) := by decide +kernel
theorem dX5_readEvent_95 : decode cX5_readEvent 95 = .ok (.iconst 0, 1) := by decide +kernel
theorem dX5_readEvent_96 : decode cX5_readEvent 96 = .ok (.bipush 99, 2) := by decide +kernel
theorem dX5_readEvent_98 : decode cX5_readEvent 98 = .ok (.invokevirtual 104, 3) := by decide +kernel
theorem dX5_readEvent_101 : decode cX5_readEvent 101 = .ok (.ifCond .ne 5, 3) := by decide +kernel
theorem dX5_readEvent_104 : decode cX5_readEvent 104 = .ok (.iconst 0, 1) := by decide +kernel
theorem dX5_readEvent_105 : decode cX5_readEvent 105 = .ok (.ireturn, 1) := by decide +kernel
theorem dX5_readEvent_106 : decode cX5_readEvent 106 = .ok (.aload_n 1, 1) := by decide +kernel
theorem dX5_readEvent_107 : decode cX5_readEvent 107 = .ok (.getfield 172, 3) := by decide +kernel
theorem dX5_readEvent_110 : decode cX5_readEvent 110 = .ok (.iload_n 2, 1) := by decide +kernel
theorem dX5_readEvent_111 : decode cX5_readEvent 111 = .ok (.aload_n 0, 1) := by decide +kernel
theorem dX5_readEvent_112 : decode cX5_readEvent 112 = .ok (.getfield 44, 3) := by decide +kernel
theorem dX5_readEvent_115 : decode cX5_readEvent 115 = .ok (.iastore, 1) := by decide +kernel
theorem dX5_readEvent_116 : decode cX5_readEvent 116 = .ok (.aload_n 1, 1) := by decide +kernel
theorem dX5_readEvent_117 : decode cX5_readEvent 117 = .ok (.dup, 1) := by decide +kernel
theorem dX5_readEvent_118 : decode cX5_readEvent 118 = .ok (.getfield 92, 3) := by decide +kernel
theorem dX5_readEvent_121 : decode cX5_readEvent 121 = .ok (.iconst 1, 1) := by decide +kernel
theorem dX5_readEvent_122 : decode cX5_readEvent 122 = .ok (.iadd, 1) := by decide +kernel
theorem dX5_readEvent_123 : decode cX5_readEvent 123 = .ok (.putfield 92, 3) := by decide +kernel
theorem dX5_readEvent_126 : decode cX5_readEvent 126 = .ok (.iconst 1, 1) := by decide +kernel
theorem dX5_readEvent_127 : decode cX5_readEvent 127 = .ok (.ireturn, 1) := by decide +kernel
theorem dX5_takesKind_0 : decode cX5_takesKind 0 = .ok (.aload_n 0, 1) := by decide +kernel
theorem dX5_takesKind_1 : decode cX5_takesKind 1 = .ok (.ldc 175, 2) := by decide +kernel
theorem dX5_takesKind_3 : decode cX5_takesKind 3 = .ok (.invokevirtual 68, 3) := by decide +kernel
theorem dX5_takesKind_6 : decode cX5_takesKind 6 = .ok (.ifCond .eq 11, 3) := by decide +kernel
theorem dX5_takesKind_9 : decode cX5_takesKind 9 = .ok (.aload_n 0, 1) := by decide +kernel
theorem dX5_takesKind_10 : decode cX5_takesKind 10 = .ok (.iconst 0, 1) := by decide +kernel
theorem dX5_takesKind_11 : decode cX5_takesKind 11 = .ok (.putfield 44, 3) := by decide +kernel
theorem dX5_takesKind_14 : decode cX5_takesKind 14 = .ok (.goto 43, 3) := by decide +kernel
theorem dX5_takesKind_17 : decode cX5_takesKind 17 = .ok (.aload_n 0, 1) := by decide +kernel
theorem dX5_takesKind_18 : decode cX5_takesKind 18 = .ok (.ldc 177, 2) := by decide +kernel
theorem dX5_takesKind_20 : decode cX5_takesKind 20 = .ok (.invokevirtual 68, 3) := by decide +kernel
theorem dX5_takesKind_23 : decode cX5_takesKind 23 = .ok (.ifCond .eq 11, 3) := by decide +kernel
theorem dX5_takesKind_26 : decode cX5_takesKind 26 = .ok (.aload_n 0, 1) := by decide +kernel
theorem dX5_takesKind_27 : decode cX5_takesKind 27 = .ok (.iconst 1, 1) := by decide +kernel
theorem dX5_takesKind_28 : decode cX5_takesKind 28 = .ok (.putfield 44, 3) := by decide +kernel
theorem dX5_takesKind_31 : decode cX5_takesKind 31 = .ok (.goto 26, 3) := by decide +kernel
theorem dX5_takesKind_34 : decode cX5_takesKind 34 = .ok (.aload_n 0, 1) := by decide +kernel
theorem dX5_takesKind_35 : decode cX5_takesKind 35 = .ok (.ldc 179, 2) := by decide +kernel
theorem dX5_takesKind_37 : decode cX5_takesKind 37 = .ok (.invokevirtual 68, 3) := by decide +kernel
theorem dX5_takesKind_40 : decode cX5_takesKind 40 = .ok (.ifCond .eq 11, 3) := by decide +kernel
theorem dX5_takesKind_43 : decode cX5_takesKind 43 = .ok (.aload_n 0, 1) := by decide +kernel
theorem dX5_takesKind_44 : decode cX5_takesKind 44 = .ok (.iconst 2, 1) := by decide +kernel
theorem dX5_takesKind_45 : decode cX5_takesKind 45 = .ok (.putfield 44, 3) := by decide +kernel
theorem dX5_takesKind_48 : decode cX5_takesKind 48 = .ok (.goto 9, 3) := by decide +kernel
theorem dX5_takesKind_51 : decode cX5_takesKind 51 = .ok (.aload_n 0, 1) := by decide +kernel
theorem dX5_takesKind_52 : decode cX5_takesKind 52 = .ok (.iconst 1, 1) := by decide +kernel
theorem dX5_takesKind_53 : decode cX5_takesKind 53 = .ok (.invokevirtual 62, 3) := by decide +kernel
theorem dX5_takesKind_56 : decode cX5_takesKind 56 = .ok (.ireturn, 1) := by decide +kernel
theorem dX5_takesKind_57 : decode cX5_takesKind 57 = .ok (.aload_n 0, 1) := by decide +kernel
theorem dX5_takesKind_58 : decode cX5_takesKind 58 = .ok (.invokevirtual 52, 3) := by decide +kernel
theorem dX5_takesKind_61 : decode cX5_takesKind 61 = .ok (.iconst 1, 1) := by decide +kernel
theorem dX5_takesKind_62 : decode cX5_takesKind 62 = .ok (.ireturn, 1) := by decide +kernel
theorem dX5_takesFee_0 : decode cX5_takesFee 0 = .ok (.aload_n 0, 1) := by decide +kernel
theorem dX5_takesFee_1 : decode cX5_takesFee 1 = .ok (.ldc 181, 2) := by decide +kernel
theorem dX5_takesFee_3 : decode cX5_takesFee 3 = .ok (.invokevirtual 101, 3) := by decide +kernel
theorem dX5_takesFee_6 : decode cX5_takesFee 6 = .ok (.ifCond .ne 5, 3) := by decide +kernel
theorem dX5_takesFee_9 : decode cX5_takesFee 9 = .ok (.iconst 0, 1) := by decide +kernel
theorem dX5_takesFee_10 : decode cX5_takesFee 10 = .ok (.ireturn, 1) := by decide +kernel
theorem dX5_takesFee_11 : decode cX5_takesFee 11 = .ok (.aload_n 0, 1) := by decide +kernel
theorem dX5_takesFee_12 : decode cX5_takesFee 12 = .ok (.getfield 35, 3) := by decide +kernel
theorem dX5_takesFee_15 : decode cX5_takesFee 15 = .ok (.iconst 4, 1) := by decide +kernel
theorem dX5_takesFee_16 : decode cX5_takesFee 16 = .ok (.if_icmp .ne 7, 3) := by decide +kernel
theorem dX5_takesFee_19 : decode cX5_takesFee 19 = .ok (.iconst 1, 1) := by decide +kernel
theorem dX5_takesFee_20 : decode cX5_takesFee 20 = .ok (.goto 4, 3) := by decide +kernel
theorem dX5_takesFee_23 : decode cX5_takesFee 23 = .ok (.iconst 0, 1) := by decide +kernel
theorem dX5_takesFee_24 : decode cX5_takesFee 24 = .ok (.istore_n 1, 1) := by decide +kernel
theorem dX5_takesFee_25 : decode cX5_takesFee 25 = .ok (.iload_n 1, 1) := by decide +kernel
theorem dX5_takesFee_26 : decode cX5_takesFee 26 = .ok (.ifCond .eq 7, 3) := by decide +kernel
theorem dX5_takesFee_29 : decode cX5_takesFee 29 = .ok (.aload_n 0, 1) := by decide +kernel
theorem dX5_takesFee_30 : decode cX5_takesFee 30 = .ok (.invokevirtual 52, 3) := by decide +kernel
theorem dX5_takesFee_33 : decode cX5_takesFee 33 = .ok (.aload_n 0, 1) := by decide +kernel
theorem dX5_takesFee_34 : decode cX5_takesFee 34 = .ok (.iconst 0, 1) := by decide +kernel
theorem dX5_takesFee_35 : decode cX5_takesFee 35 = .ok (.bipush 9, 2) := by decide +kernel
theorem dX5_takesFee_37 : decode cX5_takesFee 37 = .ok (.invokevirtual 104, 3) := by decide +kernel
theorem dX5_takesFee_40 : decode cX5_takesFee 40 = .ok (.ifCond .ne 5, 3) := by decide +kernel
theorem dX5_takesFee_43 : decode cX5_takesFee 43 = .ok (.iconst 0, 1) := by decide +kernel
theorem dX5_takesFee_44 : decode cX5_takesFee 44 = .ok (.ireturn, 1) := by decide +kernel
theorem dX5_takesFee_45 : decode cX5_takesFee 45 = .ok (.aload_n 0, 1) := by decide +kernel
theorem dX5_takesFee_46 : decode cX5_takesFee 46 = .ok (.iload_n 1, 1) := by decide +kernel
theorem dX5_takesFee_47 : decode cX5_takesFee 47 = .ok (.ifCond .eq 11, 3) := by decide +kernel
theorem dX5_takesFee_50 : decode cX5_takesFee 50 = .ok (.aload_n 0, 1) := by decide +kernel
theorem dX5_takesFee_51 : decode cX5_takesFee 51 = .ok (.getfield 44, 3) := by decide +kernel
theorem dX5_takesFee_54 : decode cX5_takesFee 54 = .ok (.ineg, 1) := by decide +kernel
theorem dX5_takesFee_55 : decode cX5_takesFee 55 = .ok (.goto 7, 3) := by decide +kernel
theorem dX5_takesFee_58 : decode cX5_takesFee 58 = .ok (.aload_n 0, 1) := by decide +kernel
theorem dX5_takesFee_59 : decode cX5_takesFee 59 = .ok (.getfield 44, 3) := by decide +kernel
theorem dX5_takesFee_62 : decode cX5_takesFee 62 = .ok (.putfield 44, 3) := by decide +kernel
theorem dX5_takesFee_65 : decode cX5_takesFee 65 = .ok (.iconst 1, 1) := by decide +kernel
theorem dX5_takesFee_66 : decode cX5_takesFee 66 = .ok (.ireturn, 1) := by decide +kernel
theorem dX5_takesWord_0 : decode cX5_takesWord 0 = .ok (.aload_n 0, 1) := by decide +kernel
theorem dX5_takesWord_1 : decode cX5_takesWord 1 = .ok (.aload_n 1, 1) := by decide +kernel
theorem dX5_takesWord_2 : decode cX5_takesWord 2 = .ok (.invokevirtual 68, 3) := by decide +kernel
theorem dX5_takesWord_5 : decode cX5_takesWord 5 = .ok (.ifCond .ne 9, 3) := by decide +kernel
theorem dX5_takesWord_8 : decode cX5_takesWord 8 = .ok (.aload_n 0, 1) := by decide +kernel
theorem dX5_takesWord_9 : decode cX5_takesWord 9 = .ok (.iconst 1, 1) := by decide +kernel
theorem dX5_takesWord_10 : decode cX5_takesWord 10 = .ok (.invokevirtual 62, 3) := by decide +kernel
theorem dX5_takesWord_13 : decode cX5_takesWord 13 = .ok (.ireturn, 1) := by decide +kernel
theorem dX5_takesWord_14 : decode cX5_takesWord 14 = .ok (.aload_n 0, 1) := by decide +kernel
theorem dX5_takesWord_15 : decode cX5_takesWord 15 = .ok (.invokevirtual 52, 3) := by decide +kernel
theorem dX5_takesWord_18 : decode cX5_takesWord 18 = .ok (.iconst 1, 1) := by decide +kernel
theorem dX5_takesWord_19 : decode cX5_takesWord 19 = .ok (.ireturn, 1) := by decide +kernel
theorem dX5_takesWhole_0 : decode cX5_takesWhole 0 = .ok (.aload_n 0, 1) := by decide +kernel
theorem dX5_takesWhole_1 : decode cX5_takesWhole 1 = .ok (.getfield 35, 3) := by decide +kernel
theorem dX5_takesWhole_4 : decode cX5_takesWhole 4 = .ok (.iconst 2, 1) := by decide +kernel
theorem dX5_takesWhole_5 : decode cX5_takesWhole 5 = .ok (.if_icmp .eq 9, 3) := by decide +kernel
theorem dX5_takesWhole_8 : decode cX5_takesWhole 8 = .ok (.aload_n 0, 1) := by decide +kernel
theorem dX5_takesWhole_9 : decode cX5_takesWhole 9 = .ok (.iconst 1, 1) := by decide +kernel
theorem dX5_takesWhole_10 : decode cX5_takesWhole 10 = .ok (.invokevirtual 62, 3) := by decide +kernel
theorem dX5_takesWhole_13 : decode cX5_takesWhole 13 = .ok (.ireturn, 1) := by decide +kernel
theorem dX5_takesWhole_14 : decode cX5_takesWhole 14 = .ok (.aload_n 0, 1) := by decide +kernel
theorem dX5_takesWhole_15 : decode cX5_takesWhole 15 = .ok (.getfield 41, 3) := by decide +kernel
theorem dX5_takesWhole_18 : decode cX5_takesWhole 18 = .ok (.iload_n 1, 1) := by decide +kernel
theorem dX5_takesWhole_19 : decode cX5_takesWhole 19 = .ok (.if_icmp .lt 11, 3) := by decide +kernel
theorem dX5_takesWhole_22 : decode cX5_takesWhole 22 = .ok (.aload_n 0, 1) := by decide +kernel
theorem dX5_takesWhole_23 : decode cX5_takesWhole 23 = .ok (.getfield 41, 3) := by decide +kernel
theorem dX5_takesWhole_26 : decode cX5_takesWhole 26 = .ok (.iload_n 2, 1) := by decide +kernel
theorem dX5_takesWhole_27 : decode cX5_takesWhole 27 = .ok (.if_icmp .le 9, 3) := by decide +kernel
theorem dX5_takesWhole_30 : decode cX5_takesWhole 30 = .ok (.aload_n 0, 1) := by decide +kernel
theorem dX5_takesWhole_31 : decode cX5_takesWhole 31 = .ok (.iconst 4, 1) := by decide +kernel
theorem dX5_takesWhole_32 : decode cX5_takesWhole 32 = .ok (.invokevirtual 62, 3) := by decide +kernel
theorem dX5_takesWhole_35 : decode cX5_takesWhole 35 = .ok (.ireturn, 1) := by decide +kernel
theorem dX5_takesWhole_36 : decode cX5_takesWhole 36 = .ok (.aload_n 0, 1) := by decide +kernel
theorem dX5_takesWhole_37 : decode cX5_takesWhole 37 = .ok (.aload_n 0, 1) := by decide +kernel
theorem dX5_takesWhole_38 : decode cX5_takesWhole 38 = .ok (.getfield 41, 3) := by decide +kernel
theorem dX5_takesWhole_41 : decode cX5_takesWhole 41 = .ok (.putfield 44, 3) := by decide +kernel
theorem dX5_takesWhole_44 : decode cX5_takesWhole 44 = .ok (.aload_n 0, 1) := by decide +kernel
theorem dX5_takesWhole_45 : decode cX5_takesWhole 45 = .ok (.invokevirtual 52, 3) := by decide +kernel
theorem dX5_takesWhole_48 : decode cX5_takesWhole 48 = .ok (.iconst 1, 1) := by decide +kernel
theorem dX5_takesWhole_49 : decode cX5_takesWhole 49 = .ok (.ireturn, 1) := by decide +kernel
theorem dX5_findsVenue_0 : decode cX5_findsVenue 0 = .ok (.aload_n 0, 1) := by decide +kernel
theorem dX5_findsVenue_1 : decode cX5_findsVenue 1 = .ok (.invokevirtual 116, 3) := by decide +kernel
theorem dX5_findsVenue_4 : decode cX5_findsVenue 4 = .ok (.ifCond .ne 9, 3) := by decide +kernel
theorem dX5_findsVenue_7 : decode cX5_findsVenue 7 = .ok (.aload_n 0, 1) := by decide +kernel
theorem dX5_findsVenue_8 : decode cX5_findsVenue 8 = .ok (.iconst 1, 1) := by decide +kernel
theorem dX5_findsVenue_9 : decode cX5_findsVenue 9 = .ok (.invokevirtual 62, 3) := by decide +kernel
theorem dX5_findsVenue_12 : decode cX5_findsVenue 12 = .ok (.ireturn, 1) := by decide +kernel
theorem dX5_findsVenue_13 : decode cX5_findsVenue 13 = .ok (.aload_n 0, 1) := by decide +kernel
theorem dX5_findsVenue_14 : decode cX5_findsVenue 14 = .ok (.aload_n 0, 1) := by decide +kernel
theorem dX5_findsVenue_15 : decode cX5_findsVenue 15 = .ok (.aload_n 0, 1) := by decide +kernel
theorem dX5_findsVenue_16 : decode cX5_findsVenue 16 = .ok (.getfield 41, 3) := by decide +kernel
theorem dX5_findsVenue_19 : decode cX5_findsVenue 19 = .ok (.aload_n 1, 1) := by decide +kernel
theorem dX5_findsVenue_20 : decode cX5_findsVenue 20 = .ok (.getfield 59, 3) := by decide +kernel
theorem dX5_findsVenue_23 : decode cX5_findsVenue 23 = .ok (.invokevirtual 120, 3) := by decide +kernel
theorem dX5_findsVenue_26 : decode cX5_findsVenue 26 = .ok (.putfield 44, 3) := by decide +kernel
theorem dX5_findsVenue_29 : decode cX5_findsVenue 29 = .ok (.aload_n 0, 1) := by decide +kernel
theorem dX5_findsVenue_30 : decode cX5_findsVenue 30 = .ok (.getfield 44, 3) := by decide +kernel
theorem dX5_findsVenue_33 : decode cX5_findsVenue 33 = .ok (.iconst (-1), 1) := by decide +kernel
theorem dX5_findsVenue_34 : decode cX5_findsVenue 34 = .ok (.if_icmp .ne 11, 3) := by decide +kernel
theorem dX5_findsVenue_37 : decode cX5_findsVenue 37 = .ok (.aload_n 0, 1) := by decide +kernel
theorem dX5_findsVenue_38 : decode cX5_findsVenue 38 = .ok (.iconst 2, 1) := by decide +kernel
theorem dX5_findsVenue_39 : decode cX5_findsVenue 39 = .ok (.invokevirtual 62, 3) := by decide +kernel
theorem dX5_findsVenue_42 : decode cX5_findsVenue 42 = .ok (.ifCond .eq 7, 3) := by decide +kernel
theorem dX5_findsVenue_45 : decode cX5_findsVenue 45 = .ok (.iconst 1, 1) := by decide +kernel
theorem dX5_findsVenue_46 : decode cX5_findsVenue 46 = .ok (.goto 4, 3) := by decide +kernel
theorem dX5_findsVenue_49 : decode cX5_findsVenue 49 = .ok (.iconst 0, 1) := by decide +kernel
theorem dX5_findsVenue_50 : decode cX5_findsVenue 50 = .ok (.ireturn, 1) := by decide +kernel
theorem dX5_venueNamed_0 : decode cX5_venueNamed 0 = .ok (.iconst 0, 1) := by decide +kernel
theorem dX5_venueNamed_1 : decode cX5_venueNamed 1 = .ok (.istore_n 3, 1) := by decide +kernel
theorem dX5_venueNamed_2 : decode cX5_venueNamed 2 = .ok (.iload_n 3, 1) := by decide +kernel
theorem dX5_venueNamed_3 : decode cX5_venueNamed 3 = .ok (.iload_n 2, 1) := by decide +kernel
theorem dX5_venueNamed_4 : decode cX5_venueNamed 4 = .ok (.if_icmp .ge 21, 3) := by decide +kernel
theorem dX5_venueNamed_7 : decode cX5_venueNamed 7 = .ok (.aload_n 0, 1) := by decide +kernel
theorem dX5_venueNamed_8 : decode cX5_venueNamed 8 = .ok (.getfield 25, 3) := by decide +kernel
theorem dX5_venueNamed_11 : decode cX5_venueNamed 11 = .ok (.iload_n 3, 1) := by decide +kernel
theorem dX5_venueNamed_12 : decode cX5_venueNamed 12 = .ok (.iaload, 1) := by decide +kernel
theorem dX5_venueNamed_13 : decode cX5_venueNamed 13 = .ok (.iload_n 1, 1) := by decide +kernel
theorem dX5_venueNamed_14 : decode cX5_venueNamed 14 = .ok (.if_icmp .ne 5, 3) := by decide +kernel
theorem dX5_venueNamed_17 : decode cX5_venueNamed 17 = .ok (.iload_n 3, 1) := by decide +kernel
theorem dX5_venueNamed_18 : decode cX5_venueNamed 18 = .ok (.ireturn, 1) := by decide +kernel
theorem dX5_venueNamed_19 : decode cX5_venueNamed 19 = .ok (.iinc 3 1, 3) := by decide +kernel
theorem dX5_venueNamed_22 : decode cX5_venueNamed 22 = .ok (.goto (-20), 3) := by decide +kernel
theorem dX5_venueNamed_25 : decode cX5_venueNamed 25 = .ok (.iconst (-1), 1) := by decide +kernel
theorem dX5_venueNamed_26 : decode cX5_venueNamed 26 = .ok (.ireturn, 1) := by decide +kernel
theorem dX5_isName_0 : decode cX5_isName 0 = .ok (.aload_n 0, 1) := by decide +kernel
theorem dX5_isName_1 : decode cX5_isName 1 = .ok (.getfield 35, 3) := by decide +kernel
theorem dX5_isName_4 : decode cX5_isName 4 = .ok (.iconst 1, 1) := by decide +kernel
theorem dX5_isName_5 : decode cX5_isName 5 = .ok (.if_icmp .ne 43, 3) := by decide +kernel
theorem dX5_isName_8 : decode cX5_isName 8 = .ok (.aload_n 0, 1) := by decide +kernel
theorem dX5_isName_9 : decode cX5_isName 9 = .ok (.ldc 66, 2) := by decide +kernel
theorem dX5_isName_11 : decode cX5_isName 11 = .ok (.invokevirtual 68, 3) := by decide +kernel
theorem dX5_isName_14 : decode cX5_isName 14 = .ok (.ifCond .ne 34, 3) := by decide +kernel
theorem dX5_isName_17 : decode cX5_isName 17 = .ok (.aload_n 0, 1) := by decide +kernel
theorem dX5_isName_18 : decode cX5_isName 18 = .ok (.ldc 75, 2) := by decide +kernel
theorem dX5_isName_20 : decode cX5_isName 20 = .ok (.invokevirtual 68, 3) := by decide +kernel
theorem dX5_isName_23 : decode cX5_isName 23 = .ok (.ifCond .ne 25, 3) := by decide +kernel
theorem dX5_isName_26 : decode cX5_isName 26 = .ok (.aload_n 0, 1) := by decide +kernel
theorem dX5_isName_27 : decode cX5_isName 27 = .ok (.ldc 85, 2) := by decide +kernel
theorem dX5_isName_29 : decode cX5_isName 29 = .ok (.invokevirtual 68, 3) := by decide +kernel
theorem dX5_isName_32 : decode cX5_isName 32 = .ok (.ifCond .ne 16, 3) := by decide +kernel
theorem dX5_isName_35 : decode cX5_isName 35 = .ok (.aload_n 0, 1) := by decide +kernel
theorem dX5_isName_36 : decode cX5_isName 36 = .ok (.ldc 90, 2) := by decide +kernel
theorem dX5_isName_38 : decode cX5_isName 38 = .ok (.invokevirtual 68, 3) := by decide +kernel
theorem dX5_isName_41 : decode cX5_isName 41 = .ok (.ifCond .ne 7, 3) := by decide +kernel
theorem dX5_isName_44 : decode cX5_isName 44 = .ok (.iconst 1, 1) := by decide +kernel
theorem dX5_isName_45 : decode cX5_isName 45 = .ok (.goto 4, 3) := by decide +kernel
theorem dX5_isName_48 : decode cX5_isName 48 = .ok (.iconst 0, 1) := by decide +kernel
theorem dX5_isName_49 : decode cX5_isName 49 = .ok (.ireturn, 1) := by decide +kernel
theorem dX5_isWord_0 : decode cX5_isWord 0 = .ok (.aload_n 0, 1) := by decide +kernel
theorem dX5_isWord_1 : decode cX5_isWord 1 = .ok (.getfield 35, 3) := by decide +kernel
theorem dX5_isWord_4 : decode cX5_isWord 4 = .ok (.iconst 1, 1) := by decide +kernel
theorem dX5_isWord_5 : decode cX5_isWord 5 = .ok (.if_icmp .ne 19, 3) := by decide +kernel
theorem dX5_isWord_8 : decode cX5_isWord 8 = .ok (.aload_n 1, 1) := by decide +kernel
theorem dX5_isWord_9 : decode cX5_isWord 9 = .ok (.invokevirtual 183, 3) := by decide +kernel
theorem dX5_isWord_12 : decode cX5_isWord 12 = .ok (.aload_n 0, 1) := by decide +kernel
theorem dX5_isWord_13 : decode cX5_isWord 13 = .ok (.getfield 32, 3) := by decide +kernel
theorem dX5_isWord_16 : decode cX5_isWord 16 = .ok (.aload_n 0, 1) := by decide +kernel
theorem dX5_isWord_17 : decode cX5_isWord 17 = .ok (.getfield 38, 3) := by decide +kernel
theorem dX5_isWord_20 : decode cX5_isWord 20 = .ok (.isub, 1) := by decide +kernel
theorem dX5_isWord_21 : decode cX5_isWord 21 = .ok (.if_icmp .eq 5, 3) := by decide +kernel
theorem dX5_isWord_24 : decode cX5_isWord 24 = .ok (.iconst 0, 1) := by decide +kernel
theorem dX5_isWord_25 : decode cX5_isWord 25 = .ok (.ireturn, 1) := by decide +kernel
theorem dX5_isWord_26 : decode cX5_isWord 26 = .ok (.iconst 0, 1) := by decide +kernel
theorem dX5_isWord_27 : decode cX5_isWord 27 = .ok (.istore_n 2, 1) := by decide +kernel
theorem dX5_isWord_28 : decode cX5_isWord 28 = .ok (.iload_n 2, 1) := by decide +kernel
theorem dX5_isWord_29 : decode cX5_isWord 29 = .ok (.aload_n 1, 1) := by decide +kernel
theorem dX5_isWord_30 : decode cX5_isWord 30 = .ok (.invokevirtual 183, 3) := by decide +kernel
theorem dX5_isWord_33 : decode cX5_isWord 33 = .ok (.if_icmp .ge 30, 3) := by decide +kernel
theorem dX5_isWord_36 : decode cX5_isWord 36 = .ok (.aload_n 0, 1) := by decide +kernel
theorem dX5_isWord_37 : decode cX5_isWord 37 = .ok (.getfield 21, 3) := by decide +kernel
theorem dX5_isWord_40 : decode cX5_isWord 40 = .ok (.aload_n 0, 1) := by decide +kernel
theorem dX5_isWord_41 : decode cX5_isWord 41 = .ok (.getfield 38, 3) := by decide +kernel
theorem dX5_isWord_44 : decode cX5_isWord 44 = .ok (.iload_n 2, 1) := by decide +kernel
theorem dX5_isWord_45 : decode cX5_isWord 45 = .ok (.iadd, 1) := by decide +kernel
theorem dX5_isWord_46 : decode cX5_isWord 46 = .ok (.baload, 1) := by decide +kernel
theorem dX5_isWord_47 : decode cX5_isWord 47 = .ok (.aload_n 1, 1) := by decide +kernel
theorem dX5_isWord_48 : decode cX5_isWord 48 = .ok (.iload_n 2, 1) := by decide +kernel
theorem dX5_isWord_49 : decode cX5_isWord 49 = .ok (.invokevirtual 188, 3) := by decide +kernel
theorem dX5_isWord_52 : decode cX5_isWord 52 = .ok (.if_icmp .eq 5, 3) := by decide +kernel
theorem dX5_isWord_55 : decode cX5_isWord 55 = .ok (.iconst 0, 1) := by decide +kernel
theorem dX5_isWord_56 : decode cX5_isWord 56 = .ok (.ireturn, 1) := by decide +kernel
theorem dX5_isWord_57 : decode cX5_isWord 57 = .ok (.iinc 2 1, 3) := by decide +kernel
theorem dX5_isWord_60 : decode cX5_isWord 60 = .ok (.goto (-32), 3) := by decide +kernel
theorem dX5_isWord_63 : decode cX5_isWord 63 = .ok (.iconst 1, 1) := by decide +kernel
theorem dX5_isWord_64 : decode cX5_isWord 64 = .ok (.ireturn, 1) := by decide +kernel
theorem dX5_step_0 : decode cX5_step 0 = .ok (.aload_n 0, 1) := by decide +kernel
theorem dX5_step_1 : decode cX5_step 1 = .ok (.getfield 32, 3) := by decide +kernel
theorem dX5_step_4 : decode cX5_step 4 = .ok (.aload_n 0, 1) := by decide +kernel
theorem dX5_step_5 : decode cX5_step 5 = .ok (.getfield 29, 3) := by decide +kernel
theorem dX5_step_8 : decode cX5_step 8 = .ok (.if_icmp .ge 30, 3) := by decide +kernel
theorem dX5_step_11 : decode cX5_step 11 = .ok (.aload_n 0, 1) := by decide +kernel
theorem dX5_step_12 : decode cX5_step 12 = .ok (.getfield 21, 3) := by decide +kernel
theorem dX5_step_15 : decode cX5_step 15 = .ok (.aload_n 0, 1) := by decide +kernel
theorem dX5_step_16 : decode cX5_step 16 = .ok (.getfield 32, 3) := by decide +kernel
theorem dX5_step_19 : decode cX5_step 19 = .ok (.baload, 1) := by decide +kernel
theorem dX5_step_20 : decode cX5_step 20 = .ok (.bipush 32, 2) := by decide +kernel
theorem dX5_step_22 : decode cX5_step 22 = .ok (.if_icmp .ne 16, 3) := by decide +kernel
theorem dX5_step_25 : decode cX5_step 25 = .ok (.aload_n 0, 1) := by decide +kernel
theorem dX5_step_26 : decode cX5_step 26 = .ok (.dup, 1) := by decide +kernel
theorem dX5_step_27 : decode cX5_step 27 = .ok (.getfield 32, 3) := by decide +kernel
theorem dX5_step_30 : decode cX5_step 30 = .ok (.iconst 1, 1) := by decide +kernel
theorem dX5_step_31 : decode cX5_step 31 = .ok (.iadd, 1) := by decide +kernel
theorem dX5_step_32 : decode cX5_step 32 = .ok (.putfield 32, 3) := by decide +kernel
theorem dX5_step_35 : decode cX5_step 35 = .ok (.goto (-35), 3) := by decide +kernel
theorem dX5_step_38 : decode cX5_step 38 = .ok (.aload_n 0, 1) := by decide +kernel
theorem dX5_step_39 : decode cX5_step 39 = .ok (.aload_n 0, 1) := by decide +kernel
theorem dX5_step_40 : decode cX5_step 40 = .ok (.getfield 32, 3) := by decide +kernel
theorem dX5_step_43 : decode cX5_step 43 = .ok (.putfield 38, 3) := by decide +kernel
theorem dX5_step_46 : decode cX5_step 46 = .ok (.aload_n 0, 1) := by decide +kernel
theorem dX5_step_47 : decode cX5_step 47 = .ok (.iconst 0, 1) := by decide +kernel
theorem dX5_step_48 : decode cX5_step 48 = .ok (.putfield 41, 3) := by decide +kernel
theorem dX5_step_51 : decode cX5_step 51 = .ok (.aload_n 0, 1) := by decide +kernel
theorem dX5_step_52 : decode cX5_step 52 = .ok (.aload_n 0, 1) := by decide +kernel
theorem dX5_step_53 : decode cX5_step 53 = .ok (.getfield 32, 3) := by decide +kernel
theorem dX5_step_56 : decode cX5_step 56 = .ok (.aload_n 0, 1) := by decide +kernel
theorem dX5_step_57 : decode cX5_step 57 = .ok (.getfield 29, 3) := by decide +kernel
theorem dX5_step_60 : decode cX5_step 60 = .ok (.if_icmp .ge 18, 3) := by decide +kernel
theorem dX5_step_63 : decode cX5_step 63 = .ok (.aload_n 0, 1) := by decide +kernel
theorem dX5_step_64 : decode cX5_step 64 = .ok (.getfield 21, 3) := by decide +kernel
theorem dX5_step_67 : decode cX5_step 67 = .ok (.aload_n 0, 1) := by decide +kernel
theorem dX5_step_68 : decode cX5_step 68 = .ok (.getfield 32, 3) := by decide +kernel
theorem dX5_step_71 : decode cX5_step 71 = .ok (.baload, 1) := by decide +kernel
theorem dX5_step_72 : decode cX5_step 72 = .ok (.invokestatic 192, 3) := by decide +kernel
theorem dX5_step_75 : decode cX5_step 75 = .ok (.goto 4, 3) := by decide +kernel
theorem dX5_step_78 : decode cX5_step 78 = .ok (.iconst 0, 1) := by decide +kernel
theorem dX5_step_79 : decode cX5_step 79 = .ok (.putfield 35, 3) := by decide +kernel
theorem dX5_step_82 : decode cX5_step 82 = .ok (.aload_n 0, 1) := by decide +kernel
theorem dX5_step_83 : decode cX5_step 83 = .ok (.getfield 35, 3) := by decide +kernel
theorem dX5_step_86 : decode cX5_step 86 = .ok (.iconst 1, 1) := by decide +kernel
theorem dX5_step_87 : decode cX5_step 87 = .ok (.if_icmp .ne 16, 3) := by decide +kernel
theorem dX5_step_90 : decode cX5_step 90 = .ok (.aload_n 0, 1) := by decide +kernel
theorem dX5_step_91 : decode cX5_step 91 = .ok (.bipush 97, 2) := by decide +kernel
theorem dX5_step_93 : decode cX5_step 93 = .ok (.bipush 122, 2) := by decide +kernel
theorem dX5_step_95 : decode cX5_step 95 = .ok (.bipush 6, 2) := by decide +kernel
theorem dX5_step_97 : decode cX5_step 97 = .ok (.invokevirtual 196, 3) := by decide +kernel
theorem dX5_step_100 : decode cX5_step 100 = .ok (.goto 40, 3) := by decide +kernel
theorem dX5_step_103 : decode cX5_step 103 = .ok (.aload_n 0, 1) := by decide +kernel
theorem dX5_step_104 : decode cX5_step 104 = .ok (.getfield 35, 3) := by decide +kernel
theorem dX5_step_107 : decode cX5_step 107 = .ok (.iconst 2, 1) := by decide +kernel
theorem dX5_step_108 : decode cX5_step 108 = .ok (.if_icmp .ne 15, 3) := by decide +kernel
theorem dX5_step_111 : decode cX5_step 111 = .ok (.aload_n 0, 1) := by decide +kernel
theorem dX5_step_112 : decode cX5_step 112 = .ok (.bipush 48, 2) := by decide +kernel
theorem dX5_step_114 : decode cX5_step 114 = .ok (.bipush 57, 2) := by decide +kernel
theorem dX5_step_116 : decode cX5_step 116 = .ok (.iconst 3, 1) := by decide +kernel
theorem dX5_step_117 : decode cX5_step 117 = .ok (.invokevirtual 196, 3) := by decide +kernel
theorem dX5_step_120 : decode cX5_step 120 = .ok (.goto 20, 3) := by decide +kernel
theorem dX5_step_123 : decode cX5_step 123 = .ok (.aload_n 0, 1) := by decide +kernel
theorem dX5_step_124 : decode cX5_step 124 = .ok (.getfield 35, 3) := by decide +kernel
theorem dX5_step_127 : decode cX5_step 127 = .ok (.ifCond .eq 13, 3) := by decide +kernel
theorem dX5_step_130 : decode cX5_step 130 = .ok (.aload_n 0, 1) := by decide +kernel
theorem dX5_step_131 : decode cX5_step 131 = .ok (.dup, 1) := by decide +kernel
theorem dX5_step_132 : decode cX5_step 132 = .ok (.getfield 32, 3) := by decide +kernel
theorem dX5_step_135 : decode cX5_step 135 = .ok (.iconst 1, 1) := by decide +kernel
theorem dX5_step_136 : decode cX5_step 136 = .ok (.iadd, 1) := by decide +kernel
theorem dX5_step_137 : decode cX5_step 137 = .ok (.putfield 32, 3) := by decide +kernel
theorem dX5_step_140 : decode cX5_step 140 = .ok (.return_, 1) := by decide +kernel
theorem dX5_stepOver_0 : decode cX5_stepOver 0 = .ok (.aload_n 0, 1) := by decide +kernel
theorem dX5_stepOver_1 : decode cX5_stepOver 1 = .ok (.getfield 35, 3) := by decide +kernel
theorem dX5_stepOver_4 : decode cX5_stepOver 4 = .ok (.iconst 2, 1) := by decide +kernel
theorem dX5_stepOver_5 : decode cX5_stepOver 5 = .ok (.if_icmp .ne 8, 3) := by decide +kernel
theorem dX5_stepOver_8 : decode cX5_stepOver 8 = .ok (.bipush 10, 2) := by decide +kernel
theorem dX5_stepOver_10 : decode cX5_stepOver 10 = .ok (.goto 5, 3) := by decide +kernel
theorem dX5_stepOver_13 : decode cX5_stepOver 13 = .ok (.bipush 27, 2) := by decide +kernel
theorem dX5_stepOver_15 : decode cX5_stepOver 15 = .ok (.istore 4, 2) := by decide +kernel
theorem dX5_stepOver_17 : decode cX5_stepOver 17 = .ok (.aload_n 0, 1) := by decide +kernel
theorem dX5_stepOver_18 : decode cX5_stepOver 18 = .ok (.getfield 35, 3) := by decide +kernel
theorem dX5_stepOver_21 : decode cX5_stepOver 21 = .ok (.iconst 2, 1) := by decide +kernel
theorem dX5_stepOver_22 : decode cX5_stepOver 22 = .ok (.if_icmp .ne 7, 3) := by decide +kernel
theorem dX5_stepOver_25 : decode cX5_stepOver 25 = .ok (.iload_n 1, 1) := by decide +kernel
theorem dX5_stepOver_26 : decode cX5_stepOver 26 = .ok (.goto 6, 3) := by decide +kernel
theorem dX5_stepOver_29 : decode cX5_stepOver 29 = .ok (.iload_n 1, 1) := by decide +kernel
theorem dX5_stepOver_30 : decode cX5_stepOver 30 = .ok (.iconst 1, 1) := by decide +kernel
theorem dX5_stepOver_31 : decode cX5_stepOver 31 = .ok (.isub, 1) := by decide +kernel
theorem dX5_stepOver_32 : decode cX5_stepOver 32 = .ok (.istore 5, 2) := by decide +kernel
theorem dX5_stepOver_34 : decode cX5_stepOver 34 = .ok (.aload_n 0, 1) := by decide +kernel
theorem dX5_stepOver_35 : decode cX5_stepOver 35 = .ok (.getfield 32, 3) := by decide +kernel
theorem dX5_stepOver_38 : decode cX5_stepOver 38 = .ok (.aload_n 0, 1) := by decide +kernel
theorem dX5_stepOver_39 : decode cX5_stepOver 39 = .ok (.getfield 29, 3) := by decide +kernel
theorem dX5_stepOver_42 : decode cX5_stepOver 42 = .ok (.if_icmp .ge 79, 3) := by decide +kernel
theorem dX5_stepOver_45 : decode cX5_stepOver 45 = .ok (.aload_n 0, 1) := by decide +kernel
theorem dX5_stepOver_46 : decode cX5_stepOver 46 = .ok (.getfield 21, 3) := by decide +kernel
theorem dX5_stepOver_49 : decode cX5_stepOver 49 = .ok (.aload_n 0, 1) := by decide +kernel
theorem dX5_stepOver_50 : decode cX5_stepOver 50 = .ok (.getfield 32, 3) := by decide +kernel
theorem dX5_stepOver_53 : decode cX5_stepOver 53 = .ok (.baload, 1) := by decide +kernel
theorem dX5_stepOver_54 : decode cX5_stepOver 54 = .ok (.iload_n 1, 1) := by decide +kernel
theorem dX5_stepOver_55 : decode cX5_stepOver 55 = .ok (.if_icmp .lt 66, 3) := by decide +kernel
theorem dX5_stepOver_58 : decode cX5_stepOver 58 = .ok (.aload_n 0, 1) := by decide +kernel
theorem dX5_stepOver_59 : decode cX5_stepOver 59 = .ok (.getfield 21, 3) := by decide +kernel
theorem dX5_stepOver_62 : decode cX5_stepOver 62 = .ok (.aload_n 0, 1) := by decide +kernel
theorem dX5_stepOver_63 : decode cX5_stepOver 63 = .ok (.getfield 32, 3) := by decide +kernel
theorem dX5_stepOver_66 : decode cX5_stepOver 66 = .ok (.baload, 1) := by decide +kernel
theorem dX5_stepOver_67 : decode cX5_stepOver 67 = .ok (.iload_n 2, 1) := by decide +kernel
theorem dX5_stepOver_68 : decode cX5_stepOver 68 = .ok (.if_icmp .gt 53, 3) := by decide +kernel
theorem dX5_stepOver_71 : decode cX5_stepOver 71 = .ok (.aload_n 0, 1) := by decide +kernel
theorem dX5_stepOver_72 : decode cX5_stepOver 72 = .ok (.getfield 32, 3) := by decide +kernel
theorem dX5_stepOver_75 : decode cX5_stepOver 75 = .ok (.aload_n 0, 1) := by decide +kernel
theorem dX5_stepOver_76 : decode cX5_stepOver 76 = .ok (.getfield 38, 3) := by decide +kernel
theorem dX5_stepOver_79 : decode cX5_stepOver 79 = .ok (.isub, 1) := by decide +kernel
theorem dX5_stepOver_80 : decode cX5_stepOver 80 = .ok (.iload_n 3, 1) := by decide +kernel
theorem dX5_stepOver_81 : decode cX5_stepOver 81 = .ok (.if_icmp .ge 27, 3) := by decide +kernel
theorem dX5_stepOver_84 : decode cX5_stepOver 84 = .ok (.aload_n 0, 1) := by decide +kernel
theorem dX5_stepOver_85 : decode cX5_stepOver 85 = .ok (.aload_n 0, 1) := by decide +kernel
theorem dX5_stepOver_86 : decode cX5_stepOver 86 = .ok (.getfield 41, 3) := by decide +kernel
theorem dX5_stepOver_89 : decode cX5_stepOver 89 = .ok (.iload 4, 2) := by decide +kernel
theorem dX5_stepOver_91 : decode cX5_stepOver 91 = .ok (.imul, 1) := by decide +kernel
theorem dX5_stepOver_92 : decode cX5_stepOver 92 = .ok (.aload_n 0, 1) := by decide +kernel
theorem dX5_stepOver_93 : decode cX5_stepOver 93 = .ok (.getfield 21, 3) := by decide +kernel
theorem dX5_stepOver_96 : decode cX5_stepOver 96 = .ok (.aload_n 0, 1) := by decide +kernel
theorem dX5_stepOver_97 : decode cX5_stepOver 97 = .ok (.getfield 32, 3) := by decide +kernel
theorem dX5_stepOver_100 : decode cX5_stepOver 100 = .ok (.baload, 1) := by decide +kernel
theorem dX5_stepOver_101 : decode cX5_stepOver 101 = .ok (.iadd, 1) := by decide +kernel
theorem dX5_stepOver_102 : decode cX5_stepOver 102 = .ok (.iload 5, 2) := by decide +kernel
theorem dX5_stepOver_104 : decode cX5_stepOver 104 = .ok (.isub, 1) := by decide +kernel
theorem dX5_stepOver_105 : decode cX5_stepOver 105 = .ok (.putfield 41, 3) := by decide +kernel
theorem dX5_stepOver_108 : decode cX5_stepOver 108 = .ok (.aload_n 0, 1) := by decide +kernel
theorem dX5_stepOver_109 : decode cX5_stepOver 109 = .ok (.dup, 1) := by decide +kernel
theorem dX5_stepOver_110 : decode cX5_stepOver 110 = .ok (.getfield 32, 3) := by decide +kernel
theorem dX5_stepOver_113 : decode cX5_stepOver 113 = .ok (.iconst 1, 1) := by decide +kernel
theorem dX5_stepOver_114 : decode cX5_stepOver 114 = .ok (.iadd, 1) := by decide +kernel
theorem dX5_stepOver_115 : decode cX5_stepOver 115 = .ok (.putfield 32, 3) := by decide +kernel
theorem dX5_stepOver_118 : decode cX5_stepOver 118 = .ok (.goto (-84), 3) := by decide +kernel
theorem dX5_stepOver_121 : decode cX5_stepOver 121 = .ok (.aload_n 0, 1) := by decide +kernel
theorem dX5_stepOver_122 : decode cX5_stepOver 122 = .ok (.getfield 32, 3) := by decide +kernel
theorem dX5_stepOver_125 : decode cX5_stepOver 125 = .ok (.aload_n 0, 1) := by decide +kernel
theorem dX5_stepOver_126 : decode cX5_stepOver 126 = .ok (.getfield 38, 3) := by decide +kernel
theorem dX5_stepOver_129 : decode cX5_stepOver 129 = .ok (.isub, 1) := by decide +kernel
theorem dX5_stepOver_130 : decode cX5_stepOver 130 = .ok (.iload_n 3, 1) := by decide +kernel
theorem dX5_stepOver_131 : decode cX5_stepOver 131 = .ok (.if_icmp .le 8, 3) := by decide +kernel
theorem dX5_stepOver_134 : decode cX5_stepOver 134 = .ok (.aload_n 0, 1) := by decide +kernel
theorem dX5_stepOver_135 : decode cX5_stepOver 135 = .ok (.iconst 5, 1) := by decide +kernel
theorem dX5_stepOver_136 : decode cX5_stepOver 136 = .ok (.putfield 35, 3) := by decide +kernel
theorem dX5_stepOver_139 : decode cX5_stepOver 139 = .ok (.return_, 1) := by decide +kernel
theorem dX5_sortOf_0 : decode cX5_sortOf 0 = .ok (.iload_n 0, 1) := by decide +kernel
theorem dX5_sortOf_1 : decode cX5_sortOf 1 = .ok (.bipush 97, 2) := by decide +kernel
theorem dX5_sortOf_3 : decode cX5_sortOf 3 = .ok (.if_icmp .lt 11, 3) := by decide +kernel
theorem dX5_sortOf_6 : decode cX5_sortOf 6 = .ok (.iload_n 0, 1) := by decide +kernel
theorem dX5_sortOf_7 : decode cX5_sortOf 7 = .ok (.bipush 122, 2) := by decide +kernel
theorem dX5_sortOf_9 : decode cX5_sortOf 9 = .ok (.if_icmp .gt 5, 3) := by decide +kernel
theorem dX5_sortOf_12 : decode cX5_sortOf 12 = .ok (.iconst 1, 1) := by decide +kernel
theorem dX5_sortOf_13 : decode cX5_sortOf 13 = .ok (.ireturn, 1) := by decide +kernel
theorem dX5_sortOf_14 : decode cX5_sortOf 14 = .ok (.iload_n 0, 1) := by decide +kernel
theorem dX5_sortOf_15 : decode cX5_sortOf 15 = .ok (.bipush 48, 2) := by decide +kernel
theorem dX5_sortOf_17 : decode cX5_sortOf 17 = .ok (.if_icmp .lt 11, 3) := by decide +kernel
theorem dX5_sortOf_20 : decode cX5_sortOf 20 = .ok (.iload_n 0, 1) := by decide +kernel
theorem dX5_sortOf_21 : decode cX5_sortOf 21 = .ok (.bipush 57, 2) := by decide +kernel
theorem dX5_sortOf_23 : decode cX5_sortOf 23 = .ok (.if_icmp .gt 5, 3) := by decide +kernel
theorem dX5_sortOf_26 : decode cX5_sortOf 26 = .ok (.iconst 2, 1) := by decide +kernel
theorem dX5_sortOf_27 : decode cX5_sortOf 27 = .ok (.ireturn, 1) := by decide +kernel
theorem dX5_sortOf_28 : decode cX5_sortOf 28 = .ok (.iload_n 0, 1) := by decide +kernel
theorem dX5_sortOf_29 : decode cX5_sortOf 29 = .ok (.bipush 59, 2) := by decide +kernel
theorem dX5_sortOf_31 : decode cX5_sortOf 31 = .ok (.if_icmp .ne 7, 3) := by decide +kernel
theorem dX5_sortOf_34 : decode cX5_sortOf 34 = .ok (.iconst 3, 1) := by decide +kernel
theorem dX5_sortOf_35 : decode cX5_sortOf 35 = .ok (.goto 14, 3) := by decide +kernel
theorem dX5_sortOf_38 : decode cX5_sortOf 38 = .ok (.iload_n 0, 1) := by decide +kernel
theorem dX5_sortOf_39 : decode cX5_sortOf 39 = .ok (.bipush 45, 2) := by decide +kernel
theorem dX5_sortOf_41 : decode cX5_sortOf 41 = .ok (.if_icmp .ne 7, 3) := by decide +kernel
theorem dX5_sortOf_44 : decode cX5_sortOf 44 = .ok (.iconst 4, 1) := by decide +kernel
theorem dX5_sortOf_45 : decode cX5_sortOf 45 = .ok (.goto 4, 3) := by decide +kernel
theorem dX5_sortOf_48 : decode cX5_sortOf 48 = .ok (.iconst 5, 1) := by decide +kernel
theorem dX5_sortOf_49 : decode cX5_sortOf 49 = .ok (.ireturn, 1) := by decide +kernel

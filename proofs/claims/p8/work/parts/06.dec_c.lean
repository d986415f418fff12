theorem dX6_init_0 : decode cX6_init 0 = .ok (.aload_n 0, 1) := by decide +kernel
theorem dX6_init_1 : decode cX6_init 1 = .ok (.invokespecial 3, 3) := by decide +kernel
theorem dX6_init_4 : decode cX6_init 4 = .ok (.aload_n 0, 1) := by decide +kernel
theorem dX6_init_5 : decode cX6_init 5 = .ok (.new 9, 3) := by decide +kernel
theorem dX6_init_8 : decode cX6_init 8 = .ok (.dup, 1) := by decide +kernel
theorem dX6_init_9 : decode cX6_init 9 = .ok (.invokespecial 11, 3) := by decide +kernel
theorem dX6_init_12 : decode cX6_init 12 = .ok (.putfield 12, 3) := by decide +kernel
theorem dX6_init_15 : decode cX6_init 15 = .ok (.aload_n 0, 1) := by decide +kernel
theorem dX6_init_16 : decode cX6_init 16 = .ok (.new 18, 3) := by decide +kernel
theorem dX6_init_19 : decode cX6_init 19 = .ok (.dup, 1) := by decide +kernel
theorem dX6_init_20 : decode cX6_init 20 = .ok (.invokespecial 20, 3) := by decide +kernel
theorem dX6_init_23 : decode cX6_init 23 = .ok (.putfield 21, 3) := by decide +kernel
theorem dX6_init_26 : decode cX6_init 26 = .ok (.aload_n 0, 1) := by decide +kernel
theorem dX6_init_27 : decode cX6_init 27 = .ok (.new 25, 3) := by decide +kernel
theorem dX6_init_30 : decode cX6_init 30 = .ok (.dup, 1) := by decide +kernel
theorem dX6_init_31 : decode cX6_init 31 = .ok (.invokespecial 27, 3) := by decide +kernel
theorem dX6_init_34 : decode cX6_init 34 = .ok (.putfield 28, 3) := by decide +kernel
theorem dX6_init_37 : decode cX6_init 37 = .ok (.aload_n 0, 1) := by decide +kernel
theorem dX6_init_38 : decode cX6_init 38 = .ok (.new 32, 3) := by decide +kernel
theorem dX6_init_41 : decode cX6_init 41 = .ok (.dup, 1) := by decide +kernel
theorem dX6_init_42 : decode cX6_init 42 = .ok (.invokespecial 34, 3) := by decide +kernel
theorem dX6_init_45 : decode cX6_init 45 = .ok (.putfield 35, 3) := by decide +kernel
theorem dX6_init_48 : decode cX6_init 48 = .ok (.aload_n 0, 1) := by decide +kernel
theorem dX6_init_49 : decode cX6_init 49 = .ok (.new 32, 3) := by decide +kernel
theorem dX6_init_52 : decode cX6_init 52 = .ok (.dup, 1) := by decide +kernel
theorem dX6_init_53 : decode cX6_init 53 = .ok (.invokespecial 34, 3) := by decide +kernel
theorem dX6_init_56 : decode cX6_init 56 = .ok (.putfield 39, 3) := by decide +kernel
theorem dX6_init_59 : decode cX6_init 59 = .ok (.aload_n 0, 1) := by decide +kernel
theorem dX6_init_60 : decode cX6_init 60 = .ok (.new 32, 3) := by decide +kernel
theorem dX6_init_63 : decode cX6_init 63 = .ok (.dup, 1) := by decide +kernel
theorem dX6_init_64 : decode cX6_init 64 = .ok (.invokespecial 34, 3) := by decide +kernel
theorem dX6_init_67 : decode cX6_init 67 = .ok (.putfield 42, 3) := by decide +kernel
theorem dX6_init_70 : decode cX6_init 70 = .ok (.aload_n 0, 1) := by decide +kernel
theorem dX6_init_71 : decode cX6_init 71 = .ok (.new 32, 3) := by decide +kernel
theorem dX6_init_74 : decode cX6_init 74 = .ok (.dup, 1) := by decide +kernel
theorem dX6_init_75 : decode cX6_init 75 = .ok (.invokespecial 34, 3) := by decide +kernel
theorem dX6_init_78 : decode cX6_init 78 = .ok (.putfield 45, 3) := by decide +kernel
theorem dX6_init_81 : decode cX6_init 81 = .ok (.aload_n 0, 1) := by decide +kernel
theorem dX6_init_82 : decode cX6_init 82 = .ok (.new 48, 3) := by decide +kernel
theorem dX6_init_85 : decode cX6_init 85 = .ok (.dup, 1) := by decide +kernel
theorem dX6_init_86 : decode cX6_init 86 = .ok (.invokespecial 50, 3) := by decide +kernel
theorem dX6_init_89 : decode cX6_init 89 = .ok (.putfield 51, 3) := by decide +kernel
theorem dX6_init_92 : decode cX6_init 92 = .ok (.aload_n 0, 1) := by decide +kernel
theorem dX6_init_93 : decode cX6_init 93 = .ok (.new 48, 3) := by decide +kernel
theorem dX6_init_96 : decode cX6_init 96 = .ok (.dup, 1) := by decide +kernel
theorem dX6_init_97 : decode cX6_init 97 = .ok (.invokespecial 50, 3) := by decide +kernel
theorem dX6_init_100 : decode cX6_init 100 = .ok (.putfield 55, 3) := by decide +kernel
theorem dX6_init_103 : decode cX6_init 103 = .ok (.aload_n 0, 1) := by decide +kernel
theorem dX6_init_104 : decode cX6_init 104 = .ok (.new 48, 3) := by decide +kernel
theorem dX6_init_107 : decode cX6_init 107 = .ok (.dup, 1) := by decide +kernel
theorem dX6_init_108 : decode cX6_init 108 = .ok (.invokespecial 50, 3) := by decide +kernel
theorem dX6_init_111 : decode cX6_init 111 = .ok (.putfield 58, 3) := by decide +kernel
theorem dX6_init_114 : decode cX6_init 114 = .ok (.aload_n 0, 1) := by decide +kernel
theorem dX6_init_115 : decode cX6_init 115 = .ok (.iconst 0, 1) := by decide +kernel
theorem dX6_init_116 : decode cX6_init 116 = .ok (.putfield 61, 3) := by decide +kernel
theorem dX6_init_119 : decode cX6_init 119 = .ok (.aload_n 0, 1) := by decide +kernel
theorem dX6_init_120 : decode cX6_init 120 = .ok (.iconst 0, 1) := by decide +kernel
theorem dX6_init_121 : decode cX6_init 121 = .ok (.putfield 65, 3) := by decide +kernel
theorem dX6_init_124 : decode cX6_init 124 = .ok (.aload_n 0, 1) := by decide +kernel
theorem dX6_init_125 : decode cX6_init 125 = .ok (.iconst 0, 1) := by decide +kernel
theorem dX6_init_126 : decode cX6_init 126 = .ok (.putfield 68, 3) := by decide +kernel
theorem dX6_init_129 : decode cX6_init 129 = .ok (.aload_n 0, 1) := by decide +kernel
theorem dX6_init_130 : decode cX6_init 130 = .ok (.iconst 0, 1) := by decide +kernel
theorem dX6_init_131 : decode cX6_init 131 = .ok (.putfield 72, 3) := by decide +kernel
theorem dX6_init_134 : decode cX6_init 134 = .ok (.return_, 1) := by decide +kernel
theorem dX6_feed_0 : decode cX6_feed 0 = .ok (.aload_n 0, 1) := by decide +kernel
theorem dX6_feed_1 : decode cX6_feed 1 = .ok (.getfield 12, 3) := by decide +kernel
theorem dX6_feed_4 : decode cX6_feed 4 = .ok (.getfield 75, 3) := by decide +kernel
theorem dX6_feed_7 : decode cX6_feed 7 = .ok (.sipush 880, 3) := by decide +kernel
theorem dX6_feed_10 : decode cX6_feed 10 = .ok (.if_icmp .le 5, 3) := by decide +kernel
theorem dX6_feed_13 : decode cX6_feed 13 = .ok (.iconst (-1), 1) := by decide +kernel
theorem dX6_feed_14 : decode cX6_feed 14 = .ok (.ireturn, 1) := by decide +kernel
theorem dX6_feed_15 : decode cX6_feed 15 = .ok (.aload_n 0, 1) := by decide +kernel
theorem dX6_feed_16 : decode cX6_feed 16 = .ok (.getfield 12, 3) := by decide +kernel
theorem dX6_feed_19 : decode cX6_feed 19 = .ok (.iload_n 1, 1) := by decide +kernel
theorem dX6_feed_20 : decode cX6_feed 20 = .ok (.invokevirtual 78, 3) := by decide +kernel
theorem dX6_feed_23 : decode cX6_feed 23 = .ok (.aload_n 0, 1) := by decide +kernel
theorem dX6_feed_24 : decode cX6_feed 24 = .ok (.getfield 12, 3) := by decide +kernel
theorem dX6_feed_27 : decode cX6_feed 27 = .ok (.iload_n 2, 1) := by decide +kernel
theorem dX6_feed_28 : decode cX6_feed 28 = .ok (.invokevirtual 78, 3) := by decide +kernel
theorem dX6_feed_31 : decode cX6_feed 31 = .ok (.aload_n 0, 1) := by decide +kernel
theorem dX6_feed_32 : decode cX6_feed 32 = .ok (.getfield 12, 3) := by decide +kernel
theorem dX6_feed_35 : decode cX6_feed 35 = .ok (.iload_n 3, 1) := by decide +kernel
theorem dX6_feed_36 : decode cX6_feed 36 = .ok (.invokevirtual 78, 3) := by decide +kernel
theorem dX6_feed_39 : decode cX6_feed 39 = .ok (.aload_n 0, 1) := by decide +kernel
theorem dX6_feed_40 : decode cX6_feed 40 = .ok (.getfield 12, 3) := by decide +kernel
theorem dX6_feed_43 : decode cX6_feed 43 = .ok (.iload 4, 2) := by decide +kernel
theorem dX6_feed_45 : decode cX6_feed 45 = .ok (.invokevirtual 78, 3) := by decide +kernel
theorem dX6_feed_48 : decode cX6_feed 48 = .ok (.aload_n 0, 1) := by decide +kernel
theorem dX6_feed_49 : decode cX6_feed 49 = .ok (.getfield 12, 3) := by decide +kernel
theorem dX6_feed_52 : decode cX6_feed 52 = .ok (.iload 5, 2) := by decide +kernel
theorem dX6_feed_54 : decode cX6_feed 54 = .ok (.invokevirtual 78, 3) := by decide +kernel
theorem dX6_feed_57 : decode cX6_feed 57 = .ok (.aload_n 0, 1) := by decide +kernel
theorem dX6_feed_58 : decode cX6_feed 58 = .ok (.getfield 12, 3) := by decide +kernel
theorem dX6_feed_61 : decode cX6_feed 61 = .ok (.getfield 75, 3) := by decide +kernel
theorem dX6_feed_64 : decode cX6_feed 64 = .ok (.ireturn, 1) := by decide +kernel
theorem dX6_split_0 : decode cX6_split 0 = .ok (.iload_n 1, 1) := by decide +kernel
theorem dX6_split_1 : decode cX6_split 1 = .ok (.ifCond .lt 14, 3) := by decide +kernel
theorem dX6_split_4 : decode cX6_split 4 = .ok (.iload_n 1, 1) := by decide +kernel
theorem dX6_split_5 : decode cX6_split 5 = .ok (.aload_n 0, 1) := by decide +kernel
theorem dX6_split_6 : decode cX6_split 6 = .ok (.getfield 12, 3) := by decide +kernel
theorem dX6_split_9 : decode cX6_split 9 = .ok (.getfield 75, 3) := by decide +kernel
theorem dX6_split_12 : decode cX6_split 12 = .ok (.if_icmp .le 10, 3) := by decide +kernel
theorem dX6_split_15 : decode cX6_split 15 = .ok (.aload_n 0, 1) := by decide +kernel
theorem dX6_split_16 : decode cX6_split 16 = .ok (.iconst 2, 1) := by decide +kernel
theorem dX6_split_17 : decode cX6_split 17 = .ok (.putfield 68, 3) := by decide +kernel
theorem dX6_split_20 : decode cX6_split 20 = .ok (.iconst (-1), 1) := by decide +kernel
theorem dX6_split_21 : decode cX6_split 21 = .ok (.ireturn, 1) := by decide +kernel
theorem dX6_split_22 : decode cX6_split 22 = .ok (.aload_n 0, 1) := by decide +kernel
theorem dX6_split_23 : decode cX6_split 23 = .ok (.getfield 12, 3) := by decide +kernel
theorem dX6_split_26 : decode cX6_split 26 = .ok (.aload_n 0, 1) := by decide +kernel
theorem dX6_split_27 : decode cX6_split 27 = .ok (.getfield 35, 3) := by decide +kernel
theorem dX6_split_30 : decode cX6_split 30 = .ok (.iload_n 1, 1) := by decide +kernel
theorem dX6_split_31 : decode cX6_split 31 = .ok (.invokevirtual 82, 3) := by decide +kernel
theorem dX6_split_34 : decode cX6_split 34 = .ok (.istore_n 2, 1) := by decide +kernel
theorem dX6_split_35 : decode cX6_split 35 = .ok (.aload_n 0, 1) := by decide +kernel
theorem dX6_split_36 : decode cX6_split 36 = .ok (.getfield 12, 3) := by decide +kernel
theorem dX6_split_39 : decode cX6_split 39 = .ok (.iconst 0, 1) := by decide +kernel
theorem dX6_split_40 : decode cX6_split 40 = .ok (.putfield 75, 3) := by decide +kernel
theorem dX6_split_43 : decode cX6_split 43 = .ok (.aload_n 0, 1) := by decide +kernel
theorem dX6_split_44 : decode cX6_split 44 = .ok (.aload_n 0, 1) := by decide +kernel
theorem dX6_split_45 : decode cX6_split 45 = .ok (.getfield 12, 3) := by decide +kernel
theorem dX6_split_48 : decode cX6_split 48 = .ok (.getfield 86, 3) := by decide +kernel
theorem dX6_split_51 : decode cX6_split 51 = .ok (.putfield 72, 3) := by decide +kernel
theorem dX6_split_54 : decode cX6_split 54 = .ok (.iload_n 2, 1) := by decide +kernel
theorem dX6_split_55 : decode cX6_split 55 = .ok (.ifCond .ne 10, 3) := by decide +kernel
theorem dX6_split_58 : decode cX6_split 58 = .ok (.aload_n 0, 1) := by decide +kernel
theorem dX6_split_59 : decode cX6_split 59 = .ok (.iconst 4, 1) := by decide +kernel
theorem dX6_split_60 : decode cX6_split 60 = .ok (.putfield 68, 3) := by decide +kernel
theorem dX6_split_63 : decode cX6_split 63 = .ok (.iconst (-1), 1) := by decide +kernel
theorem dX6_split_64 : decode cX6_split 64 = .ok (.ireturn, 1) := by decide +kernel
theorem dX6_split_65 : decode cX6_split 65 = .ok (.aload_n 0, 1) := by decide +kernel
theorem dX6_split_66 : decode cX6_split 66 = .ok (.getfield 35, 3) := by decide +kernel
theorem dX6_split_69 : decode cX6_split 69 = .ok (.astore_n 3, 1) := by decide +kernel
theorem dX6_split_70 : decode cX6_split 70 = .ok (.aload_n 0, 1) := by decide +kernel
theorem dX6_split_71 : decode cX6_split 71 = .ok (.aload_n 0, 1) := by decide +kernel
theorem dX6_split_72 : decode cX6_split 72 = .ok (.getfield 39, 3) := by decide +kernel
theorem dX6_split_75 : decode cX6_split 75 = .ok (.putfield 35, 3) := by decide +kernel
theorem dX6_split_78 : decode cX6_split 78 = .ok (.aload_n 0, 1) := by decide +kernel
theorem dX6_split_79 : decode cX6_split 79 = .ok (.aload_n 3, 1) := by decide +kernel
theorem dX6_split_80 : decode cX6_split 80 = .ok (.putfield 39, 3) := by decide +kernel
theorem dX6_split_83 : decode cX6_split 83 = .ok (.aload_n 0, 1) := by decide +kernel
theorem dX6_split_84 : decode cX6_split 84 = .ok (.getfield 51, 3) := by decide +kernel
theorem dX6_split_87 : decode cX6_split 87 = .ok (.invokevirtual 89, 3) := by decide +kernel
theorem dX6_split_90 : decode cX6_split 90 = .ok (.aload_n 0, 1) := by decide +kernel
theorem dX6_split_91 : decode cX6_split 91 = .ok (.iconst 1, 1) := by decide +kernel
theorem dX6_split_92 : decode cX6_split 92 = .ok (.putfield 61, 3) := by decide +kernel
theorem dX6_split_95 : decode cX6_split 95 = .ok (.aload_n 0, 1) := by decide +kernel
theorem dX6_split_96 : decode cX6_split 96 = .ok (.iconst 0, 1) := by decide +kernel
theorem dX6_split_97 : decode cX6_split 97 = .ok (.putfield 65, 3) := by decide +kernel
theorem dX6_split_100 : decode cX6_split 100 = .ok (.aload_n 0, 1) := by decide +kernel
theorem dX6_split_101 : decode cX6_split 101 = .ok (.iconst 0, 1) := by decide +kernel
theorem dX6_split_102 : decode cX6_split 102 = .ok (.putfield 68, 3) := by decide +kernel
theorem dX6_split_105 : decode cX6_split 105 = .ok (.aload_n 0, 1) := by decide +kernel
theorem dX6_split_106 : decode cX6_split 106 = .ok (.getfield 39, 3) := by decide +kernel
theorem dX6_split_109 : decode cX6_split 109 = .ok (.getfield 92, 3) := by decide +kernel
theorem dX6_split_112 : decode cX6_split 112 = .ok (.ireturn, 1) := by decide +kernel
theorem dX6_fault_0 : decode cX6_fault 0 = .ok (.aload_n 0, 1) := by decide +kernel
theorem dX6_fault_1 : decode cX6_fault 1 = .ok (.getfield 72, 3) := by decide +kernel
theorem dX6_fault_4 : decode cX6_fault 4 = .ok (.ireturn, 1) := by decide +kernel
theorem dX6_where_0 : decode cX6_where 0 = .ok (.aload_n 0, 1) := by decide +kernel
theorem dX6_where_1 : decode cX6_where 1 = .ok (.getfield 68, 3) := by decide +kernel
theorem dX6_where_4 : decode cX6_where 4 = .ok (.iconst 4, 1) := by decide +kernel
theorem dX6_where_5 : decode cX6_where 5 = .ok (.if_icmp .ne 13, 3) := by decide +kernel
theorem dX6_where_8 : decode cX6_where 8 = .ok (.aload_n 0, 1) := by decide +kernel
theorem dX6_where_9 : decode cX6_where 9 = .ok (.getfield 12, 3) := by decide +kernel
theorem dX6_where_12 : decode cX6_where 12 = .ok (.getfield 95, 3) := by decide +kernel
theorem dX6_where_15 : decode cX6_where 15 = .ok (.goto 4, 3) := by decide +kernel
theorem dX6_where_18 : decode cX6_where 18 = .ok (.iconst (-1), 1) := by decide +kernel
theorem dX6_where_19 : decode cX6_where 19 = .ok (.ireturn, 1) := by decide +kernel
theorem dX6_about_0 : decode cX6_about 0 = .ok (.aload_n 0, 1) := by decide +kernel
theorem dX6_about_1 : decode cX6_about 1 = .ok (.iload_n 1, 1) := by decide +kernel
theorem dX6_about_2 : decode cX6_about 2 = .ok (.iconst 0, 1) := by decide +kernel
theorem dX6_about_3 : decode cX6_about 3 = .ok (.iconst 4, 1) := by decide +kernel
theorem dX6_about_4 : decode cX6_about 4 = .ok (.invokestatic 98, 3) := by decide +kernel
theorem dX6_about_7 : decode cX6_about 7 = .ok (.iconst 1, 1) := by decide +kernel
theorem dX6_about_8 : decode cX6_about 8 = .ok (.iconst 1, 1) := by decide +kernel
theorem dX6_about_9 : decode cX6_about 9 = .ok (.invokevirtual 102, 3) := by decide +kernel
theorem dX6_about_12 : decode cX6_about 12 = .ok (.ifCond .ne 5, 3) := by decide +kernel
theorem dX6_about_15 : decode cX6_about 15 = .ok (.iconst (-1), 1) := by decide +kernel
theorem dX6_about_16 : decode cX6_about 16 = .ok (.ireturn, 1) := by decide +kernel
theorem dX6_about_17 : decode cX6_about 17 = .ok (.iload_n 1, 1) := by decide +kernel
theorem dX6_about_18 : decode cX6_about 18 = .ok (.tableswitch 62 0 3 #[30, 38, 46, 54], 30) := by decide +kernel
theorem dX6_about_48 : decode cX6_about 48 = .ok (.aload_n 0, 1) := by decide +kernel
theorem dX6_about_49 : decode cX6_about 49 = .ok (.getfield 39, 3) := by decide +kernel
theorem dX6_about_52 : decode cX6_about 52 = .ok (.getfield 106, 3) := by decide +kernel
theorem dX6_about_55 : decode cX6_about 55 = .ok (.ireturn, 1) := by decide +kernel
theorem dX6_about_56 : decode cX6_about 56 = .ok (.aload_n 0, 1) := by decide +kernel
theorem dX6_about_57 : decode cX6_about 57 = .ok (.getfield 39, 3) := by decide +kernel
theorem dX6_about_60 : decode cX6_about 60 = .ok (.getfield 109, 3) := by decide +kernel
theorem dX6_about_63 : decode cX6_about 63 = .ok (.ireturn, 1) := by decide +kernel
theorem dX6_about_64 : decode cX6_about 64 = .ok (.aload_n 0, 1) := by decide +kernel
theorem dX6_about_65 : decode cX6_about 65 = .ok (.getfield 39, 3) := by decide +kernel
theorem dX6_about_68 : decode cX6_about 68 = .ok (.getfield 112, 3) := by decide +kernel
theorem dX6_about_71 : decode cX6_about 71 = .ok (.ireturn, 1) := by decide +kernel
theorem dX6_about_72 : decode cX6_about 72 = .ok (.aload_n 0, 1) := by decide +kernel
theorem dX6_about_73 : decode cX6_about 73 = .ok (.getfield 39, 3) := by decide +kernel
theorem dX6_about_76 : decode cX6_about 76 = .ok (.getfield 92, 3) := by decide +kernel
theorem dX6_about_79 : decode cX6_about 79 = .ok (.ireturn, 1) := by decide +kernel
theorem dX6_about_80 : decode cX6_about 80 = .ok (.aload_n 0, 1) := by decide +kernel
theorem dX6_about_81 : decode cX6_about 81 = .ok (.getfield 39, 3) := by decide +kernel
theorem dX6_about_84 : decode cX6_about 84 = .ok (.getfield 115, 3) := by decide +kernel
theorem dX6_about_87 : decode cX6_about 87 = .ok (.ireturn, 1) := by decide +kernel
theorem dX6_venue_0 : decode cX6_venue 0 = .ok (.aload_n 0, 1) := by decide +kernel
theorem dX6_venue_1 : decode cX6_venue 1 = .ok (.aload_n 0, 1) := by decide +kernel
theorem dX6_venue_2 : decode cX6_venue 2 = .ok (.iload_n 1, 1) := by decide +kernel
theorem dX6_venue_3 : decode cX6_venue 3 = .ok (.invokevirtual 118, 3) := by decide +kernel
theorem dX6_venue_6 : decode cX6_venue 6 = .ok (.ifCond .eq 17, 3) := by decide +kernel
theorem dX6_venue_9 : decode cX6_venue 9 = .ok (.iload_n 2, 1) := by decide +kernel
theorem dX6_venue_10 : decode cX6_venue 10 = .ok (.iconst 0, 1) := by decide +kernel
theorem dX6_venue_11 : decode cX6_venue 11 = .ok (.bipush 6, 2) := by decide +kernel
theorem dX6_venue_13 : decode cX6_venue 13 = .ok (.invokestatic 98, 3) := by decide +kernel
theorem dX6_venue_16 : decode cX6_venue 16 = .ok (.ifCond .eq 7, 3) := by decide +kernel
theorem dX6_venue_19 : decode cX6_venue 19 = .ok (.iconst 1, 1) := by decide +kernel
theorem dX6_venue_20 : decode cX6_venue 20 = .ok (.goto 4, 3) := by decide +kernel
theorem dX6_venue_23 : decode cX6_venue 23 = .ok (.iconst 0, 1) := by decide +kernel
theorem dX6_venue_24 : decode cX6_venue 24 = .ok (.iconst 1, 1) := by decide +kernel
theorem dX6_venue_25 : decode cX6_venue 25 = .ok (.iconst 1, 1) := by decide +kernel
theorem dX6_venue_26 : decode cX6_venue 26 = .ok (.invokevirtual 102, 3) := by decide +kernel
theorem dX6_venue_29 : decode cX6_venue 29 = .ok (.ifCond .ne 6, 3) := by decide +kernel
theorem dX6_venue_32 : decode cX6_venue 32 = .ok (.ldc 122, 2) := by decide +kernel
theorem dX6_venue_34 : decode cX6_venue 34 = .ok (.ireturn, 1) := by decide +kernel
theorem dX6_venue_35 : decode cX6_venue 35 = .ok (.iload_n 2, 1) := by decide +kernel
theorem dX6_venue_36 : decode cX6_venue 36 = .ok (.tableswitch 100 0 5 #[40, 50, 60, 70, 80, 90], 40) := by decide +kernel
theorem dX6_venue_76 : decode cX6_venue 76 = .ok (.aload_n 0, 1) := by decide +kernel
theorem dX6_venue_77 : decode cX6_venue 77 = .ok (.getfield 39, 3) := by decide +kernel
theorem dX6_venue_80 : decode cX6_venue 80 = .ok (.getfield 123, 3) := by decide +kernel
theorem dX6_venue_83 : decode cX6_venue 83 = .ok (.iload_n 1, 1) := by decide +kernel
theorem dX6_venue_84 : decode cX6_venue 84 = .ok (.iaload, 1) := by decide +kernel
theorem dX6_venue_85 : decode cX6_venue 85 = .ok (.ireturn, 1) := by decide +kernel
theorem dX6_venue_86 : decode cX6_venue 86 = .ok (.aload_n 0, 1) := by decide +kernel
theorem dX6_venue_87 : decode cX6_venue 87 = .ok (.getfield 39, 3) := by decide +kernel
theorem dX6_venue_90 : decode cX6_venue 90 = .ok (.getfield 127, 3) := by decide +kernel
theorem dX6_venue_93 : decode cX6_venue 93 = .ok (.iload_n 1, 1) := by decide +kernel
theorem dX6_venue_94 : decode cX6_venue 94 = .ok (.iaload, 1) := by decide +kernel
theorem dX6_venue_95 : decode cX6_venue 95 = .ok (.ireturn, 1) := by decide +kernel
theorem dX6_venue_96 : decode cX6_venue 96 = .ok (.aload_n 0, 1) := by decide +kernel
theorem dX6_venue_97 : decode cX6_venue 97 = .ok (.getfield 39, 3) := by decide +kernel
theorem dX6_venue_100 : decode cX6_venue 100 = .ok (.getfield 130, 3) := by decide +kernel
theorem dX6_venue_103 : decode cX6_venue 103 = .ok (.iload_n 1, 1) := by decide +kernel
theorem dX6_venue_104 : decode cX6_venue 104 = .ok (.iaload, 1) := by decide +kernel
theorem dX6_venue_105 : decode cX6_venue 105 = .ok (.ireturn, 1) := by decide +kernel
theorem dX6_venue_106 : decode cX6_venue 106 = .ok (.aload_n 0, 1) := by decide +kernel
theorem dX6_venue_107 : decode cX6_venue 107 = .ok (.getfield 39, 3) := by decide +kernel
theorem dX6_venue_110 : decode cX6_venue 110 = .ok (.getfield 133, 3) := by decide +kernel
theorem dX6_venue_113 : decode cX6_venue 113 = .ok (.iload_n 1, 1) := by decide +kernel
theorem dX6_venue_114 : decode cX6_venue 114 = .ok (.iaload, 1) := by decide +kernel
theorem dX6_venue_115 : decode cX6_venue 115 = .ok (.ireturn, 1) := by decide +kernel
theorem dX6_venue_116 : decode cX6_venue 116 = .ok (.aload_n 0, 1) := by decide +kernel
theorem dX6_venue_117 : decode cX6_venue 117 = .ok (.getfield 39, 3) := by decide +kernel
theorem dX6_venue_120 : decode cX6_venue 120 = .ok (.getfield 136, 3) := by decide +kernel
theorem dX6_venue_123 : decode cX6_venue 123 = .ok (.iload_n 1, 1) := by decide +kernel
theorem dX6_venue_124 : decode cX6_venue 124 = .ok (.iaload, 1) := by decide +kernel
theorem dX6_venue_125 : decode cX6_venue 125 = .ok (.ireturn, 1) := by decide +kernel
theorem dX6_venue_126 : decode cX6_venue 126 = .ok (.aload_n 0, 1) := by decide +kernel
theorem dX6_venue_127 : decode cX6_venue 127 = .ok (.getfield 39, 3) := by decide +kernel
theorem dX6_venue_130 : decode cX6_venue 130 = .ok (.getfield 139, 3) := by decide +kernel
theorem dX6_venue_133 : decode cX6_venue 133 = .ok (.iload_n 1, 1) := by decide +kernel
theorem dX6_venue_134 : decode cX6_venue 134 = .ok (.iaload, 1) := by decide +kernel
theorem dX6_venue_135 : decode cX6_venue 135 = .ok (.ireturn, 1) := by decide +kernel
theorem dX6_venue_136 : decode cX6_venue 136 = .ok (.aload_n 0, 1) := by decide +kernel
theorem dX6_venue_137 : decode cX6_venue 137 = .ok (.getfield 39, 3) := by decide +kernel
theorem dX6_venue_140 : decode cX6_venue 140 = .ok (.iload_n 1, 1) := by decide +kernel
theorem dX6_venue_141 : decode cX6_venue 141 = .ok (.invokevirtual 142, 3) := by decide +kernel
theorem dX6_venue_144 : decode cX6_venue 144 = .ok (.ireturn, 1) := by decide +kernel
theorem dX6_level_0 : decode cX6_level 0 = .ok (.aload_n 0, 1) := by decide +kernel
theorem dX6_level_1 : decode cX6_level 1 = .ok (.aload_n 0, 1) := by decide +kernel
theorem dX6_level_2 : decode cX6_level 2 = .ok (.iload_n 1, 1) := by decide +kernel
theorem dX6_level_3 : decode cX6_level 3 = .ok (.iload_n 2, 1) := by decide +kernel
theorem dX6_level_4 : decode cX6_level 4 = .ok (.invokevirtual 146, 3) := by decide +kernel
theorem dX6_level_7 : decode cX6_level 7 = .ok (.ifCond .eq 16, 3) := by decide +kernel
theorem dX6_level_10 : decode cX6_level 10 = .ok (.iload_n 3, 1) := by decide +kernel
theorem dX6_level_11 : decode cX6_level 11 = .ok (.iconst 0, 1) := by decide +kernel
theorem dX6_level_12 : decode cX6_level 12 = .ok (.iconst 1, 1) := by decide +kernel
theorem dX6_level_13 : decode cX6_level 13 = .ok (.invokestatic 98, 3) := by decide +kernel
theorem dX6_level_16 : decode cX6_level 16 = .ok (.ifCond .eq 7, 3) := by decide +kernel
theorem dX6_level_19 : decode cX6_level 19 = .ok (.iconst 1, 1) := by decide +kernel
theorem dX6_level_20 : decode cX6_level 20 = .ok (.goto 4, 3) := by decide +kernel
theorem dX6_level_23 : decode cX6_level 23 = .ok (.iconst 0, 1) := by decide +kernel
theorem dX6_level_24 : decode cX6_level 24 = .ok (.iconst 1, 1) := by decide +kernel
theorem dX6_level_25 : decode cX6_level 25 = .ok (.iconst 1, 1) := by decide +kernel
theorem dX6_level_26 : decode cX6_level 26 = .ok (.invokevirtual 102, 3) := by decide +kernel
theorem dX6_level_29 : decode cX6_level 29 = .ok (.ifCond .ne 5, 3) := by decide +kernel
theorem dX6_level_32 : decode cX6_level 32 = .ok (.iconst (-1), 1) := by decide +kernel
theorem dX6_level_33 : decode cX6_level 33 = .ok (.ireturn, 1) := by decide +kernel
theorem dX6_level_34 : decode cX6_level 34 = .ok (.iload_n 1, 1) := by decide +kernel
theorem dX6_level_35 : decode cX6_level 35 = .ok (.iload_n 2, 1) := by decide +kernel
theorem dX6_level_36 : decode cX6_level 36 = .ok (.invokestatic 150, 3) := by decide +kernel
theorem dX6_level_39 : decode cX6_level 39 = .ok (.istore 4, 2) := by decide +kernel
theorem dX6_level_41 : decode cX6_level 41 = .ok (.iload_n 3, 1) := by decide +kernel
theorem dX6_level_42 : decode cX6_level 42 = .ok (.ifCond .ne 16, 3) := by decide +kernel
theorem dX6_level_45 : decode cX6_level 45 = .ok (.aload_n 0, 1) := by decide +kernel
theorem dX6_level_46 : decode cX6_level 46 = .ok (.getfield 39, 3) := by decide +kernel
theorem dX6_level_49 : decode cX6_level 49 = .ok (.getfield 154, 3) := by decide +kernel
theorem dX6_level_52 : decode cX6_level 52 = .ok (.iload 4, 2) := by decide +kernel
theorem dX6_level_54 : decode cX6_level 54 = .ok (.iaload, 1) := by decide +kernel
theorem dX6_level_55 : decode cX6_level 55 = .ok (.goto 13, 3) := by decide +kernel
theorem dX6_level_58 : decode cX6_level 58 = .ok (.aload_n 0, 1) := by decide +kernel
theorem dX6_level_59 : decode cX6_level 59 = .ok (.getfield 39, 3) := by decide +kernel
theorem dX6_level_62 : decode cX6_level 62 = .ok (.getfield 157, 3) := by decide +kernel
theorem dX6_level_65 : decode cX6_level 65 = .ok (.iload 4, 2) := by decide +kernel
theorem dX6_level_67 : decode cX6_level 67 = .ok (.iaload, 1) := by decide +kernel
theorem dX6_level_68 : decode cX6_level 68 = .ok (.ireturn, 1) := by decide +kernel
theorem dX6_charge_0 : decode cX6_charge 0 = .ok (.aload_n 0, 1) := by decide +kernel
theorem dX6_charge_1 : decode cX6_charge 1 = .ok (.aload_n 0, 1) := by decide +kernel
theorem dX6_charge_2 : decode cX6_charge 2 = .ok (.iload_n 1, 1) := by decide +kernel
theorem dX6_charge_3 : decode cX6_charge 3 = .ok (.invokevirtual 118, 3) := by decide +kernel
theorem dX6_charge_6 : decode cX6_charge 6 = .ok (.iload_n 2, 1) := by decide +kernel
theorem dX6_charge_7 : decode cX6_charge 7 = .ok (.iconst 0, 1) := by decide +kernel
theorem dX6_charge_8 : decode cX6_charge 8 = .ok (.bipush 120, 2) := by decide +kernel
theorem dX6_charge_10 : decode cX6_charge 10 = .ok (.invokestatic 98, 3) := by decide +kernel
theorem dX6_charge_13 : decode cX6_charge 13 = .ok (.iconst 1, 1) := by decide +kernel
theorem dX6_charge_14 : decode cX6_charge 14 = .ok (.invokevirtual 102, 3) := by decide +kernel
theorem dX6_charge_17 : decode cX6_charge 17 = .ok (.ifCond .ne 6, 3) := by decide +kernel
theorem dX6_charge_20 : decode cX6_charge 20 = .ok (.ldc 122, 2) := by decide +kernel
theorem dX6_charge_22 : decode cX6_charge 22 = .ok (.ireturn, 1) := by decide +kernel
theorem dX6_charge_23 : decode cX6_charge 23 = .ok (.aload_n 0, 1) := by decide +kernel
theorem dX6_charge_24 : decode cX6_charge 24 = .ok (.getfield 39, 3) := by decide +kernel
theorem dX6_charge_27 : decode cX6_charge 27 = .ok (.iload_n 1, 1) := by decide +kernel
theorem dX6_charge_28 : decode cX6_charge 28 = .ok (.iload_n 2, 1) := by decide +kernel
theorem dX6_charge_29 : decode cX6_charge 29 = .ok (.invokevirtual 160, 3) := by decide +kernel
theorem dX6_charge_32 : decode cX6_charge 32 = .ok (.ireturn, 1) := by decide +kernel
theorem dX6_cost_0 : decode cX6_cost 0 = .ok (.aload_n 0, 1) := by decide +kernel
theorem dX6_cost_1 : decode cX6_cost 1 = .ok (.aload_n 0, 1) := by decide +kernel
theorem dX6_cost_2 : decode cX6_cost 2 = .ok (.iload_n 1, 1) := by decide +kernel
theorem dX6_cost_3 : decode cX6_cost 3 = .ok (.invokevirtual 118, 3) := by decide +kernel
theorem dX6_cost_6 : decode cX6_cost 6 = .ok (.aload_n 0, 1) := by decide +kernel
theorem dX6_cost_7 : decode cX6_cost 7 = .ok (.iload_n 1, 1) := by decide +kernel
theorem dX6_cost_8 : decode cX6_cost 8 = .ok (.invokevirtual 118, 3) := by decide +kernel
theorem dX6_cost_11 : decode cX6_cost 11 = .ok (.ifCond .eq 19, 3) := by decide +kernel
theorem dX6_cost_14 : decode cX6_cost 14 = .ok (.aload_n 0, 1) := by decide +kernel
theorem dX6_cost_15 : decode cX6_cost 15 = .ok (.getfield 39, 3) := by decide +kernel
theorem dX6_cost_18 : decode cX6_cost 18 = .ok (.iload_n 1, 1) := by decide +kernel
theorem dX6_cost_19 : decode cX6_cost 19 = .ok (.iload_n 2, 1) := by decide +kernel
theorem dX6_cost_20 : decode cX6_cost 20 = .ok (.invokevirtual 163, 3) := by decide +kernel
theorem dX6_cost_23 : decode cX6_cost 23 = .ok (.ifCond .eq 7, 3) := by decide +kernel
theorem dX6_cost_26 : decode cX6_cost 26 = .ok (.iconst 1, 1) := by decide +kernel
theorem dX6_cost_27 : decode cX6_cost 27 = .ok (.goto 4, 3) := by decide +kernel
theorem dX6_cost_30 : decode cX6_cost 30 = .ok (.iconst 0, 1) := by decide +kernel
theorem dX6_cost_31 : decode cX6_cost 31 = .ok (.iconst 1, 1) := by decide +kernel
theorem dX6_cost_32 : decode cX6_cost 32 = .ok (.invokevirtual 102, 3) := by decide +kernel
theorem dX6_cost_35 : decode cX6_cost 35 = .ok (.ifCond .ne 6, 3) := by decide +kernel
theorem dX6_cost_38 : decode cX6_cost 38 = .ok (.ldc 122, 2) := by decide +kernel
theorem dX6_cost_40 : decode cX6_cost 40 = .ok (.ireturn, 1) := by decide +kernel
theorem dX6_cost_41 : decode cX6_cost 41 = .ok (.aload_n 0, 1) := by decide +kernel
theorem dX6_cost_42 : decode cX6_cost 42 = .ok (.getfield 39, 3) := by decide +kernel
theorem dX6_cost_45 : decode cX6_cost 45 = .ok (.iload_n 1, 1) := by decide +kernel
theorem dX6_cost_46 : decode cX6_cost 46 = .ok (.iload_n 2, 1) := by decide +kernel
theorem dX6_cost_47 : decode cX6_cost 47 = .ok (.invokevirtual 166, 3) := by decide +kernel
theorem dX6_cost_50 : decode cX6_cost 50 = .ok (.ireturn, 1) := by decide +kernel
theorem dX6_under_0 : decode cX6_under 0 = .ok (.aload_n 0, 1) := by decide +kernel
theorem dX6_under_1 : decode cX6_under 1 = .ok (.aload_n 0, 1) := by decide +kernel
theorem dX6_under_2 : decode cX6_under 2 = .ok (.iload_n 1, 1) := by decide +kernel
theorem dX6_under_3 : decode cX6_under 3 = .ok (.invokevirtual 118, 3) := by decide +kernel
theorem dX6_under_6 : decode cX6_under 6 = .ok (.iload_n 2, 1) := by decide +kernel
theorem dX6_under_7 : decode cX6_under 7 = .ok (.iconst 1, 1) := by decide +kernel
theorem dX6_under_8 : decode cX6_under 8 = .ok (.sipush 999, 3) := by decide +kernel
theorem dX6_under_11 : decode cX6_under 11 = .ok (.invokestatic 98, 3) := by decide +kernel
theorem dX6_under_14 : decode cX6_under 14 = .ok (.iconst 1, 1) := by decide +kernel
theorem dX6_under_15 : decode cX6_under 15 = .ok (.invokevirtual 102, 3) := by decide +kernel
theorem dX6_under_18 : decode cX6_under 18 = .ok (.ifCond .ne 5, 3) := by decide +kernel
theorem dX6_under_21 : decode cX6_under 21 = .ok (.iconst (-1), 1) := by decide +kernel
theorem dX6_under_22 : decode cX6_under 22 = .ok (.ireturn, 1) := by decide +kernel
theorem dX6_under_23 : decode cX6_under 23 = .ok (.aload_n 0, 1) := by decide +kernel
theorem dX6_under_24 : decode cX6_under 24 = .ok (.getfield 39, 3) := by decide +kernel
theorem dX6_under_27 : decode cX6_under 27 = .ok (.iload_n 1, 1) := by decide +kernel
theorem dX6_under_28 : decode cX6_under 28 = .ok (.iload_n 2, 1) := by decide +kernel
theorem dX6_under_29 : decode cX6_under 29 = .ok (.invokevirtual 169, 3) := by decide +kernel
theorem dX6_under_32 : decode cX6_under 32 = .ok (.ireturn, 1) := by decide +kernel
theorem dX6_units_0 : decode cX6_units 0 = .ok (.aload_n 0, 1) := by decide +kernel
theorem dX6_units_1 : decode cX6_units 1 = .ok (.iconst 1, 1) := by decide +kernel
theorem dX6_units_2 : decode cX6_units 2 = .ok (.iload_n 1, 1) := by decide +kernel
theorem dX6_units_3 : decode cX6_units 3 = .ok (.invokevirtual 172, 3) := by decide +kernel
theorem dX6_units_6 : decode cX6_units 6 = .ok (.ifCond .ne 5, 3) := by decide +kernel
theorem dX6_units_9 : decode cX6_units 9 = .ok (.iconst (-1), 1) := by decide +kernel
theorem dX6_units_10 : decode cX6_units 10 = .ok (.ireturn, 1) := by decide +kernel
theorem dX6_units_11 : decode cX6_units 11 = .ok (.aload_n 0, 1) := by decide +kernel
theorem dX6_units_12 : decode cX6_units 12 = .ok (.getfield 21, 3) := by decide +kernel
theorem dX6_units_15 : decode cX6_units 15 = .ok (.aload_n 0, 1) := by decide +kernel
theorem dX6_units_16 : decode cX6_units 16 = .ok (.getfield 39, 3) := by decide +kernel
theorem dX6_units_19 : decode cX6_units 19 = .ok (.iload_n 1, 1) := by decide +kernel
theorem dX6_units_20 : decode cX6_units 20 = .ok (.iconst (-1), 1) := by decide +kernel
theorem dX6_units_21 : decode cX6_units 21 = .ok (.invokevirtual 176, 3) := by decide +kernel
theorem dX6_units_24 : decode cX6_units 24 = .ok (.aload_n 0, 1) := by decide +kernel
theorem dX6_units_25 : decode cX6_units 25 = .ok (.getfield 21, 3) := by decide +kernel
theorem dX6_units_28 : decode cX6_units 28 = .ok (.getfield 180, 3) := by decide +kernel
theorem dX6_units_31 : decode cX6_units 31 = .ok (.ireturn, 1) := by decide +kernel
theorem dX6_best_0 : decode cX6_best 0 = .ok (.aload_n 0, 1) := by decide +kernel
theorem dX6_best_1 : decode cX6_best 1 = .ok (.iconst 1, 1) := by decide +kernel
theorem dX6_best_2 : decode cX6_best 2 = .ok (.iload_n 1, 1) := by decide +kernel
theorem dX6_best_3 : decode cX6_best 3 = .ok (.invokevirtual 172, 3) := by decide +kernel
theorem dX6_best_6 : decode cX6_best 6 = .ok (.ifCond .ne 6, 3) := by decide +kernel
theorem dX6_best_9 : decode cX6_best 9 = .ok (.ldc 122, 2) := by decide +kernel
theorem dX6_best_11 : decode cX6_best 11 = .ok (.ireturn, 1) := by decide +kernel
theorem dX6_best_12 : decode cX6_best 12 = .ok (.aload_n 0, 1) := by decide +kernel
theorem dX6_best_13 : decode cX6_best 13 = .ok (.getfield 21, 3) := by decide +kernel
theorem dX6_best_16 : decode cX6_best 16 = .ok (.aload_n 0, 1) := by decide +kernel
theorem dX6_best_17 : decode cX6_best 17 = .ok (.getfield 39, 3) := by decide +kernel
theorem dX6_best_20 : decode cX6_best 20 = .ok (.iload_n 1, 1) := by decide +kernel
theorem dX6_best_21 : decode cX6_best 21 = .ok (.iconst (-1), 1) := by decide +kernel
theorem dX6_best_22 : decode cX6_best 22 = .ok (.invokevirtual 176, 3) := by decide +kernel
theorem dX6_best_25 : decode cX6_best 25 = .ok (.aload_n 0, 1) := by decide +kernel
theorem dX6_best_26 : decode cX6_best 26 = .ok (.getfield 21, 3) := by decide +kernel
theorem dX6_best_29 : decode cX6_best 29 = .ok (.getfield 183, 3) := by decide +kernel
theorem dX6_best_32 : decode cX6_best 32 = .ok (.ireturn, 1) := by decide +kernel
theorem dX6_share_0 : decode cX6_share 0 = .ok (.aload_n 0, 1) := by decide +kernel
theorem dX6_share_1 : decode cX6_share 1 = .ok (.aload_n 0, 1) := by decide +kernel
theorem dX6_share_2 : decode cX6_share 2 = .ok (.iload_n 2, 1) := by decide +kernel
theorem dX6_share_3 : decode cX6_share 3 = .ok (.invokevirtual 118, 3) := by decide +kernel
theorem dX6_share_6 : decode cX6_share 6 = .ok (.iload_n 1, 1) := by decide +kernel
theorem dX6_share_7 : decode cX6_share 7 = .ok (.invokevirtual 172, 3) := by decide +kernel
theorem dX6_share_10 : decode cX6_share 10 = .ok (.ifCond .ne 5, 3) := by decide +kernel
theorem dX6_share_13 : decode cX6_share 13 = .ok (.iconst (-1), 1) := by decide +kernel
theorem dX6_share_14 : decode cX6_share 14 = .ok (.ireturn, 1) := by decide +kernel
theorem dX6_share_15 : decode cX6_share 15 = .ok (.aload_n 0, 1) := by decide +kernel
theorem dX6_share_16 : decode cX6_share 16 = .ok (.getfield 21, 3) := by decide +kernel
theorem dX6_share_19 : decode cX6_share 19 = .ok (.aload_n 0, 1) := by decide +kernel
theorem dX6_share_20 : decode cX6_share 20 = .ok (.getfield 39, 3) := by decide +kernel
theorem dX6_share_23 : decode cX6_share 23 = .ok (.iload_n 1, 1) := by decide +kernel
theorem dX6_share_24 : decode cX6_share 24 = .ok (.iconst (-1), 1) := by decide +kernel
theorem dX6_share_25 : decode cX6_share 25 = .ok (.invokevirtual 176, 3) := by decide +kernel
theorem dX6_share_28 : decode cX6_share 28 = .ok (.aload_n 0, 1) := by decide +kernel
theorem dX6_share_29 : decode cX6_share 29 = .ok (.getfield 21, 3) := by decide +kernel
theorem dX6_share_32 : decode cX6_share 32 = .ok (.getfield 186, 3) := by decide +kernel
theorem dX6_share_35 : decode cX6_share 35 = .ok (.iload_n 2, 1) := by decide +kernel
theorem dX6_share_36 : decode cX6_share 36 = .ok (.iaload, 1) := by decide +kernel
theorem dX6_share_37 : decode cX6_share 37 = .ok (.ireturn, 1) := by decide +kernel
theorem dX6_bound_0 : decode cX6_bound 0 = .ok (.aload_n 0, 1) := by decide +kernel
theorem dX6_bound_1 : decode cX6_bound 1 = .ok (.iconst 1, 1) := by decide +kernel
theorem dX6_bound_2 : decode cX6_bound 2 = .ok (.iload_n 1, 1) := by decide +kernel
theorem dX6_bound_3 : decode cX6_bound 3 = .ok (.invokevirtual 172, 3) := by decide +kernel
theorem dX6_bound_6 : decode cX6_bound 6 = .ok (.ifCond .ne 6, 3) := by decide +kernel
theorem dX6_bound_9 : decode cX6_bound 9 = .ok (.ldc 122, 2) := by decide +kernel
theorem dX6_bound_11 : decode cX6_bound 11 = .ok (.ireturn, 1) := by decide +kernel
theorem dX6_bound_12 : decode cX6_bound 12 = .ok (.aload_n 0, 1) := by decide +kernel
theorem dX6_bound_13 : decode cX6_bound 13 = .ok (.getfield 28, 3) := by decide +kernel
theorem dX6_bound_16 : decode cX6_bound 16 = .ok (.aload_n 0, 1) := by decide +kernel
theorem dX6_bound_17 : decode cX6_bound 17 = .ok (.getfield 39, 3) := by decide +kernel
theorem dX6_bound_20 : decode cX6_bound 20 = .ok (.iload_n 1, 1) := by decide +kernel
theorem dX6_bound_21 : decode cX6_bound 21 = .ok (.invokevirtual 189, 3) := by decide +kernel
theorem dX6_bound_24 : decode cX6_bound 24 = .ok (.aload_n 0, 1) := by decide +kernel
theorem dX6_bound_25 : decode cX6_bound 25 = .ok (.getfield 28, 3) := by decide +kernel
theorem dX6_bound_28 : decode cX6_bound 28 = .ok (.getfield 193, 3) := by decide +kernel
theorem dX6_bound_31 : decode cX6_bound 31 = .ok (.ireturn, 1) := by decide +kernel
theorem dX6_margin_0 : decode cX6_margin 0 = .ok (.aload_n 0, 1) := by decide +kernel
theorem dX6_margin_1 : decode cX6_margin 1 = .ok (.iconst 1, 1) := by decide +kernel
theorem dX6_margin_2 : decode cX6_margin 2 = .ok (.iload_n 1, 1) := by decide +kernel
theorem dX6_margin_3 : decode cX6_margin 3 = .ok (.invokevirtual 172, 3) := by decide +kernel
theorem dX6_margin_6 : decode cX6_margin 6 = .ok (.ifCond .ne 6, 3) := by decide +kernel
theorem dX6_margin_9 : decode cX6_margin 9 = .ok (.ldc 122, 2) := by decide +kernel
theorem dX6_margin_11 : decode cX6_margin 11 = .ok (.ireturn, 1) := by decide +kernel
theorem dX6_margin_12 : decode cX6_margin 12 = .ok (.aload_n 0, 1) := by decide +kernel
theorem dX6_margin_13 : decode cX6_margin 13 = .ok (.getfield 28, 3) := by decide +kernel
theorem dX6_margin_16 : decode cX6_margin 16 = .ok (.aload_n 0, 1) := by decide +kernel
theorem dX6_margin_17 : decode cX6_margin 17 = .ok (.getfield 39, 3) := by decide +kernel
theorem dX6_margin_20 : decode cX6_margin 20 = .ok (.iload_n 1, 1) := by decide +kernel
theorem dX6_margin_21 : decode cX6_margin 21 = .ok (.invokevirtual 189, 3) := by decide +kernel
theorem dX6_margin_24 : decode cX6_margin 24 = .ok (.aload_n 0, 1) := by decide +kernel
theorem dX6_margin_25 : decode cX6_margin 25 = .ok (.getfield 28, 3) := by decide +kernel
theorem dX6_margin_28 : decode cX6_margin 28 = .ok (.getfield 196, 3) := by decide +kernel
theorem dX6_margin_31 : decode cX6_margin 31 = .ok (.ireturn, 1) := by decide +kernel
theorem dX6_gap_0 : decode cX6_gap 0 = .ok (.aload_n 0, 1) := by decide +kernel
theorem dX6_gap_1 : decode cX6_gap 1 = .ok (.iconst 1, 1) := by decide +kernel
theorem dX6_gap_2 : decode cX6_gap 2 = .ok (.iload_n 1, 1) := by decide +kernel
theorem dX6_gap_3 : decode cX6_gap 3 = .ok (.invokevirtual 172, 3) := by decide +kernel
theorem dX6_gap_6 : decode cX6_gap 6 = .ok (.ifCond .ne 5, 3) := by decide +kernel
theorem dX6_gap_9 : decode cX6_gap 9 = .ok (.iconst (-1), 1) := by decide +kernel
theorem dX6_gap_10 : decode cX6_gap 10 = .ok (.ireturn, 1) := by decide +kernel
theorem dX6_gap_11 : decode cX6_gap 11 = .ok (.aload_n 0, 1) := by decide +kernel
theorem dX6_gap_12 : decode cX6_gap 12 = .ok (.getfield 21, 3) := by decide +kernel
theorem dX6_gap_15 : decode cX6_gap 15 = .ok (.aload_n 0, 1) := by decide +kernel
theorem dX6_gap_16 : decode cX6_gap 16 = .ok (.getfield 39, 3) := by decide +kernel
theorem dX6_gap_19 : decode cX6_gap 19 = .ok (.iload_n 1, 1) := by decide +kernel
theorem dX6_gap_20 : decode cX6_gap 20 = .ok (.iconst (-1), 1) := by decide +kernel
theorem dX6_gap_21 : decode cX6_gap 21 = .ok (.invokevirtual 176, 3) := by decide +kernel
theorem dX6_gap_24 : decode cX6_gap 24 = .ok (.aload_n 0, 1) := by decide +kernel
theorem dX6_gap_25 : decode cX6_gap 25 = .ok (.getfield 28, 3) := by decide +kernel
theorem dX6_gap_28 : decode cX6_gap 28 = .ok (.aload_n 0, 1) := by decide +kernel
theorem dX6_gap_29 : decode cX6_gap 29 = .ok (.getfield 39, 3) := by decide +kernel
theorem dX6_gap_32 : decode cX6_gap 32 = .ok (.aload_n 0, 1) := by decide +kernel
theorem dX6_gap_33 : decode cX6_gap 33 = .ok (.getfield 21, 3) := by decide +kernel
theorem dX6_gap_36 : decode cX6_gap 36 = .ok (.getfield 180, 3) := by decide +kernel
theorem dX6_gap_39 : decode cX6_gap 39 = .ok (.invokevirtual 189, 3) := by decide +kernel
theorem dX6_gap_42 : decode cX6_gap 42 = .ok (.aload_n 0, 1) := by decide +kernel
theorem dX6_gap_43 : decode cX6_gap 43 = .ok (.getfield 21, 3) := by decide +kernel
theorem dX6_gap_46 : decode cX6_gap 46 = .ok (.getfield 183, 3) := by decide +kernel
theorem dX6_gap_49 : decode cX6_gap 49 = .ok (.aload_n 0, 1) := by decide +kernel
theorem dX6_gap_50 : decode cX6_gap 50 = .ok (.getfield 28, 3) := by decide +kernel
theorem dX6_gap_53 : decode cX6_gap 53 = .ok (.getfield 193, 3) := by decide +kernel
theorem dX6_gap_56 : decode cX6_gap 56 = .ok (.isub, 1) := by decide +kernel
theorem dX6_gap_57 : decode cX6_gap 57 = .ok (.ireturn, 1) := by decide +kernel
theorem dX6_greedy_0 : decode cX6_greedy 0 = .ok (.aload_n 0, 1) := by decide +kernel
theorem dX6_greedy_1 : decode cX6_greedy 1 = .ok (.iload_n 2, 1) := by decide +kernel
theorem dX6_greedy_2 : decode cX6_greedy 2 = .ok (.iconst 0, 1) := by decide +kernel
theorem dX6_greedy_3 : decode cX6_greedy 3 = .ok (.iconst 2, 1) := by decide +kernel
theorem dX6_greedy_4 : decode cX6_greedy 4 = .ok (.invokestatic 98, 3) := by decide +kernel
theorem dX6_greedy_7 : decode cX6_greedy 7 = .ok (.iload_n 1, 1) := by decide +kernel
theorem dX6_greedy_8 : decode cX6_greedy 8 = .ok (.invokevirtual 172, 3) := by decide +kernel
theorem dX6_greedy_11 : decode cX6_greedy 11 = .ok (.ifCond .ne 6, 3) := by decide +kernel
theorem dX6_greedy_14 : decode cX6_greedy 14 = .ok (.ldc 122, 2) := by decide +kernel
theorem dX6_greedy_16 : decode cX6_greedy 16 = .ok (.ireturn, 1) := by decide +kernel
theorem dX6_greedy_17 : decode cX6_greedy 17 = .ok (.aload_n 0, 1) := by decide +kernel
theorem dX6_greedy_18 : decode cX6_greedy 18 = .ok (.getfield 21, 3) := by decide +kernel
theorem dX6_greedy_21 : decode cX6_greedy 21 = .ok (.aload_n 0, 1) := by decide +kernel
theorem dX6_greedy_22 : decode cX6_greedy 22 = .ok (.getfield 39, 3) := by decide +kernel
theorem dX6_greedy_25 : decode cX6_greedy 25 = .ok (.iload_n 1, 1) := by decide +kernel
theorem dX6_greedy_26 : decode cX6_greedy 26 = .ok (.invokevirtual 199, 3) := by decide +kernel
theorem dX6_greedy_29 : decode cX6_greedy 29 = .ok (.iload_n 2, 1) := by decide +kernel
theorem dX6_greedy_30 : decode cX6_greedy 30 = .ok (.lookupswitch 42 #[(0, 26), (1, 34)], 26) := by decide +kernel
theorem dX6_greedy_56 : decode cX6_greedy 56 = .ok (.aload_n 0, 1) := by decide +kernel
theorem dX6_greedy_57 : decode cX6_greedy 57 = .ok (.getfield 21, 3) := by decide +kernel
theorem dX6_greedy_60 : decode cX6_greedy 60 = .ok (.getfield 183, 3) := by decide +kernel
theorem dX6_greedy_63 : decode cX6_greedy 63 = .ok (.ireturn, 1) := by decide +kernel
theorem dX6_greedy_64 : decode cX6_greedy 64 = .ok (.aload_n 0, 1) := by decide +kernel
theorem dX6_greedy_65 : decode cX6_greedy 65 = .ok (.getfield 21, 3) := by decide +kernel
theorem dX6_greedy_68 : decode cX6_greedy 68 = .ok (.getfield 180, 3) := by decide +kernel
theorem dX6_greedy_71 : decode cX6_greedy 71 = .ok (.ireturn, 1) := by decide +kernel
theorem dX6_greedy_72 : decode cX6_greedy 72 = .ok (.aload_n 0, 1) := by decide +kernel
theorem dX6_greedy_73 : decode cX6_greedy 73 = .ok (.getfield 21, 3) := by decide +kernel
theorem dX6_greedy_76 : decode cX6_greedy 76 = .ok (.aload_n 0, 1) := by decide +kernel
theorem dX6_greedy_77 : decode cX6_greedy 77 = .ok (.getfield 39, 3) := by decide +kernel
theorem dX6_greedy_80 : decode cX6_greedy 80 = .ok (.invokevirtual 202, 3) := by decide +kernel
theorem dX6_greedy_83 : decode cX6_greedy 83 = .ok (.ireturn, 1) := by decide +kernel
theorem dX6_worth_0 : decode cX6_worth 0 = .ok (.aload_n 0, 1) := by decide +kernel
theorem dX6_worth_1 : decode cX6_worth 1 = .ok (.aload_n 0, 1) := by decide +kernel
theorem dX6_worth_2 : decode cX6_worth 2 = .ok (.iload_n 2, 1) := by decide +kernel
theorem dX6_worth_3 : decode cX6_worth 3 = .ok (.invokevirtual 118, 3) := by decide +kernel
theorem dX6_worth_6 : decode cX6_worth 6 = .ok (.iload_n 1, 1) := by decide +kernel
theorem dX6_worth_7 : decode cX6_worth 7 = .ok (.invokevirtual 172, 3) := by decide +kernel
theorem dX6_worth_10 : decode cX6_worth 10 = .ok (.ifCond .ne 5, 3) := by decide +kernel
theorem dX6_worth_13 : decode cX6_worth 13 = .ok (.iconst (-1), 1) := by decide +kernel
theorem dX6_worth_14 : decode cX6_worth 14 = .ok (.ireturn, 1) := by decide +kernel
theorem dX6_worth_15 : decode cX6_worth 15 = .ok (.aload_n 0, 1) := by decide +kernel
theorem dX6_worth_16 : decode cX6_worth 16 = .ok (.getfield 21, 3) := by decide +kernel
theorem dX6_worth_19 : decode cX6_worth 19 = .ok (.aload_n 0, 1) := by decide +kernel
theorem dX6_worth_20 : decode cX6_worth 20 = .ok (.getfield 39, 3) := by decide +kernel
theorem dX6_worth_23 : decode cX6_worth 23 = .ok (.iload_n 1, 1) := by decide +kernel
theorem dX6_worth_24 : decode cX6_worth 24 = .ok (.iconst (-1), 1) := by decide +kernel
theorem dX6_worth_25 : decode cX6_worth 25 = .ok (.invokevirtual 176, 3) := by decide +kernel
theorem dX6_worth_28 : decode cX6_worth 28 = .ok (.aload_n 0, 1) := by decide +kernel
theorem dX6_worth_29 : decode cX6_worth 29 = .ok (.getfield 21, 3) := by decide +kernel
theorem dX6_worth_32 : decode cX6_worth 32 = .ok (.getfield 180, 3) := by decide +kernel
theorem dX6_worth_35 : decode cX6_worth 35 = .ok (.istore_n 3, 1) := by decide +kernel
theorem dX6_worth_36 : decode cX6_worth 36 = .ok (.aload_n 0, 1) := by decide +kernel
theorem dX6_worth_37 : decode cX6_worth 37 = .ok (.getfield 21, 3) := by decide +kernel
theorem dX6_worth_40 : decode cX6_worth 40 = .ok (.getfield 183, 3) := by decide +kernel
theorem dX6_worth_43 : decode cX6_worth 43 = .ok (.istore 4, 2) := by decide +kernel
theorem dX6_worth_45 : decode cX6_worth 45 = .ok (.aload_n 0, 1) := by decide +kernel
theorem dX6_worth_46 : decode cX6_worth 46 = .ok (.getfield 21, 3) := by decide +kernel
theorem dX6_worth_49 : decode cX6_worth 49 = .ok (.aload_n 0, 1) := by decide +kernel
theorem dX6_worth_50 : decode cX6_worth 50 = .ok (.getfield 39, 3) := by decide +kernel
theorem dX6_worth_53 : decode cX6_worth 53 = .ok (.iload_n 1, 1) := by decide +kernel
theorem dX6_worth_54 : decode cX6_worth 54 = .ok (.iload_n 2, 1) := by decide +kernel
theorem dX6_worth_55 : decode cX6_worth 55 = .ok (.invokevirtual 176, 3) := by decide +kernel
theorem dX6_worth_58 : decode cX6_worth 58 = .ok (.aload_n 0, 1) := by decide +kernel
theorem dX6_worth_59 : decode cX6_worth 59 = .ok (.getfield 21, 3) := by decide +kernel
theorem dX6_worth_62 : decode cX6_worth 62 = .ok (.getfield 180, 3) := by decide +kernel
theorem dX6_worth_65 : decode cX6_worth 65 = .ok (.iload_n 3, 1) := by decide +kernel
theorem dX6_worth_66 : decode cX6_worth 66 = .ok (.if_icmp .ge 8, 3) := by decide +kernel
theorem dX6_worth_69 : decode cX6_worth 69 = .ok (.bipush (-2), 2) := by decide +kernel
theorem dX6_worth_71 : decode cX6_worth 71 = .ok (.goto 13, 3) := by decide +kernel
theorem dX6_worth_74 : decode cX6_worth 74 = .ok (.aload_n 0, 1) := by decide +kernel
theorem dX6_worth_75 : decode cX6_worth 75 = .ok (.getfield 21, 3) := by decide +kernel
theorem dX6_worth_78 : decode cX6_worth 78 = .ok (.getfield 183, 3) := by decide +kernel
theorem dX6_worth_81 : decode cX6_worth 81 = .ok (.iload 4, 2) := by decide +kernel
theorem dX6_worth_83 : decode cX6_worth 83 = .ok (.isub, 1) := by decide +kernel
theorem dX6_worth_84 : decode cX6_worth 84 = .ok (.ireturn, 1) := by decide +kernel
theorem dX6_fewest_0 : decode cX6_fewest 0 = .ok (.aload_n 0, 1) := by decide +kernel
theorem dX6_fewest_1 : decode cX6_fewest 1 = .ok (.iconst 1, 1) := by decide +kernel
theorem dX6_fewest_2 : decode cX6_fewest 2 = .ok (.iload_n 1, 1) := by decide +kernel
theorem dX6_fewest_3 : decode cX6_fewest 3 = .ok (.invokevirtual 172, 3) := by decide +kernel
theorem dX6_fewest_6 : decode cX6_fewest 6 = .ok (.ifCond .ne 5, 3) := by decide +kernel
theorem dX6_fewest_9 : decode cX6_fewest 9 = .ok (.iconst (-1), 1) := by decide +kernel
theorem dX6_fewest_10 : decode cX6_fewest 10 = .ok (.ireturn, 1) := by decide +kernel
theorem dX6_fewest_11 : decode cX6_fewest 11 = .ok (.aload_n 0, 1) := by decide +kernel
theorem dX6_fewest_12 : decode cX6_fewest 12 = .ok (.getfield 21, 3) := by decide +kernel
theorem dX6_fewest_15 : decode cX6_fewest 15 = .ok (.aload_n 0, 1) := by decide +kernel
theorem dX6_fewest_16 : decode cX6_fewest 16 = .ok (.getfield 39, 3) := by decide +kernel
theorem dX6_fewest_19 : decode cX6_fewest 19 = .ok (.iload_n 1, 1) := by decide +kernel
theorem dX6_fewest_20 : decode cX6_fewest 20 = .ok (.invokevirtual 206, 3) := by decide +kernel
theorem dX6_fewest_23 : decode cX6_fewest 23 = .ok (.ireturn, 1) := by decide +kernel
theorem dX6_plan_0 : decode cX6_plan 0 = .ok (.aload_n 0, 1) := by decide +kernel
theorem dX6_plan_1 : decode cX6_plan 1 = .ok (.aload_n 0, 1) := by decide +kernel
theorem dX6_plan_2 : decode cX6_plan 2 = .ok (.iload_n 1, 1) := by decide +kernel
theorem dX6_plan_3 : decode cX6_plan 3 = .ok (.invokevirtual 118, 3) := by decide +kernel
theorem dX6_plan_6 : decode cX6_plan 6 = .ok (.aload_n 0, 1) := by decide +kernel
theorem dX6_plan_7 : decode cX6_plan 7 = .ok (.iload_n 1, 1) := by decide +kernel
theorem dX6_plan_8 : decode cX6_plan 8 = .ok (.invokevirtual 118, 3) := by decide +kernel
theorem dX6_plan_11 : decode cX6_plan 11 = .ok (.ifCond .eq 19, 3) := by decide +kernel
theorem dX6_plan_14 : decode cX6_plan 14 = .ok (.aload_n 0, 1) := by decide +kernel
theorem dX6_plan_15 : decode cX6_plan 15 = .ok (.getfield 39, 3) := by decide +kernel
theorem dX6_plan_18 : decode cX6_plan 18 = .ok (.iload_n 1, 1) := by decide +kernel
theorem dX6_plan_19 : decode cX6_plan 19 = .ok (.iload_n 2, 1) := by decide +kernel
theorem dX6_plan_20 : decode cX6_plan 20 = .ok (.invokevirtual 210, 3) := by decide +kernel
theorem dX6_plan_23 : decode cX6_plan 23 = .ok (.ifCond .eq 7, 3) := by decide +kernel
theorem dX6_plan_26 : decode cX6_plan 26 = .ok (.iconst 1, 1) := by decide +kernel
theorem dX6_plan_27 : decode cX6_plan 27 = .ok (.goto 4, 3) := by decide +kernel
theorem dX6_plan_30 : decode cX6_plan 30 = .ok (.iconst 0, 1) := by decide +kernel
theorem dX6_plan_31 : decode cX6_plan 31 = .ok (.aload_n 0, 1) := by decide +kernel
theorem dX6_plan_32 : decode cX6_plan 32 = .ok (.getfield 51, 3) := by decide +kernel
theorem dX6_plan_35 : decode cX6_plan 35 = .ok (.getfield 213, 3) := by decide +kernel
theorem dX6_plan_38 : decode cX6_plan 38 = .ok (.ifCond .ne 7, 3) := by decide +kernel
theorem dX6_plan_41 : decode cX6_plan 41 = .ok (.iconst 1, 1) := by decide +kernel
theorem dX6_plan_42 : decode cX6_plan 42 = .ok (.goto 4, 3) := by decide +kernel
theorem dX6_plan_45 : decode cX6_plan 45 = .ok (.iconst 0, 1) := by decide +kernel
theorem dX6_plan_46 : decode cX6_plan 46 = .ok (.invokevirtual 102, 3) := by decide +kernel
theorem dX6_plan_49 : decode cX6_plan 49 = .ok (.ifCond .ne 5, 3) := by decide +kernel
theorem dX6_plan_52 : decode cX6_plan 52 = .ok (.iconst (-1), 1) := by decide +kernel
theorem dX6_plan_53 : decode cX6_plan 53 = .ok (.ireturn, 1) := by decide +kernel
theorem dX6_plan_54 : decode cX6_plan 54 = .ok (.aload_n 0, 1) := by decide +kernel
theorem dX6_plan_55 : decode cX6_plan 55 = .ok (.getfield 39, 3) := by decide +kernel
theorem dX6_plan_58 : decode cX6_plan 58 = .ok (.getfield 216, 3) := by decide +kernel
theorem dX6_plan_61 : decode cX6_plan 61 = .ok (.iload_n 1, 1) := by decide +kernel
theorem dX6_plan_62 : decode cX6_plan 62 = .ok (.iaload, 1) := by decide +kernel
theorem dX6_plan_63 : decode cX6_plan 63 = .ok (.istore_n 3, 1) := by decide +kernel
theorem dX6_plan_64 : decode cX6_plan 64 = .ok (.aload_n 0, 1) := by decide +kernel
theorem dX6_plan_65 : decode cX6_plan 65 = .ok (.getfield 39, 3) := by decide +kernel
theorem dX6_plan_68 : decode cX6_plan 68 = .ok (.getfield 216, 3) := by decide +kernel
theorem dX6_plan_71 : decode cX6_plan 71 = .ok (.iload_n 1, 1) := by decide +kernel
theorem dX6_plan_72 : decode cX6_plan 72 = .ok (.iload_n 2, 1) := by decide +kernel
theorem dX6_plan_73 : decode cX6_plan 73 = .ok (.iastore, 1) := by decide +kernel
theorem dX6_plan_74 : decode cX6_plan 74 = .ok (.iload_n 3, 1) := by decide +kernel
theorem dX6_plan_75 : decode cX6_plan 75 = .ok (.ireturn, 1) := by decide +kernel
theorem dX6_planned_0 : decode cX6_planned 0 = .ok (.aload_n 0, 1) := by decide +kernel
theorem dX6_planned_1 : decode cX6_planned 1 = .ok (.iload_n 1, 1) := by decide +kernel
theorem dX6_planned_2 : decode cX6_planned 2 = .ok (.iconst 0, 1) := by decide +kernel
theorem dX6_planned_3 : decode cX6_planned 3 = .ok (.iconst 2, 1) := by decide +kernel
theorem dX6_planned_4 : decode cX6_planned 4 = .ok (.invokestatic 98, 3) := by decide +kernel
theorem dX6_planned_7 : decode cX6_planned 7 = .ok (.iconst 1, 1) := by decide +kernel
theorem dX6_planned_8 : decode cX6_planned 8 = .ok (.aload_n 0, 1) := by decide +kernel
theorem dX6_planned_9 : decode cX6_planned 9 = .ok (.getfield 39, 3) := by decide +kernel
theorem dX6_planned_12 : decode cX6_planned 12 = .ok (.invokevirtual 219, 3) := by decide +kernel
theorem dX6_planned_15 : decode cX6_planned 15 = .ok (.invokevirtual 102, 3) := by decide +kernel
theorem dX6_planned_18 : decode cX6_planned 18 = .ok (.ifCond .ne 6, 3) := by decide +kernel
theorem dX6_planned_21 : decode cX6_planned 21 = .ok (.ldc 122, 2) := by decide +kernel
theorem dX6_planned_23 : decode cX6_planned 23 = .ok (.ireturn, 1) := by decide +kernel
theorem dX6_planned_24 : decode cX6_planned 24 = .ok (.iload_n 1, 1) := by decide +kernel
theorem dX6_planned_25 : decode cX6_planned 25 = .ok (.ifCond .ne 11, 3) := by decide +kernel
theorem dX6_planned_28 : decode cX6_planned 28 = .ok (.aload_n 0, 1) := by decide +kernel
theorem dX6_planned_29 : decode cX6_planned 29 = .ok (.getfield 39, 3) := by decide +kernel
theorem dX6_planned_32 : decode cX6_planned 32 = .ok (.invokevirtual 223, 3) := by decide +kernel
theorem dX6_planned_35 : decode cX6_planned 35 = .ok (.ireturn, 1) := by decide +kernel
theorem dX6_planned_36 : decode cX6_planned 36 = .ok (.iload_n 1, 1) := by decide +kernel
theorem dX6_planned_37 : decode cX6_planned 37 = .ok (.iconst 1, 1) := by decide +kernel
theorem dX6_planned_38 : decode cX6_planned 38 = .ok (.if_icmp .ne 11, 3) := by decide +kernel
theorem dX6_planned_41 : decode cX6_planned 41 = .ok (.aload_n 0, 1) := by decide +kernel
theorem dX6_planned_42 : decode cX6_planned 42 = .ok (.getfield 39, 3) := by decide +kernel
theorem dX6_planned_45 : decode cX6_planned 45 = .ok (.invokevirtual 227, 3) := by decide +kernel
theorem dX6_planned_48 : decode cX6_planned 48 = .ok (.ireturn, 1) := by decide +kernel
theorem dX6_planned_49 : decode cX6_planned 49 = .ok (.aload_n 0, 1) := by decide +kernel
theorem dX6_planned_50 : decode cX6_planned 50 = .ok (.getfield 21, 3) := by decide +kernel
theorem dX6_planned_53 : decode cX6_planned 53 = .ok (.aload_n 0, 1) := by decide +kernel
theorem dX6_planned_54 : decode cX6_planned 54 = .ok (.getfield 39, 3) := by decide +kernel
theorem dX6_planned_57 : decode cX6_planned 57 = .ok (.aload_n 0, 1) := by decide +kernel
theorem dX6_planned_58 : decode cX6_planned 58 = .ok (.getfield 39, 3) := by decide +kernel
theorem dX6_planned_61 : decode cX6_planned 61 = .ok (.invokevirtual 223, 3) := by decide +kernel
theorem dX6_planned_64 : decode cX6_planned 64 = .ok (.iconst (-1), 1) := by decide +kernel
theorem dX6_planned_65 : decode cX6_planned 65 = .ok (.invokevirtual 176, 3) := by decide +kernel
theorem dX6_planned_68 : decode cX6_planned 68 = .ok (.aload_n 0, 1) := by decide +kernel
theorem dX6_planned_69 : decode cX6_planned 69 = .ok (.getfield 39, 3) := by decide +kernel
theorem dX6_planned_72 : decode cX6_planned 72 = .ok (.invokevirtual 227, 3) := by decide +kernel
theorem dX6_planned_75 : decode cX6_planned 75 = .ok (.aload_n 0, 1) := by decide +kernel
theorem dX6_planned_76 : decode cX6_planned 76 = .ok (.getfield 21, 3) := by decide +kernel
theorem dX6_planned_79 : decode cX6_planned 79 = .ok (.getfield 183, 3) := by decide +kernel
theorem dX6_planned_82 : decode cX6_planned 82 = .ok (.isub, 1) := by decide +kernel
theorem dX6_planned_83 : decode cX6_planned 83 = .ok (.ireturn, 1) := by decide +kernel
theorem dX6_move_0 : decode cX6_move 0 = .ok (.aload_n 0, 1) := by decide +kernel
theorem dX6_move_1 : decode cX6_move 1 = .ok (.iconst 1, 1) := by decide +kernel
theorem dX6_move_2 : decode cX6_move 2 = .ok (.iconst 1, 1) := by decide +kernel
theorem dX6_move_3 : decode cX6_move 3 = .ok (.aload_n 0, 1) := by decide +kernel
theorem dX6_move_4 : decode cX6_move 4 = .ok (.getfield 39, 3) := by decide +kernel
theorem dX6_move_7 : decode cX6_move 7 = .ok (.invokevirtual 219, 3) := by decide +kernel
theorem dX6_move_10 : decode cX6_move 10 = .ok (.invokevirtual 102, 3) := by decide +kernel
theorem dX6_move_13 : decode cX6_move 13 = .ok (.ifCond .ne 5, 3) := by decide +kernel
theorem dX6_move_16 : decode cX6_move 16 = .ok (.iconst (-1), 1) := by decide +kernel
theorem dX6_move_17 : decode cX6_move 17 = .ok (.ireturn, 1) := by decide +kernel
theorem dX6_move_18 : decode cX6_move 18 = .ok (.bipush (-2), 2) := by decide +kernel
theorem dX6_move_20 : decode cX6_move 20 = .ok (.istore_n 1, 1) := by decide +kernel
theorem dX6_move_21 : decode cX6_move 21 = .ok (.iconst 0, 1) := by decide +kernel
theorem dX6_move_22 : decode cX6_move 22 = .ok (.istore_n 2, 1) := by decide +kernel
theorem dX6_move_23 : decode cX6_move 23 = .ok (.iconst 0, 1) := by decide +kernel
theorem dX6_move_24 : decode cX6_move 24 = .ok (.istore_n 3, 1) := by decide +kernel
theorem dX6_move_25 : decode cX6_move 25 = .ok (.iload_n 3, 1) := by decide +kernel
theorem dX6_move_26 : decode cX6_move 26 = .ok (.aload_n 0, 1) := by decide +kernel
theorem dX6_move_27 : decode cX6_move 27 = .ok (.getfield 39, 3) := by decide +kernel
theorem dX6_move_30 : decode cX6_move 30 = .ok (.getfield 92, 3) := by decide +kernel
theorem dX6_move_33 : decode cX6_move 33 = .ok (.if_icmp .ge 59, 3) := by decide +kernel
theorem dX6_move_36 : decode cX6_move 36 = .ok (.iconst 0, 1) := by decide +kernel
theorem dX6_move_37 : decode cX6_move 37 = .ok (.istore 4, 2) := by decide +kernel
theorem dX6_move_39 : decode cX6_move 39 = .ok (.iload 4, 2) := by decide +kernel
theorem dX6_move_41 : decode cX6_move 41 = .ok (.aload_n 0, 1) := by decide +kernel
theorem dX6_move_42 : decode cX6_move 42 = .ok (.getfield 39, 3) := by decide +kernel
theorem dX6_move_45 : decode cX6_move 45 = .ok (.getfield 92, 3) := by decide +kernel
theorem dX6_move_48 : decode cX6_move 48 = .ok (.if_icmp .ge 38, 3) := by decide +kernel
theorem dX6_move_51 : decode cX6_move 51 = .ok (.aload_n 0, 1) := by decide +kernel
theorem dX6_move_52 : decode cX6_move 52 = .ok (.getfield 39, 3) := by decide +kernel
theorem dX6_move_55 : decode cX6_move 55 = .ok (.iload_n 3, 1) := by decide +kernel
theorem dX6_move_56 : decode cX6_move 56 = .ok (.iload 4, 2) := by decide +kernel
theorem dX6_move_58 : decode cX6_move 58 = .ok (.invokevirtual 230, 3) := by decide +kernel
theorem dX6_move_61 : decode cX6_move 61 = .ok (.istore 5, 2) := by decide +kernel
theorem dX6_move_63 : decode cX6_move 63 = .ok (.iload 5, 2) := by decide +kernel
theorem dX6_move_65 : decode cX6_move 65 = .ok (.iload_n 2, 1) := by decide +kernel
theorem dX6_move_66 : decode cX6_move 66 = .ok (.if_icmp .ge 14, 3) := by decide +kernel
theorem dX6_move_69 : decode cX6_move 69 = .ok (.iload 5, 2) := by decide +kernel
theorem dX6_move_71 : decode cX6_move 71 = .ok (.istore_n 2, 1) := by decide +kernel
theorem dX6_move_72 : decode cX6_move 72 = .ok (.bipush 10, 2) := by decide +kernel
theorem dX6_move_74 : decode cX6_move 74 = .ok (.iload_n 3, 1) := by decide +kernel
theorem dX6_move_75 : decode cX6_move 75 = .ok (.imul, 1) := by decide +kernel
theorem dX6_move_76 : decode cX6_move 76 = .ok (.iload 4, 2) := by decide +kernel
theorem dX6_move_78 : decode cX6_move 78 = .ok (.iadd, 1) := by decide +kernel
theorem dX6_move_79 : decode cX6_move 79 = .ok (.istore_n 1, 1) := by decide +kernel
theorem dX6_move_80 : decode cX6_move 80 = .ok (.iinc 4 1, 3) := by decide +kernel
theorem dX6_move_83 : decode cX6_move 83 = .ok (.goto (-44), 3) := by decide +kernel
theorem dX6_move_86 : decode cX6_move 86 = .ok (.iinc 3 1, 3) := by decide +kernel
theorem dX6_move_89 : decode cX6_move 89 = .ok (.goto (-64), 3) := by decide +kernel
theorem dX6_move_92 : decode cX6_move 92 = .ok (.iload_n 1, 1) := by decide +kernel
theorem dX6_move_93 : decode cX6_move 93 = .ok (.ireturn, 1) := by decide +kernel
theorem dX6_now_0 : decode cX6_now 0 = .ok (.aload_n 0, 1) := by decide +kernel
theorem dX6_now_1 : decode cX6_now 1 = .ok (.iload_n 1, 1) := by decide +kernel
theorem dX6_now_2 : decode cX6_now 2 = .ok (.iconst 0, 1) := by decide +kernel
theorem dX6_now_3 : decode cX6_now 3 = .ok (.bipush 7, 2) := by decide +kernel
theorem dX6_now_5 : decode cX6_now 5 = .ok (.invokestatic 98, 3) := by decide +kernel
theorem dX6_now_8 : decode cX6_now 8 = .ok (.iconst 1, 1) := by decide +kernel
theorem dX6_now_9 : decode cX6_now 9 = .ok (.aload_n 0, 1) := by decide +kernel
theorem dX6_now_10 : decode cX6_now 10 = .ok (.getfield 51, 3) := by decide +kernel
theorem dX6_now_13 : decode cX6_now 13 = .ok (.getfield 213, 3) := by decide +kernel
theorem dX6_now_16 : decode cX6_now 16 = .ok (.invokevirtual 102, 3) := by decide +kernel
theorem dX6_now_19 : decode cX6_now 19 = .ok (.ifCond .ne 6, 3) := by decide +kernel
theorem dX6_now_22 : decode cX6_now 22 = .ok (.ldc 122, 2) := by decide +kernel
theorem dX6_now_24 : decode cX6_now 24 = .ok (.ireturn, 1) := by decide +kernel
theorem dX6_now_25 : decode cX6_now 25 = .ok (.aload_n 0, 1) := by decide +kernel
theorem dX6_now_26 : decode cX6_now 26 = .ok (.getfield 51, 3) := by decide +kernel
theorem dX6_now_29 : decode cX6_now 29 = .ok (.aload_n 0, 1) := by decide +kernel
theorem dX6_now_30 : decode cX6_now 30 = .ok (.getfield 39, 3) := by decide +kernel
theorem dX6_now_33 : decode cX6_now 33 = .ok (.iload_n 1, 1) := by decide +kernel
theorem dX6_now_34 : decode cX6_now 34 = .ok (.invokevirtual 233, 3) := by decide +kernel
theorem dX6_now_37 : decode cX6_now 37 = .ok (.ireturn, 1) := by decide +kernel
theorem dX6_part_0 : decode cX6_part 0 = .ok (.aload_n 0, 1) := by decide +kernel
theorem dX6_part_1 : decode cX6_part 1 = .ok (.aload_n 0, 1) := by decide +kernel
theorem dX6_part_2 : decode cX6_part 2 = .ok (.iload_n 1, 1) := by decide +kernel
theorem dX6_part_3 : decode cX6_part 3 = .ok (.invokevirtual 118, 3) := by decide +kernel
theorem dX6_part_6 : decode cX6_part 6 = .ok (.ifCond .eq 17, 3) := by decide +kernel
theorem dX6_part_9 : decode cX6_part 9 = .ok (.iload_n 2, 1) := by decide +kernel
theorem dX6_part_10 : decode cX6_part 10 = .ok (.iconst 0, 1) := by decide +kernel
theorem dX6_part_11 : decode cX6_part 11 = .ok (.bipush 6, 2) := by decide +kernel
theorem dX6_part_13 : decode cX6_part 13 = .ok (.invokestatic 98, 3) := by decide +kernel
theorem dX6_part_16 : decode cX6_part 16 = .ok (.ifCond .eq 7, 3) := by decide +kernel
theorem dX6_part_19 : decode cX6_part 19 = .ok (.iconst 1, 1) := by decide +kernel
theorem dX6_part_20 : decode cX6_part 20 = .ok (.goto 4, 3) := by decide +kernel
theorem dX6_part_23 : decode cX6_part 23 = .ok (.iconst 0, 1) := by decide +kernel
theorem dX6_part_24 : decode cX6_part 24 = .ok (.iconst 1, 1) := by decide +kernel
theorem dX6_part_25 : decode cX6_part 25 = .ok (.aload_n 0, 1) := by decide +kernel
theorem dX6_part_26 : decode cX6_part 26 = .ok (.getfield 51, 3) := by decide +kernel
theorem dX6_part_29 : decode cX6_part 29 = .ok (.getfield 213, 3) := by decide +kernel
theorem dX6_part_32 : decode cX6_part 32 = .ok (.invokevirtual 102, 3) := by decide +kernel
theorem dX6_part_35 : decode cX6_part 35 = .ok (.ifCond .ne 6, 3) := by decide +kernel
theorem dX6_part_38 : decode cX6_part 38 = .ok (.ldc 122, 2) := by decide +kernel
theorem dX6_part_40 : decode cX6_part 40 = .ok (.ireturn, 1) := by decide +kernel
theorem dX6_part_41 : decode cX6_part 41 = .ok (.aload_n 0, 1) := by decide +kernel
theorem dX6_part_42 : decode cX6_part 42 = .ok (.getfield 51, 3) := by decide +kernel
theorem dX6_part_45 : decode cX6_part 45 = .ok (.iload_n 1, 1) := by decide +kernel
theorem dX6_part_46 : decode cX6_part 46 = .ok (.iload_n 2, 1) := by decide +kernel
theorem dX6_part_47 : decode cX6_part 47 = .ok (.invokevirtual 236, 3) := by decide +kernel
theorem dX6_part_50 : decode cX6_part 50 = .ok (.ireturn, 1) := by decide +kernel
theorem dX6_entries_0 : decode cX6_entries 0 = .ok (.aload_n 0, 1) := by decide +kernel
theorem dX6_entries_1 : decode cX6_entries 1 = .ok (.iconst 1, 1) := by decide +kernel
theorem dX6_entries_2 : decode cX6_entries 2 = .ok (.iconst 1, 1) := by decide +kernel
theorem dX6_entries_3 : decode cX6_entries 3 = .ok (.aload_n 0, 1) := by decide +kernel
theorem dX6_entries_4 : decode cX6_entries 4 = .ok (.getfield 51, 3) := by decide +kernel
theorem dX6_entries_7 : decode cX6_entries 7 = .ok (.getfield 213, 3) := by decide +kernel
theorem dX6_entries_10 : decode cX6_entries 10 = .ok (.invokevirtual 102, 3) := by decide +kernel
theorem dX6_entries_13 : decode cX6_entries 13 = .ok (.ifCond .ne 5, 3) := by decide +kernel
theorem dX6_entries_16 : decode cX6_entries 16 = .ok (.iconst (-1), 1) := by decide +kernel
theorem dX6_entries_17 : decode cX6_entries 17 = .ok (.ireturn, 1) := by decide +kernel
theorem dX6_entries_18 : decode cX6_entries 18 = .ok (.aload_n 0, 1) := by decide +kernel
theorem dX6_entries_19 : decode cX6_entries 19 = .ok (.getfield 51, 3) := by decide +kernel
theorem dX6_entries_22 : decode cX6_entries 22 = .ok (.getfield 239, 3) := by decide +kernel
theorem dX6_entries_25 : decode cX6_entries 25 = .ok (.getfield 243, 3) := by decide +kernel
theorem dX6_entries_28 : decode cX6_entries 28 = .ok (.ireturn, 1) := by decide +kernel
theorem dX6_entry_0 : decode cX6_entry 0 = .ok (.aload_n 0, 1) := by decide +kernel
theorem dX6_entry_1 : decode cX6_entry 1 = .ok (.iload_n 1, 1) := by decide +kernel
theorem dX6_entry_2 : decode cX6_entry 2 = .ok (.iconst 0, 1) := by decide +kernel
theorem dX6_entry_3 : decode cX6_entry 3 = .ok (.aload_n 0, 1) := by decide +kernel
theorem dX6_entry_4 : decode cX6_entry 4 = .ok (.getfield 51, 3) := by decide +kernel
theorem dX6_entry_7 : decode cX6_entry 7 = .ok (.getfield 239, 3) := by decide +kernel
theorem dX6_entry_10 : decode cX6_entry 10 = .ok (.getfield 243, 3) := by decide +kernel
theorem dX6_entry_13 : decode cX6_entry 13 = .ok (.iconst 1, 1) := by decide +kernel
theorem dX6_entry_14 : decode cX6_entry 14 = .ok (.isub, 1) := by decide +kernel
theorem dX6_entry_15 : decode cX6_entry 15 = .ok (.invokestatic 98, 3) := by decide +kernel
theorem dX6_entry_18 : decode cX6_entry 18 = .ok (.ifCond .eq 16, 3) := by decide +kernel
theorem dX6_entry_21 : decode cX6_entry 21 = .ok (.iload_n 2, 1) := by decide +kernel
theorem dX6_entry_22 : decode cX6_entry 22 = .ok (.iconst 0, 1) := by decide +kernel
theorem dX6_entry_23 : decode cX6_entry 23 = .ok (.iconst 2, 1) := by decide +kernel
theorem dX6_entry_24 : decode cX6_entry 24 = .ok (.invokestatic 98, 3) := by decide +kernel
theorem dX6_entry_27 : decode cX6_entry 27 = .ok (.ifCond .eq 7, 3) := by decide +kernel
theorem dX6_entry_30 : decode cX6_entry 30 = .ok (.iconst 1, 1) := by decide +kernel
theorem dX6_entry_31 : decode cX6_entry 31 = .ok (.goto 4, 3) := by decide +kernel
theorem dX6_entry_34 : decode cX6_entry 34 = .ok (.iconst 0, 1) := by decide +kernel
theorem dX6_entry_35 : decode cX6_entry 35 = .ok (.iconst 1, 1) := by decide +kernel
theorem dX6_entry_36 : decode cX6_entry 36 = .ok (.aload_n 0, 1) := by decide +kernel
theorem dX6_entry_37 : decode cX6_entry 37 = .ok (.getfield 51, 3) := by decide +kernel
theorem dX6_entry_40 : decode cX6_entry 40 = .ok (.getfield 213, 3) := by decide +kernel
theorem dX6_entry_43 : decode cX6_entry 43 = .ok (.invokevirtual 102, 3) := by decide +kernel
theorem dX6_entry_46 : decode cX6_entry 46 = .ok (.ifCond .ne 5, 3) := by decide +kernel
theorem dX6_entry_49 : decode cX6_entry 49 = .ok (.iconst (-1), 1) := by decide +kernel
theorem dX6_entry_50 : decode cX6_entry 50 = .ok (.ireturn, 1) := by decide +kernel
theorem dX6_entry_51 : decode cX6_entry 51 = .ok (.iload_n 2, 1) := by decide +kernel
theorem dX6_entry_52 : decode cX6_entry 52 = .ok (.lookupswitch 54 #[(0, 28), (1, 41)], 28) := by decide +kernel
theorem dX6_entry_80 : decode cX6_entry 80 = .ok (.aload_n 0, 1) := by decide +kernel
theorem dX6_entry_81 : decode cX6_entry 81 = .ok (.getfield 51, 3) := by decide +kernel
theorem dX6_entry_84 : decode cX6_entry 84 = .ok (.getfield 239, 3) := by decide +kernel
theorem dX6_entry_87 : decode cX6_entry 87 = .ok (.getfield 248, 3) := by decide +kernel
theorem dX6_entry_90 : decode cX6_entry 90 = .ok (.iload_n 1, 1) := by decide +kernel
theorem dX6_entry_91 : decode cX6_entry 91 = .ok (.iaload, 1) := by decide +kernel
theorem dX6_entry_92 : decode cX6_entry 92 = .ok (.ireturn, 1) := by decide +kernel
theorem dX6_entry_93 : decode cX6_entry 93 = .ok (.aload_n 0, 1) := by decide +kernel
theorem dX6_entry_94 : decode cX6_entry 94 = .ok (.getfield 51, 3) := by decide +kernel
theorem dX6_entry_97 : decode cX6_entry 97 = .ok (.getfield 239, 3) := by decide +kernel
theorem dX6_entry_100 : decode cX6_entry 100 = .ok (.getfield 251, 3) := by decide +kernel
theorem dX6_entry_103 : decode cX6_entry 103 = .ok (.iload_n 1, 1) := by decide +kernel
theorem dX6_entry_104 : decode cX6_entry 104 = .ok (.iaload, 1) := by decide +kernel
theorem dX6_entry_105 : decode cX6_entry 105 = .ok (.ireturn, 1) := by decide +kernel
theorem dX6_entry_106 : decode cX6_entry 106 = .ok (.aload_n 0, 1) := by decide +kernel
theorem dX6_entry_107 : decode cX6_entry 107 = .ok (.getfield 51, 3) := by decide +kernel
theorem dX6_entry_110 : decode cX6_entry 110 = .ok (.getfield 239, 3) := by decide +kernel
theorem dX6_entry_113 : decode cX6_entry 113 = .ok (.getfield 254, 3) := by decide +kernel
theorem dX6_entry_116 : decode cX6_entry 116 = .ok (.iload_n 1, 1) := by decide +kernel
theorem dX6_entry_117 : decode cX6_entry 117 = .ok (.iaload, 1) := by decide +kernel
theorem dX6_entry_118 : decode cX6_entry 118 = .ok (.ireturn, 1) := by decide +kernel
theorem dX6_bought_0 : decode cX6_bought 0 = .ok (.aload_n 0, 1) := by decide +kernel
theorem dX6_bought_1 : decode cX6_bought 1 = .ok (.aload_n 0, 1) := by decide +kernel
theorem dX6_bought_2 : decode cX6_bought 2 = .ok (.iload_n 1, 1) := by decide +kernel
theorem dX6_bought_3 : decode cX6_bought 3 = .ok (.invokevirtual 118, 3) := by decide +kernel
theorem dX6_bought_6 : decode cX6_bought 6 = .ok (.iconst 1, 1) := by decide +kernel
theorem dX6_bought_7 : decode cX6_bought 7 = .ok (.aload_n 0, 1) := by decide +kernel
theorem dX6_bought_8 : decode cX6_bought 8 = .ok (.getfield 51, 3) := by decide +kernel
theorem dX6_bought_11 : decode cX6_bought 11 = .ok (.getfield 213, 3) := by decide +kernel
theorem dX6_bought_14 : decode cX6_bought 14 = .ok (.invokevirtual 102, 3) := by decide +kernel
theorem dX6_bought_17 : decode cX6_bought 17 = .ok (.ifCond .ne 5, 3) := by decide +kernel
theorem dX6_bought_20 : decode cX6_bought 20 = .ok (.iconst (-1), 1) := by decide +kernel
theorem dX6_bought_21 : decode cX6_bought 21 = .ok (.ireturn, 1) := by decide +kernel
theorem dX6_bought_22 : decode cX6_bought 22 = .ok (.aload_n 0, 1) := by decide +kernel
theorem dX6_bought_23 : decode cX6_bought 23 = .ok (.getfield 51, 3) := by decide +kernel
theorem dX6_bought_26 : decode cX6_bought 26 = .ok (.getfield 239, 3) := by decide +kernel
theorem dX6_bought_29 : decode cX6_bought 29 = .ok (.iload_n 1, 1) := by decide +kernel
theorem dX6_bought_30 : decode cX6_bought 30 = .ok (.iload_n 2, 1) := by decide +kernel
theorem dX6_bought_31 : decode cX6_bought 31 = .ok (.invokevirtual 257, 3) := by decide +kernel
theorem dX6_bought_34 : decode cX6_bought 34 = .ok (.ireturn, 1) := by decide +kernel
theorem dX6_will_0 : decode cX6_will 0 = .ok (.aload_n 0, 1) := by decide +kernel
theorem dX6_will_1 : decode cX6_will 1 = .ok (.iload_n 1, 1) := by decide +kernel
theorem dX6_will_2 : decode cX6_will 2 = .ok (.iconst 0, 1) := by decide +kernel
theorem dX6_will_3 : decode cX6_will 3 = .ok (.bipush 6, 2) := by decide +kernel
theorem dX6_will_5 : decode cX6_will 5 = .ok (.invokestatic 98, 3) := by decide +kernel
theorem dX6_will_8 : decode cX6_will 8 = .ok (.iconst 1, 1) := by decide +kernel
theorem dX6_will_9 : decode cX6_will 9 = .ok (.aload_n 0, 1) := by decide +kernel
theorem dX6_will_10 : decode cX6_will 10 = .ok (.getfield 51, 3) := by decide +kernel
theorem dX6_will_13 : decode cX6_will 13 = .ok (.getfield 213, 3) := by decide +kernel
theorem dX6_will_16 : decode cX6_will 16 = .ok (.invokevirtual 102, 3) := by decide +kernel
theorem dX6_will_19 : decode cX6_will 19 = .ok (.ifCond .ne 6, 3) := by decide +kernel
theorem dX6_will_22 : decode cX6_will 22 = .ok (.ldc 122, 2) := by decide +kernel
theorem dX6_will_24 : decode cX6_will 24 = .ok (.ireturn, 1) := by decide +kernel
theorem dX6_will_25 : decode cX6_will 25 = .ok (.aload_n 0, 1) := by decide +kernel
theorem dX6_will_26 : decode cX6_will 26 = .ok (.getfield 45, 3) := by decide +kernel
theorem dX6_will_29 : decode cX6_will 29 = .ok (.aload_n 0, 1) := by decide +kernel
theorem dX6_will_30 : decode cX6_will 30 = .ok (.getfield 39, 3) := by decide +kernel
theorem dX6_will_33 : decode cX6_will 33 = .ok (.invokevirtual 260, 3) := by decide +kernel
theorem dX6_will_36 : decode cX6_will 36 = .ok (.aload_n 0, 1) := by decide +kernel
theorem dX6_will_37 : decode cX6_will 37 = .ok (.getfield 58, 3) := by decide +kernel
theorem dX6_will_40 : decode cX6_will 40 = .ok (.aload_n 0, 1) := by decide +kernel
theorem dX6_will_41 : decode cX6_will 41 = .ok (.getfield 51, 3) := by decide +kernel
theorem dX6_will_44 : decode cX6_will 44 = .ok (.invokevirtual 264, 3) := by decide +kernel
theorem dX6_will_47 : decode cX6_will 47 = .ok (.iconst 0, 1) := by decide +kernel
theorem dX6_will_48 : decode cX6_will 48 = .ok (.istore_n 2, 1) := by decide +kernel
theorem dX6_will_49 : decode cX6_will 49 = .ok (.iload_n 2, 1) := by decide +kernel
theorem dX6_will_50 : decode cX6_will 50 = .ok (.sipush 400, 3) := by decide +kernel
theorem dX6_will_53 : decode cX6_will 53 = .ok (.if_icmp .ge 38, 3) := by decide +kernel
theorem dX6_will_56 : decode cX6_will 56 = .ok (.aload_n 0, 1) := by decide +kernel
theorem dX6_will_57 : decode cX6_will 57 = .ok (.getfield 58, 3) := by decide +kernel
theorem dX6_will_60 : decode cX6_will 60 = .ok (.aload_n 0, 1) := by decide +kernel
theorem dX6_will_61 : decode cX6_will 61 = .ok (.getfield 45, 3) := by decide +kernel
theorem dX6_will_64 : decode cX6_will 64 = .ok (.invokevirtual 267, 3) := by decide +kernel
theorem dX6_will_67 : decode cX6_will 67 = .ok (.ifCond .ne 24, 3) := by decide +kernel
theorem dX6_will_70 : decode cX6_will 70 = .ok (.aload_n 0, 1) := by decide +kernel
theorem dX6_will_71 : decode cX6_will 71 = .ok (.getfield 58, 3) := by decide +kernel
theorem dX6_will_74 : decode cX6_will 74 = .ok (.aload_n 0, 1) := by decide +kernel
theorem dX6_will_75 : decode cX6_will 75 = .ok (.getfield 45, 3) := by decide +kernel
theorem dX6_will_78 : decode cX6_will 78 = .ok (.aload_n 0, 1) := by decide +kernel
theorem dX6_will_79 : decode cX6_will 79 = .ok (.getfield 21, 3) := by decide +kernel
theorem dX6_will_82 : decode cX6_will 82 = .ok (.invokevirtual 271, 3) := by decide +kernel
theorem dX6_will_85 : decode cX6_will 85 = .ok (.iinc 2 1, 3) := by decide +kernel
theorem dX6_will_88 : decode cX6_will 88 = .ok (.goto (-39), 3) := by decide +kernel
theorem dX6_will_91 : decode cX6_will 91 = .ok (.aload_n 0, 1) := by decide +kernel
theorem dX6_will_92 : decode cX6_will 92 = .ok (.getfield 58, 3) := by decide +kernel
theorem dX6_will_95 : decode cX6_will 95 = .ok (.aload_n 0, 1) := by decide +kernel
theorem dX6_will_96 : decode cX6_will 96 = .ok (.getfield 45, 3) := by decide +kernel
theorem dX6_will_99 : decode cX6_will 99 = .ok (.iload_n 1, 1) := by decide +kernel
theorem dX6_will_100 : decode cX6_will 100 = .ok (.invokevirtual 233, 3) := by decide +kernel
theorem dX6_will_103 : decode cX6_will 103 = .ok (.ireturn, 1) := by decide +kernel
theorem dX6_adopt_0 : decode cX6_adopt 0 = .ok (.aload_n 0, 1) := by decide +kernel
theorem dX6_adopt_1 : decode cX6_adopt 1 = .ok (.iconst 1, 1) := by decide +kernel
theorem dX6_adopt_2 : decode cX6_adopt 2 = .ok (.iload_n 1, 1) := by decide +kernel
theorem dX6_adopt_3 : decode cX6_adopt 3 = .ok (.iconst 1, 1) := by decide +kernel
theorem dX6_adopt_4 : decode cX6_adopt 4 = .ok (.aload_n 0, 1) := by decide +kernel
theorem dX6_adopt_5 : decode cX6_adopt 5 = .ok (.getfield 39, 3) := by decide +kernel
theorem dX6_adopt_8 : decode cX6_adopt 8 = .ok (.getfield 106, 3) := by decide +kernel
theorem dX6_adopt_11 : decode cX6_adopt 11 = .ok (.invokestatic 98, 3) := by decide +kernel
theorem dX6_adopt_14 : decode cX6_adopt 14 = .ok (.aload_n 0, 1) := by decide +kernel
theorem dX6_adopt_15 : decode cX6_adopt 15 = .ok (.getfield 51, 3) := by decide +kernel
theorem dX6_adopt_18 : decode cX6_adopt 18 = .ok (.getfield 213, 3) := by decide +kernel
theorem dX6_adopt_21 : decode cX6_adopt 21 = .ok (.ifCond .ne 7, 3) := by decide +kernel
theorem dX6_adopt_24 : decode cX6_adopt 24 = .ok (.iconst 1, 1) := by decide +kernel
theorem dX6_adopt_25 : decode cX6_adopt 25 = .ok (.goto 4, 3) := by decide +kernel
theorem dX6_adopt_28 : decode cX6_adopt 28 = .ok (.iconst 0, 1) := by decide +kernel
theorem dX6_adopt_29 : decode cX6_adopt 29 = .ok (.invokevirtual 102, 3) := by decide +kernel
theorem dX6_adopt_32 : decode cX6_adopt 32 = .ok (.ifCond .ne 5, 3) := by decide +kernel
theorem dX6_adopt_35 : decode cX6_adopt 35 = .ok (.iconst (-1), 1) := by decide +kernel
theorem dX6_adopt_36 : decode cX6_adopt 36 = .ok (.ireturn, 1) := by decide +kernel
theorem dX6_adopt_37 : decode cX6_adopt 37 = .ok (.aload_n 0, 1) := by decide +kernel
theorem dX6_adopt_38 : decode cX6_adopt 38 = .ok (.getfield 21, 3) := by decide +kernel
theorem dX6_adopt_41 : decode cX6_adopt 41 = .ok (.aload_n 0, 1) := by decide +kernel
theorem dX6_adopt_42 : decode cX6_adopt 42 = .ok (.getfield 39, 3) := by decide +kernel
theorem dX6_adopt_45 : decode cX6_adopt 45 = .ok (.iload_n 1, 1) := by decide +kernel
theorem dX6_adopt_46 : decode cX6_adopt 46 = .ok (.iconst (-1), 1) := by decide +kernel
theorem dX6_adopt_47 : decode cX6_adopt 47 = .ok (.invokevirtual 176, 3) := by decide +kernel
theorem dX6_adopt_50 : decode cX6_adopt 50 = .ok (.iconst 0, 1) := by decide +kernel
theorem dX6_adopt_51 : decode cX6_adopt 51 = .ok (.istore_n 2, 1) := by decide +kernel
theorem dX6_adopt_52 : decode cX6_adopt 52 = .ok (.iload_n 2, 1) := by decide +kernel
theorem dX6_adopt_53 : decode cX6_adopt 53 = .ok (.aload_n 0, 1) := by decide +kernel
theorem dX6_adopt_54 : decode cX6_adopt 54 = .ok (.getfield 39, 3) := by decide +kernel
theorem dX6_adopt_57 : decode cX6_adopt 57 = .ok (.getfield 92, 3) := by decide +kernel
theorem dX6_adopt_60 : decode cX6_adopt 60 = .ok (.if_icmp .ge 27, 3) := by decide +kernel
theorem dX6_adopt_63 : decode cX6_adopt 63 = .ok (.aload_n 0, 1) := by decide +kernel
theorem dX6_adopt_64 : decode cX6_adopt 64 = .ok (.getfield 39, 3) := by decide +kernel
theorem dX6_adopt_67 : decode cX6_adopt 67 = .ok (.getfield 216, 3) := by decide +kernel
theorem dX6_adopt_70 : decode cX6_adopt 70 = .ok (.iload_n 2, 1) := by decide +kernel
theorem dX6_adopt_71 : decode cX6_adopt 71 = .ok (.aload_n 0, 1) := by decide +kernel
theorem dX6_adopt_72 : decode cX6_adopt 72 = .ok (.getfield 21, 3) := by decide +kernel
theorem dX6_adopt_75 : decode cX6_adopt 75 = .ok (.getfield 186, 3) := by decide +kernel
theorem dX6_adopt_78 : decode cX6_adopt 78 = .ok (.iload_n 2, 1) := by decide +kernel
theorem dX6_adopt_79 : decode cX6_adopt 79 = .ok (.iaload, 1) := by decide +kernel
theorem dX6_adopt_80 : decode cX6_adopt 80 = .ok (.iastore, 1) := by decide +kernel
theorem dX6_adopt_81 : decode cX6_adopt 81 = .ok (.iinc 2 1, 3) := by decide +kernel
theorem dX6_adopt_84 : decode cX6_adopt 84 = .ok (.goto (-32), 3) := by decide +kernel
theorem dX6_adopt_87 : decode cX6_adopt 87 = .ok (.aload_n 0, 1) := by decide +kernel
theorem dX6_adopt_88 : decode cX6_adopt 88 = .ok (.getfield 21, 3) := by decide +kernel
theorem dX6_adopt_91 : decode cX6_adopt 91 = .ok (.getfield 180, 3) := by decide +kernel
theorem dX6_adopt_94 : decode cX6_adopt 94 = .ok (.ireturn, 1) := by decide +kernel
theorem dX6_fee_0 : decode cX6_fee 0 = .ok (.aload_n 0, 1) := by decide +kernel
theorem dX6_fee_1 : decode cX6_fee 1 = .ok (.aload_n 0, 1) := by decide +kernel
theorem dX6_fee_2 : decode cX6_fee 2 = .ok (.iload_n 1, 1) := by decide +kernel
theorem dX6_fee_3 : decode cX6_fee 3 = .ok (.invokevirtual 118, 3) := by decide +kernel
theorem dX6_fee_6 : decode cX6_fee 6 = .ok (.iload_n 2, 1) := by decide +kernel
theorem dX6_fee_7 : decode cX6_fee 7 = .ok (.bipush (-9), 2) := by decide +kernel
theorem dX6_fee_9 : decode cX6_fee 9 = .ok (.bipush 9, 2) := by decide +kernel
theorem dX6_fee_11 : decode cX6_fee 11 = .ok (.invokestatic 98, 3) := by decide +kernel
theorem dX6_fee_14 : decode cX6_fee 14 = .ok (.aload_n 0, 1) := by decide +kernel
theorem dX6_fee_15 : decode cX6_fee 15 = .ok (.getfield 51, 3) := by decide +kernel
theorem dX6_fee_18 : decode cX6_fee 18 = .ok (.getfield 213, 3) := by decide +kernel
theorem dX6_fee_21 : decode cX6_fee 21 = .ok (.ifCond .ne 7, 3) := by decide +kernel
theorem dX6_fee_24 : decode cX6_fee 24 = .ok (.iconst 1, 1) := by decide +kernel
theorem dX6_fee_25 : decode cX6_fee 25 = .ok (.goto 4, 3) := by decide +kernel
theorem dX6_fee_28 : decode cX6_fee 28 = .ok (.iconst 0, 1) := by decide +kernel
theorem dX6_fee_29 : decode cX6_fee 29 = .ok (.invokevirtual 102, 3) := by decide +kernel
theorem dX6_fee_32 : decode cX6_fee 32 = .ok (.ifCond .ne 6, 3) := by decide +kernel
theorem dX6_fee_35 : decode cX6_fee 35 = .ok (.ldc 122, 2) := by decide +kernel
theorem dX6_fee_37 : decode cX6_fee 37 = .ok (.ireturn, 1) := by decide +kernel
theorem dX6_fee_38 : decode cX6_fee 38 = .ok (.aload_n 0, 1) := by decide +kernel
theorem dX6_fee_39 : decode cX6_fee 39 = .ok (.getfield 39, 3) := by decide +kernel
theorem dX6_fee_42 : decode cX6_fee 42 = .ok (.getfield 130, 3) := by decide +kernel
theorem dX6_fee_45 : decode cX6_fee 45 = .ok (.iload_n 1, 1) := by decide +kernel
theorem dX6_fee_46 : decode cX6_fee 46 = .ok (.iaload, 1) := by decide +kernel
theorem dX6_fee_47 : decode cX6_fee 47 = .ok (.istore_n 3, 1) := by decide +kernel
theorem dX6_fee_48 : decode cX6_fee 48 = .ok (.aload_n 0, 1) := by decide +kernel
theorem dX6_fee_49 : decode cX6_fee 49 = .ok (.getfield 39, 3) := by decide +kernel
theorem dX6_fee_52 : decode cX6_fee 52 = .ok (.getfield 130, 3) := by decide +kernel
theorem dX6_fee_55 : decode cX6_fee 55 = .ok (.iload_n 1, 1) := by decide +kernel
theorem dX6_fee_56 : decode cX6_fee 56 = .ok (.iload_n 2, 1) := by decide +kernel
theorem dX6_fee_57 : decode cX6_fee 57 = .ok (.iastore, 1) := by decide +kernel
theorem dX6_fee_58 : decode cX6_fee 58 = .ok (.iload_n 3, 1) := by decide +kernel
theorem dX6_fee_59 : decode cX6_fee 59 = .ok (.ireturn, 1) := by decide +kernel
theorem dX6_resize_0 : decode cX6_resize 0 = .ok (.aload_n 0, 1) := by decide +kernel
theorem dX6_resize_1 : decode cX6_resize 1 = .ok (.aload_n 0, 1) := by decide +kernel
theorem dX6_resize_2 : decode cX6_resize 2 = .ok (.iload_n 1, 1) := by decide +kernel
theorem dX6_resize_3 : decode cX6_resize 3 = .ok (.iload_n 2, 1) := by decide +kernel
theorem dX6_resize_4 : decode cX6_resize 4 = .ok (.invokevirtual 146, 3) := by decide +kernel
theorem dX6_resize_7 : decode cX6_resize 7 = .ok (.iload_n 3, 1) := by decide +kernel
theorem dX6_resize_8 : decode cX6_resize 8 = .ok (.iconst 0, 1) := by decide +kernel
theorem dX6_resize_9 : decode cX6_resize 9 = .ok (.bipush 99, 2) := by decide +kernel
theorem dX6_resize_11 : decode cX6_resize 11 = .ok (.invokestatic 98, 3) := by decide +kernel
theorem dX6_resize_14 : decode cX6_resize 14 = .ok (.iconst 1, 1) := by decide +kernel
theorem dX6_resize_15 : decode cX6_resize 15 = .ok (.invokevirtual 102, 3) := by decide +kernel
theorem dX6_resize_18 : decode cX6_resize 18 = .ok (.ifCond .ne 5, 3) := by decide +kernel
theorem dX6_resize_21 : decode cX6_resize 21 = .ok (.iconst (-1), 1) := by decide +kernel
theorem dX6_resize_22 : decode cX6_resize 22 = .ok (.ireturn, 1) := by decide +kernel
theorem dX6_resize_23 : decode cX6_resize 23 = .ok (.iload_n 1, 1) := by decide +kernel
theorem dX6_resize_24 : decode cX6_resize 24 = .ok (.iload_n 2, 1) := by decide +kernel
theorem dX6_resize_25 : decode cX6_resize 25 = .ok (.invokestatic 150, 3) := by decide +kernel
theorem dX6_resize_28 : decode cX6_resize 28 = .ok (.istore 4, 2) := by decide +kernel
theorem dX6_resize_30 : decode cX6_resize 30 = .ok (.aload_n 0, 1) := by decide +kernel
theorem dX6_resize_31 : decode cX6_resize 31 = .ok (.getfield 39, 3) := by decide +kernel
theorem dX6_resize_34 : decode cX6_resize 34 = .ok (.getfield 157, 3) := by decide +kernel
theorem dX6_resize_37 : decode cX6_resize 37 = .ok (.iload 4, 2) := by decide +kernel
theorem dX6_resize_39 : decode cX6_resize 39 = .ok (.iaload, 1) := by decide +kernel
theorem dX6_resize_40 : decode cX6_resize 40 = .ok (.istore 5, 2) := by decide +kernel
theorem dX6_resize_42 : decode cX6_resize 42 = .ok (.aload_n 0, 1) := by decide +kernel
theorem dX6_resize_43 : decode cX6_resize 43 = .ok (.getfield 39, 3) := by decide +kernel
theorem dX6_resize_46 : decode cX6_resize 46 = .ok (.getfield 157, 3) := by decide +kernel
theorem dX6_resize_49 : decode cX6_resize 49 = .ok (.iload 4, 2) := by decide +kernel
theorem dX6_resize_51 : decode cX6_resize 51 = .ok (.iload_n 3, 1) := by decide +kernel
theorem dX6_resize_52 : decode cX6_resize 52 = .ok (.iastore, 1) := by decide +kernel
theorem dX6_resize_53 : decode cX6_resize 53 = .ok (.iload 5, 2) := by decide +kernel
theorem dX6_resize_55 : decode cX6_resize 55 = .ok (.ireturn, 1) := by decide +kernel
theorem dX6_order_0 : decode cX6_order 0 = .ok (.aload_n 0, 1) := by decide +kernel
theorem dX6_order_1 : decode cX6_order 1 = .ok (.iconst 1, 1) := by decide +kernel
theorem dX6_order_2 : decode cX6_order 2 = .ok (.iload_n 1, 1) := by decide +kernel
theorem dX6_order_3 : decode cX6_order 3 = .ok (.iconst 1, 1) := by decide +kernel
theorem dX6_order_4 : decode cX6_order 4 = .ok (.bipush 120, 2) := by decide +kernel
theorem dX6_order_6 : decode cX6_order 6 = .ok (.invokestatic 98, 3) := by decide +kernel
theorem dX6_order_9 : decode cX6_order 9 = .ok (.aload_n 0, 1) := by decide +kernel
theorem dX6_order_10 : decode cX6_order 10 = .ok (.getfield 51, 3) := by decide +kernel
theorem dX6_order_13 : decode cX6_order 13 = .ok (.getfield 213, 3) := by decide +kernel
theorem dX6_order_16 : decode cX6_order 16 = .ok (.ifCond .ne 7, 3) := by decide +kernel
theorem dX6_order_19 : decode cX6_order 19 = .ok (.iconst 1, 1) := by decide +kernel
theorem dX6_order_20 : decode cX6_order 20 = .ok (.goto 4, 3) := by decide +kernel
theorem dX6_order_23 : decode cX6_order 23 = .ok (.iconst 0, 1) := by decide +kernel
theorem dX6_order_24 : decode cX6_order 24 = .ok (.invokevirtual 102, 3) := by decide +kernel
theorem dX6_order_27 : decode cX6_order 27 = .ok (.ifCond .ne 5, 3) := by decide +kernel
theorem dX6_order_30 : decode cX6_order 30 = .ok (.iconst (-1), 1) := by decide +kernel
theorem dX6_order_31 : decode cX6_order 31 = .ok (.ireturn, 1) := by decide +kernel
theorem dX6_order_32 : decode cX6_order 32 = .ok (.aload_n 0, 1) := by decide +kernel
theorem dX6_order_33 : decode cX6_order 33 = .ok (.getfield 39, 3) := by decide +kernel
theorem dX6_order_36 : decode cX6_order 36 = .ok (.getfield 106, 3) := by decide +kernel
theorem dX6_order_39 : decode cX6_order 39 = .ok (.istore_n 2, 1) := by decide +kernel
theorem dX6_order_40 : decode cX6_order 40 = .ok (.aload_n 0, 1) := by decide +kernel
theorem dX6_order_41 : decode cX6_order 41 = .ok (.getfield 39, 3) := by decide +kernel
theorem dX6_order_44 : decode cX6_order 44 = .ok (.iload_n 1, 1) := by decide +kernel
theorem dX6_order_45 : decode cX6_order 45 = .ok (.putfield 106, 3) := by decide +kernel
theorem dX6_order_48 : decode cX6_order 48 = .ok (.iload_n 2, 1) := by decide +kernel
theorem dX6_order_49 : decode cX6_order 49 = .ok (.ireturn, 1) := by decide +kernel
theorem dX6_begin_0 : decode cX6_begin 0 = .ok (.aload_n 0, 1) := by decide +kernel
theorem dX6_begin_1 : decode cX6_begin 1 = .ok (.iconst 1, 1) := by decide +kernel
theorem dX6_begin_2 : decode cX6_begin 2 = .ok (.iconst 1, 1) := by decide +kernel
theorem dX6_begin_3 : decode cX6_begin 3 = .ok (.aload_n 0, 1) := by decide +kernel
theorem dX6_begin_4 : decode cX6_begin 4 = .ok (.getfield 51, 3) := by decide +kernel
theorem dX6_begin_7 : decode cX6_begin 7 = .ok (.getfield 213, 3) := by decide +kernel
theorem dX6_begin_10 : decode cX6_begin 10 = .ok (.ifCond .ne 7, 3) := by decide +kernel
theorem dX6_begin_13 : decode cX6_begin 13 = .ok (.iconst 1, 1) := by decide +kernel
theorem dX6_begin_14 : decode cX6_begin 14 = .ok (.goto 4, 3) := by decide +kernel
theorem dX6_begin_17 : decode cX6_begin 17 = .ok (.iconst 0, 1) := by decide +kernel
theorem dX6_begin_18 : decode cX6_begin 18 = .ok (.invokevirtual 102, 3) := by decide +kernel
theorem dX6_begin_21 : decode cX6_begin 21 = .ok (.ifCond .ne 5, 3) := by decide +kernel
theorem dX6_begin_24 : decode cX6_begin 24 = .ok (.iconst (-1), 1) := by decide +kernel
theorem dX6_begin_25 : decode cX6_begin 25 = .ok (.ireturn, 1) := by decide +kernel
theorem dX6_begin_26 : decode cX6_begin 26 = .ok (.aload_n 0, 1) := by decide +kernel
theorem dX6_begin_27 : decode cX6_begin 27 = .ok (.getfield 51, 3) := by decide +kernel
theorem dX6_begin_30 : decode cX6_begin 30 = .ok (.iconst 1, 1) := by decide +kernel
theorem dX6_begin_31 : decode cX6_begin 31 = .ok (.putfield 213, 3) := by decide +kernel
theorem dX6_begin_34 : decode cX6_begin 34 = .ok (.aload_n 0, 1) := by decide +kernel
theorem dX6_begin_35 : decode cX6_begin 35 = .ok (.getfield 51, 3) := by decide +kernel
theorem dX6_begin_38 : decode cX6_begin 38 = .ok (.aload_n 0, 1) := by decide +kernel
theorem dX6_begin_39 : decode cX6_begin 39 = .ok (.getfield 39, 3) := by decide +kernel
theorem dX6_begin_42 : decode cX6_begin 42 = .ok (.getfield 106, 3) := by decide +kernel
theorem dX6_begin_45 : decode cX6_begin 45 = .ok (.putfield 275, 3) := by decide +kernel
theorem dX6_begin_48 : decode cX6_begin 48 = .ok (.aload_n 0, 1) := by decide +kernel
theorem dX6_begin_49 : decode cX6_begin 49 = .ok (.getfield 51, 3) := by decide +kernel
theorem dX6_begin_52 : decode cX6_begin 52 = .ok (.aload_n 0, 1) := by decide +kernel
theorem dX6_begin_53 : decode cX6_begin 53 = .ok (.getfield 39, 3) := by decide +kernel
theorem dX6_begin_56 : decode cX6_begin 56 = .ok (.aload_n 0, 1) := by decide +kernel
theorem dX6_begin_57 : decode cX6_begin 57 = .ok (.getfield 21, 3) := by decide +kernel
theorem dX6_begin_60 : decode cX6_begin 60 = .ok (.invokevirtual 278, 3) := by decide +kernel
theorem dX6_begin_63 : decode cX6_begin 63 = .ok (.ireturn, 1) := by decide +kernel
theorem dX6_ticks_0 : decode cX6_ticks 0 = .ok (.aload_n 0, 1) := by decide +kernel
theorem dX6_ticks_1 : decode cX6_ticks 1 = .ok (.iconst 1, 1) := by decide +kernel
theorem dX6_ticks_2 : decode cX6_ticks 2 = .ok (.iload_n 1, 1) := by decide +kernel
theorem dX6_ticks_3 : decode cX6_ticks 3 = .ok (.iconst 1, 1) := by decide +kernel
theorem dX6_ticks_4 : decode cX6_ticks 4 = .ok (.sipush 200, 3) := by decide +kernel
theorem dX6_ticks_7 : decode cX6_ticks 7 = .ok (.invokestatic 98, 3) := by decide +kernel
theorem dX6_ticks_10 : decode cX6_ticks 10 = .ok (.aload_n 0, 1) := by decide +kernel
theorem dX6_ticks_11 : decode cX6_ticks 11 = .ok (.getfield 51, 3) := by decide +kernel
theorem dX6_ticks_14 : decode cX6_ticks 14 = .ok (.getfield 213, 3) := by decide +kernel
theorem dX6_ticks_17 : decode cX6_ticks 17 = .ok (.invokevirtual 102, 3) := by decide +kernel
theorem dX6_ticks_20 : decode cX6_ticks 20 = .ok (.ifCond .ne 5, 3) := by decide +kernel
theorem dX6_ticks_23 : decode cX6_ticks 23 = .ok (.iconst (-1), 1) := by decide +kernel
theorem dX6_ticks_24 : decode cX6_ticks 24 = .ok (.ireturn, 1) := by decide +kernel
theorem dX6_ticks_25 : decode cX6_ticks 25 = .ok (.aload_n 0, 1) := by decide +kernel
theorem dX6_ticks_26 : decode cX6_ticks 26 = .ok (.getfield 51, 3) := by decide +kernel
theorem dX6_ticks_29 : decode cX6_ticks 29 = .ok (.getfield 282, 3) := by decide +kernel
theorem dX6_ticks_32 : decode cX6_ticks 32 = .ok (.istore_n 2, 1) := by decide +kernel
theorem dX6_ticks_33 : decode cX6_ticks 33 = .ok (.iconst 0, 1) := by decide +kernel
theorem dX6_ticks_34 : decode cX6_ticks 34 = .ok (.istore_n 3, 1) := by decide +kernel
theorem dX6_ticks_35 : decode cX6_ticks 35 = .ok (.iload_n 3, 1) := by decide +kernel
theorem dX6_ticks_36 : decode cX6_ticks 36 = .ok (.iload_n 1, 1) := by decide +kernel
theorem dX6_ticks_37 : decode cX6_ticks 37 = .ok (.if_icmp .ge 24, 3) := by decide +kernel
theorem dX6_ticks_40 : decode cX6_ticks 40 = .ok (.aload_n 0, 1) := by decide +kernel
theorem dX6_ticks_41 : decode cX6_ticks 41 = .ok (.getfield 51, 3) := by decide +kernel
theorem dX6_ticks_44 : decode cX6_ticks 44 = .ok (.aload_n 0, 1) := by decide +kernel
theorem dX6_ticks_45 : decode cX6_ticks 45 = .ok (.getfield 39, 3) := by decide +kernel
theorem dX6_ticks_48 : decode cX6_ticks 48 = .ok (.aload_n 0, 1) := by decide +kernel
theorem dX6_ticks_49 : decode cX6_ticks 49 = .ok (.getfield 21, 3) := by decide +kernel
theorem dX6_ticks_52 : decode cX6_ticks 52 = .ok (.invokevirtual 271, 3) := by decide +kernel
theorem dX6_ticks_55 : decode cX6_ticks 55 = .ok (.iinc 3 1, 3) := by decide +kernel
theorem dX6_ticks_58 : decode cX6_ticks 58 = .ok (.goto (-23), 3) := by decide +kernel
theorem dX6_ticks_61 : decode cX6_ticks 61 = .ok (.aload_n 0, 1) := by decide +kernel
theorem dX6_ticks_62 : decode cX6_ticks 62 = .ok (.getfield 51, 3) := by decide +kernel
theorem dX6_ticks_65 : decode cX6_ticks 65 = .ok (.getfield 282, 3) := by decide +kernel
theorem dX6_ticks_68 : decode cX6_ticks 68 = .ok (.iload_n 2, 1) := by decide +kernel
theorem dX6_ticks_69 : decode cX6_ticks 69 = .ok (.isub, 1) := by decide +kernel
theorem dX6_ticks_70 : decode cX6_ticks 70 = .ok (.ireturn, 1) := by decide +kernel
theorem dX6_call_0 : decode cX6_call 0 = .ok (.aload_n 0, 1) := by decide +kernel
theorem dX6_call_1 : decode cX6_call 1 = .ok (.aload_n 0, 1) := by decide +kernel
theorem dX6_call_2 : decode cX6_call 2 = .ok (.iload_n 1, 1) := by decide +kernel
theorem dX6_call_3 : decode cX6_call 3 = .ok (.invokevirtual 118, 3) := by decide +kernel
theorem dX6_call_6 : decode cX6_call 6 = .ok (.iconst 1, 1) := by decide +kernel
theorem dX6_call_7 : decode cX6_call 7 = .ok (.aload_n 0, 1) := by decide +kernel
theorem dX6_call_8 : decode cX6_call 8 = .ok (.iload_n 1, 1) := by decide +kernel
theorem dX6_call_9 : decode cX6_call 9 = .ok (.invokevirtual 118, 3) := by decide +kernel
theorem dX6_call_12 : decode cX6_call 12 = .ok (.ifCond .eq 18, 3) := by decide +kernel
theorem dX6_call_15 : decode cX6_call 15 = .ok (.aload_n 0, 1) := by decide +kernel
theorem dX6_call_16 : decode cX6_call 16 = .ok (.getfield 51, 3) := by decide +kernel
theorem dX6_call_19 : decode cX6_call 19 = .ok (.iload_n 1, 1) := by decide +kernel
theorem dX6_call_20 : decode cX6_call 20 = .ok (.invokevirtual 285, 3) := by decide +kernel
theorem dX6_call_23 : decode cX6_call 23 = .ok (.ifCond .eq 7, 3) := by decide +kernel
theorem dX6_call_26 : decode cX6_call 26 = .ok (.iconst 1, 1) := by decide +kernel
theorem dX6_call_27 : decode cX6_call 27 = .ok (.goto 4, 3) := by decide +kernel
theorem dX6_call_30 : decode cX6_call 30 = .ok (.iconst 0, 1) := by decide +kernel
theorem dX6_call_31 : decode cX6_call 31 = .ok (.invokevirtual 102, 3) := by decide +kernel
theorem dX6_call_34 : decode cX6_call 34 = .ok (.ifCond .ne 5, 3) := by decide +kernel
theorem dX6_call_37 : decode cX6_call 37 = .ok (.iconst (-1), 1) := by decide +kernel
theorem dX6_call_38 : decode cX6_call 38 = .ok (.ireturn, 1) := by decide +kernel
theorem dX6_call_39 : decode cX6_call 39 = .ok (.aload_n 0, 1) := by decide +kernel
theorem dX6_call_40 : decode cX6_call 40 = .ok (.getfield 51, 3) := by decide +kernel
theorem dX6_call_43 : decode cX6_call 43 = .ok (.getfield 288, 3) := by decide +kernel
theorem dX6_call_46 : decode cX6_call 46 = .ok (.iload_n 1, 1) := by decide +kernel
theorem dX6_call_47 : decode cX6_call 47 = .ok (.aload_n 0, 1) := by decide +kernel
theorem dX6_call_48 : decode cX6_call 48 = .ok (.getfield 51, 3) := by decide +kernel
theorem dX6_call_51 : decode cX6_call 51 = .ok (.getfield 291, 3) := by decide +kernel
theorem dX6_call_54 : decode cX6_call 54 = .ok (.aload_n 0, 1) := by decide +kernel
theorem dX6_call_55 : decode cX6_call 55 = .ok (.getfield 39, 3) := by decide +kernel
theorem dX6_call_58 : decode cX6_call 58 = .ok (.getfield 136, 3) := by decide +kernel
theorem dX6_call_61 : decode cX6_call 61 = .ok (.iload_n 1, 1) := by decide +kernel
theorem dX6_call_62 : decode cX6_call 62 = .ok (.iaload, 1) := by decide +kernel
theorem dX6_call_63 : decode cX6_call 63 = .ok (.iadd, 1) := by decide +kernel
theorem dX6_call_64 : decode cX6_call 64 = .ok (.iastore, 1) := by decide +kernel
theorem dX6_call_65 : decode cX6_call 65 = .ok (.aload_n 0, 1) := by decide +kernel
theorem dX6_call_66 : decode cX6_call 66 = .ok (.getfield 51, 3) := by decide +kernel
theorem dX6_call_69 : decode cX6_call 69 = .ok (.getfield 288, 3) := by decide +kernel
theorem dX6_call_72 : decode cX6_call 72 = .ok (.iload_n 1, 1) := by decide +kernel
theorem dX6_call_73 : decode cX6_call 73 = .ok (.iaload, 1) := by decide +kernel
theorem dX6_call_74 : decode cX6_call 74 = .ok (.ireturn, 1) := by decide +kernel
theorem dX6_keep_0 : decode cX6_keep 0 = .ok (.aload_n 0, 1) := by decide +kernel
theorem dX6_keep_1 : decode cX6_keep 1 = .ok (.iconst 1, 1) := by decide +kernel
theorem dX6_keep_2 : decode cX6_keep 2 = .ok (.iconst 1, 1) := by decide +kernel
theorem dX6_keep_3 : decode cX6_keep 3 = .ok (.iconst 1, 1) := by decide +kernel
theorem dX6_keep_4 : decode cX6_keep 4 = .ok (.invokevirtual 102, 3) := by decide +kernel
theorem dX6_keep_7 : decode cX6_keep 7 = .ok (.ifCond .ne 5, 3) := by decide +kernel
theorem dX6_keep_10 : decode cX6_keep 10 = .ok (.iconst 0, 1) := by decide +kernel
theorem dX6_keep_11 : decode cX6_keep 11 = .ok (.ireturn, 1) := by decide +kernel
theorem dX6_keep_12 : decode cX6_keep 12 = .ok (.aload_n 0, 1) := by decide +kernel
theorem dX6_keep_13 : decode cX6_keep 13 = .ok (.getfield 42, 3) := by decide +kernel
theorem dX6_keep_16 : decode cX6_keep 16 = .ok (.aload_n 0, 1) := by decide +kernel
theorem dX6_keep_17 : decode cX6_keep 17 = .ok (.getfield 39, 3) := by decide +kernel
theorem dX6_keep_20 : decode cX6_keep 20 = .ok (.invokevirtual 260, 3) := by decide +kernel
theorem dX6_keep_23 : decode cX6_keep 23 = .ok (.aload_n 0, 1) := by decide +kernel
theorem dX6_keep_24 : decode cX6_keep 24 = .ok (.getfield 55, 3) := by decide +kernel
theorem dX6_keep_27 : decode cX6_keep 27 = .ok (.aload_n 0, 1) := by decide +kernel
theorem dX6_keep_28 : decode cX6_keep 28 = .ok (.getfield 51, 3) := by decide +kernel
theorem dX6_keep_31 : decode cX6_keep 31 = .ok (.invokevirtual 264, 3) := by decide +kernel
theorem dX6_keep_34 : decode cX6_keep 34 = .ok (.aload_n 0, 1) := by decide +kernel
theorem dX6_keep_35 : decode cX6_keep 35 = .ok (.iconst 1, 1) := by decide +kernel
theorem dX6_keep_36 : decode cX6_keep 36 = .ok (.putfield 65, 3) := by decide +kernel
theorem dX6_keep_39 : decode cX6_keep 39 = .ok (.iconst 1, 1) := by decide +kernel
theorem dX6_keep_40 : decode cX6_keep 40 = .ok (.ireturn, 1) := by decide +kernel
theorem dX6_back_0 : decode cX6_back 0 = .ok (.aload_n 0, 1) := by decide +kernel
theorem dX6_back_1 : decode cX6_back 1 = .ok (.aload_n 0, 1) := by decide +kernel
theorem dX6_back_2 : decode cX6_back 2 = .ok (.getfield 65, 3) := by decide +kernel
theorem dX6_back_5 : decode cX6_back 5 = .ok (.iconst 1, 1) := by decide +kernel
theorem dX6_back_6 : decode cX6_back 6 = .ok (.iconst 1, 1) := by decide +kernel
theorem dX6_back_7 : decode cX6_back 7 = .ok (.invokevirtual 102, 3) := by decide +kernel
theorem dX6_back_10 : decode cX6_back 10 = .ok (.ifCond .ne 5, 3) := by decide +kernel
theorem dX6_back_13 : decode cX6_back 13 = .ok (.iconst 0, 1) := by decide +kernel
theorem dX6_back_14 : decode cX6_back 14 = .ok (.ireturn, 1) := by decide +kernel
theorem dX6_back_15 : decode cX6_back 15 = .ok (.aload_n 0, 1) := by decide +kernel
theorem dX6_back_16 : decode cX6_back 16 = .ok (.getfield 39, 3) := by decide +kernel
theorem dX6_back_19 : decode cX6_back 19 = .ok (.aload_n 0, 1) := by decide +kernel
theorem dX6_back_20 : decode cX6_back 20 = .ok (.getfield 42, 3) := by decide +kernel
theorem dX6_back_23 : decode cX6_back 23 = .ok (.invokevirtual 260, 3) := by decide +kernel
theorem dX6_back_26 : decode cX6_back 26 = .ok (.aload_n 0, 1) := by decide +kernel
theorem dX6_back_27 : decode cX6_back 27 = .ok (.getfield 51, 3) := by decide +kernel
theorem dX6_back_30 : decode cX6_back 30 = .ok (.aload_n 0, 1) := by decide +kernel
theorem dX6_back_31 : decode cX6_back 31 = .ok (.getfield 55, 3) := by decide +kernel
theorem dX6_back_34 : decode cX6_back 34 = .ok (.invokevirtual 264, 3) := by decide +kernel
theorem dX6_back_37 : decode cX6_back 37 = .ok (.iconst 1, 1) := by decide +kernel
theorem dX6_back_38 : decode cX6_back 38 = .ok (.ireturn, 1) := by decide +kernel
theorem dX6_dry_0 : decode cX6_dry 0 = .ok (.iconst 0, 1) := by decide +kernel
theorem dX6_dry_1 : decode cX6_dry 1 = .ok (.istore_n 2, 1) := by decide +kernel
theorem dX6_dry_2 : decode cX6_dry 2 = .ok (.iconst 0, 1) := by decide +kernel
theorem dX6_dry_3 : decode cX6_dry 3 = .ok (.istore_n 3, 1) := by decide +kernel
theorem dX6_dry_4 : decode cX6_dry 4 = .ok (.iload_n 3, 1) := by decide +kernel
theorem dX6_dry_5 : decode cX6_dry 5 = .ok (.aload_n 0, 1) := by decide +kernel
theorem dX6_dry_6 : decode cX6_dry 6 = .ok (.getfield 39, 3) := by decide +kernel
theorem dX6_dry_9 : decode cX6_dry 9 = .ok (.getfield 92, 3) := by decide +kernel
theorem dX6_dry_12 : decode cX6_dry 12 = .ok (.if_icmp .ge 39, 3) := by decide +kernel
theorem dX6_dry_15 : decode cX6_dry 15 = .ok (.aload_n 0, 1) := by decide +kernel
theorem dX6_dry_16 : decode cX6_dry 16 = .ok (.getfield 39, 3) := by decide +kernel
theorem dX6_dry_19 : decode cX6_dry 19 = .ok (.iload_n 3, 1) := by decide +kernel
theorem dX6_dry_20 : decode cX6_dry 20 = .ok (.invokevirtual 142, 3) := by decide +kernel
theorem dX6_dry_23 : decode cX6_dry 23 = .ok (.aload_n 0, 1) := by decide +kernel
theorem dX6_dry_24 : decode cX6_dry 24 = .ok (.getfield 39, 3) := by decide +kernel
theorem dX6_dry_27 : decode cX6_dry 27 = .ok (.getfield 127, 3) := by decide +kernel
theorem dX6_dry_30 : decode cX6_dry 30 = .ok (.iload_n 3, 1) := by decide +kernel
theorem dX6_dry_31 : decode cX6_dry 31 = .ok (.iaload, 1) := by decide +kernel
theorem dX6_dry_32 : decode cX6_dry 32 = .ok (.if_icmp .ge 13, 3) := by decide +kernel
theorem dX6_dry_35 : decode cX6_dry 35 = .ok (.iload_n 2, 1) := by decide +kernel
theorem dX6_dry_36 : decode cX6_dry 36 = .ok (.iload_n 1, 1) := by decide +kernel
theorem dX6_dry_37 : decode cX6_dry 37 = .ok (.if_icmp .ne 5, 3) := by decide +kernel
theorem dX6_dry_40 : decode cX6_dry 40 = .ok (.iload_n 3, 1) := by decide +kernel
theorem dX6_dry_41 : decode cX6_dry 41 = .ok (.ireturn, 1) := by decide +kernel
theorem dX6_dry_42 : decode cX6_dry 42 = .ok (.iinc 2 1, 3) := by decide +kernel
theorem dX6_dry_45 : decode cX6_dry 45 = .ok (.iinc 3 1, 3) := by decide +kernel
theorem dX6_dry_48 : decode cX6_dry 48 = .ok (.goto (-44), 3) := by decide +kernel
theorem dX6_dry_51 : decode cX6_dry 51 = .ok (.new 294, 3) := by decide +kernel
theorem dX6_dry_54 : decode cX6_dry 54 = .ok (.dup, 1) := by decide +kernel
theorem dX6_dry_55 : decode cX6_dry 55 = .ok (.invokespecial 296, 3) := by decide +kernel
theorem dX6_dry_58 : decode cX6_dry 58 = .ok (.athrow, 1) := by decide +kernel
theorem dX6_size_0 : decode cX6_size 0 = .ok (.iload_n 1, 1) := by decide +kernel
theorem dX6_size_1 : decode cX6_size 1 = .ok (.tableswitch 64 0 2 #[27, 35, 48], 27) := by decide +kernel
theorem dX6_size_28 : decode cX6_size 28 = .ok (.aload_n 0, 1) := by decide +kernel
theorem dX6_size_29 : decode cX6_size 29 = .ok (.getfield 12, 3) := by decide +kernel
theorem dX6_size_32 : decode cX6_size 32 = .ok (.getfield 75, 3) := by decide +kernel
theorem dX6_size_35 : decode cX6_size 35 = .ok (.ireturn, 1) := by decide +kernel
theorem dX6_size_36 : decode cX6_size 36 = .ok (.aload_n 0, 1) := by decide +kernel
theorem dX6_size_37 : decode cX6_size 37 = .ok (.getfield 65, 3) := by decide +kernel
theorem dX6_size_40 : decode cX6_size 40 = .ok (.ifCond .eq 7, 3) := by decide +kernel
theorem dX6_size_43 : decode cX6_size 43 = .ok (.iconst 1, 1) := by decide +kernel
theorem dX6_size_44 : decode cX6_size 44 = .ok (.goto 4, 3) := by decide +kernel
theorem dX6_size_47 : decode cX6_size 47 = .ok (.iconst 0, 1) := by decide +kernel
theorem dX6_size_48 : decode cX6_size 48 = .ok (.ireturn, 1) := by decide +kernel
theorem dX6_size_49 : decode cX6_size 49 = .ok (.aload_n 0, 1) := by decide +kernel
theorem dX6_size_50 : decode cX6_size 50 = .ok (.getfield 51, 3) := by decide +kernel
theorem dX6_size_53 : decode cX6_size 53 = .ok (.getfield 213, 3) := by decide +kernel
theorem dX6_size_56 : decode cX6_size 56 = .ok (.ifCond .eq 7, 3) := by decide +kernel
theorem dX6_size_59 : decode cX6_size 59 = .ok (.iconst 1, 1) := by decide +kernel
theorem dX6_size_60 : decode cX6_size 60 = .ok (.goto 4, 3) := by decide +kernel
theorem dX6_size_63 : decode cX6_size 63 = .ok (.iconst 0, 1) := by decide +kernel
theorem dX6_size_64 : decode cX6_size 64 = .ok (.ireturn, 1) := by decide +kernel
theorem dX6_size_65 : decode cX6_size 65 = .ok (.iconst (-1), 1) := by decide +kernel
theorem dX6_size_66 : decode cX6_size 66 = .ok (.ireturn, 1) := by decide +kernel
theorem dX6_trouble_0 : decode cX6_trouble 0 = .ok (.aload_n 0, 1) := by decide +kernel
theorem dX6_trouble_1 : decode cX6_trouble 1 = .ok (.getfield 68, 3) := by decide +kernel
theorem dX6_trouble_4 : decode cX6_trouble 4 = .ok (.ireturn, 1) := by decide +kernel
theorem dX6_granted_0 : decode cX6_granted 0 = .ok (.aload_n 0, 1) := by decide +kernel
theorem dX6_granted_1 : decode cX6_granted 1 = .ok (.getfield 61, 3) := by decide +kernel
theorem dX6_granted_4 : decode cX6_granted 4 = .ok (.ifCond .eq 7, 3) := by decide +kernel
theorem dX6_granted_7 : decode cX6_granted 7 = .ok (.iload_n 1, 1) := by decide +kernel
theorem dX6_granted_8 : decode cX6_granted 8 = .ok (.ifCond .ne 11, 3) := by decide +kernel
theorem dX6_granted_11 : decode cX6_granted 11 = .ok (.aload_n 0, 1) := by decide +kernel
theorem dX6_granted_12 : decode cX6_granted 12 = .ok (.iconst 1, 1) := by decide +kernel
theorem dX6_granted_13 : decode cX6_granted 13 = .ok (.putfield 68, 3) := by decide +kernel
theorem dX6_granted_16 : decode cX6_granted 16 = .ok (.goto 32, 3) := by decide +kernel
theorem dX6_granted_19 : decode cX6_granted 19 = .ok (.iload_n 2, 1) := by decide +kernel
theorem dX6_granted_20 : decode cX6_granted 20 = .ok (.ifCond .ne 11, 3) := by decide +kernel
theorem dX6_granted_23 : decode cX6_granted 23 = .ok (.aload_n 0, 1) := by decide +kernel
theorem dX6_granted_24 : decode cX6_granted 24 = .ok (.iconst 2, 1) := by decide +kernel
theorem dX6_granted_25 : decode cX6_granted 25 = .ok (.putfield 68, 3) := by decide +kernel
theorem dX6_granted_28 : decode cX6_granted 28 = .ok (.goto 20, 3) := by decide +kernel
theorem dX6_granted_31 : decode cX6_granted 31 = .ok (.iload_n 3, 1) := by decide +kernel
theorem dX6_granted_32 : decode cX6_granted 32 = .ok (.ifCond .ne 11, 3) := by decide +kernel
theorem dX6_granted_35 : decode cX6_granted 35 = .ok (.aload_n 0, 1) := by decide +kernel
theorem dX6_granted_36 : decode cX6_granted 36 = .ok (.iconst 5, 1) := by decide +kernel
theorem dX6_granted_37 : decode cX6_granted 37 = .ok (.putfield 68, 3) := by decide +kernel
theorem dX6_granted_40 : decode cX6_granted 40 = .ok (.goto 8, 3) := by decide +kernel
theorem dX6_granted_43 : decode cX6_granted 43 = .ok (.aload_n 0, 1) := by decide +kernel
theorem dX6_granted_44 : decode cX6_granted 44 = .ok (.iconst 0, 1) := by decide +kernel
theorem dX6_granted_45 : decode cX6_granted 45 = .ok (.putfield 68, 3) := by decide +kernel
theorem dX6_granted_48 : decode cX6_granted 48 = .ok (.aload_n 0, 1) := by decide +kernel
theorem dX6_granted_49 : decode cX6_granted 49 = .ok (.getfield 68, 3) := by decide +kernel
theorem dX6_granted_52 : decode cX6_granted 52 = .ok (.ifCond .ne 7, 3) := by decide +kernel
theorem dX6_granted_55 : decode cX6_granted 55 = .ok (.iconst 1, 1) := by decide +kernel
theorem dX6_granted_56 : decode cX6_granted 56 = .ok (.goto 4, 3) := by decide +kernel
theorem dX6_granted_59 : decode cX6_granted 59 = .ok (.iconst 0, 1) := by decide +kernel
theorem dX6_granted_60 : decode cX6_granted 60 = .ok (.ireturn, 1) := by decide +kernel
theorem dX6_grantedAmount_0 : decode cX6_grantedAmount 0 = .ok (.aload_n 0, 1) := by decide +kernel
theorem dX6_grantedAmount_1 : decode cX6_grantedAmount 1 = .ok (.iload_n 1, 1) := by decide +kernel
theorem dX6_grantedAmount_2 : decode cX6_grantedAmount 2 = .ok (.iload_n 2, 1) := by decide +kernel
theorem dX6_grantedAmount_3 : decode cX6_grantedAmount 3 = .ok (.iconst 1, 1) := by decide +kernel
theorem dX6_grantedAmount_4 : decode cX6_grantedAmount 4 = .ok (.bipush 120, 2) := by decide +kernel
theorem dX6_grantedAmount_6 : decode cX6_grantedAmount 6 = .ok (.invokestatic 98, 3) := by decide +kernel
theorem dX6_grantedAmount_9 : decode cX6_grantedAmount 9 = .ok (.iconst 1, 1) := by decide +kernel
theorem dX6_grantedAmount_10 : decode cX6_grantedAmount 10 = .ok (.invokevirtual 102, 3) := by decide +kernel
theorem dX6_grantedAmount_13 : decode cX6_grantedAmount 13 = .ok (.ireturn, 1) := by decide +kernel
theorem dX6_isVenue_0 : decode cX6_isVenue 0 = .ok (.iload_n 1, 1) := by decide +kernel
theorem dX6_isVenue_1 : decode cX6_isVenue 1 = .ok (.ifCond .lt 18, 3) := by decide +kernel
theorem dX6_isVenue_4 : decode cX6_isVenue 4 = .ok (.iload_n 1, 1) := by decide +kernel
theorem dX6_isVenue_5 : decode cX6_isVenue 5 = .ok (.aload_n 0, 1) := by decide +kernel
theorem dX6_isVenue_6 : decode cX6_isVenue 6 = .ok (.getfield 39, 3) := by decide +kernel
theorem dX6_isVenue_9 : decode cX6_isVenue 9 = .ok (.getfield 92, 3) := by decide +kernel
theorem dX6_isVenue_12 : decode cX6_isVenue 12 = .ok (.if_icmp .ge 7, 3) := by decide +kernel
theorem dX6_isVenue_15 : decode cX6_isVenue 15 = .ok (.iconst 1, 1) := by decide +kernel
theorem dX6_isVenue_16 : decode cX6_isVenue 16 = .ok (.goto 4, 3) := by decide +kernel
theorem dX6_isVenue_19 : decode cX6_isVenue 19 = .ok (.iconst 0, 1) := by decide +kernel
theorem dX6_isVenue_20 : decode cX6_isVenue 20 = .ok (.ireturn, 1) := by decide +kernel
theorem dX6_isLevel_0 : decode cX6_isLevel 0 = .ok (.aload_n 0, 1) := by decide +kernel
theorem dX6_isLevel_1 : decode cX6_isLevel 1 = .ok (.iload_n 1, 1) := by decide +kernel
theorem dX6_isLevel_2 : decode cX6_isLevel 2 = .ok (.invokevirtual 118, 3) := by decide +kernel
theorem dX6_isLevel_5 : decode cX6_isLevel 5 = .ok (.ifCond .eq 24, 3) := by decide +kernel
theorem dX6_isLevel_8 : decode cX6_isLevel 8 = .ok (.iload_n 2, 1) := by decide +kernel
theorem dX6_isLevel_9 : decode cX6_isLevel 9 = .ok (.ifCond .lt 20, 3) := by decide +kernel
theorem dX6_isLevel_12 : decode cX6_isLevel 12 = .ok (.iload_n 2, 1) := by decide +kernel
theorem dX6_isLevel_13 : decode cX6_isLevel 13 = .ok (.aload_n 0, 1) := by decide +kernel
theorem dX6_isLevel_14 : decode cX6_isLevel 14 = .ok (.getfield 39, 3) := by decide +kernel
theorem dX6_isLevel_17 : decode cX6_isLevel 17 = .ok (.getfield 139, 3) := by decide +kernel
theorem dX6_isLevel_20 : decode cX6_isLevel 20 = .ok (.iload_n 1, 1) := by decide +kernel
theorem dX6_isLevel_21 : decode cX6_isLevel 21 = .ok (.iaload, 1) := by decide +kernel
theorem dX6_isLevel_22 : decode cX6_isLevel 22 = .ok (.if_icmp .ge 7, 3) := by decide +kernel
theorem dX6_isLevel_25 : decode cX6_isLevel 25 = .ok (.iconst 1, 1) := by decide +kernel
theorem dX6_isLevel_26 : decode cX6_isLevel 26 = .ok (.goto 4, 3) := by decide +kernel
theorem dX6_isLevel_29 : decode cX6_isLevel 29 = .ok (.iconst 0, 1) := by decide +kernel
theorem dX6_isLevel_30 : decode cX6_isLevel 30 = .ok (.ireturn, 1) := by decide +kernel
theorem dX6_within_0 : decode cX6_within 0 = .ok (.iload_n 0, 1) := by decide +kernel
theorem dX6_within_1 : decode cX6_within 1 = .ok (.iload_n 1, 1) := by decide +kernel
theorem dX6_within_2 : decode cX6_within 2 = .ok (.if_icmp .lt 12, 3) := by decide +kernel
theorem dX6_within_5 : decode cX6_within 5 = .ok (.iload_n 0, 1) := by decide +kernel
theorem dX6_within_6 : decode cX6_within 6 = .ok (.iload_n 2, 1) := by decide +kernel
theorem dX6_within_7 : decode cX6_within 7 = .ok (.if_icmp .gt 7, 3) := by decide +kernel
theorem dX6_within_10 : decode cX6_within 10 = .ok (.iconst 1, 1) := by decide +kernel
theorem dX6_within_11 : decode cX6_within 11 = .ok (.goto 4, 3) := by decide +kernel
theorem dX6_within_14 : decode cX6_within 14 = .ok (.iconst 0, 1) := by decide +kernel
theorem dX6_within_15 : decode cX6_within 15 = .ok (.ireturn, 1) := by decide +kernel
theorem dX6_slot_0 : decode cX6_slot 0 = .ok (.iload_n 0, 1) := by decide +kernel
theorem dX6_slot_1 : decode cX6_slot 1 = .ok (.bipush 6, 2) := by decide +kernel
theorem dX6_slot_3 : decode cX6_slot 3 = .ok (.imul, 1) := by decide +kernel
theorem dX6_slot_4 : decode cX6_slot 4 = .ok (.iload_n 1, 1) := by decide +kernel
theorem dX6_slot_5 : decode cX6_slot 5 = .ok (.iadd, 1) := by decide +kernel
theorem dX6_slot_6 : decode cX6_slot 6 = .ok (.ireturn, 1) := by decide +kernel
theorem dL_dry_0 : decode cL_dry 0 = .ok (.aload_n 2, 1) := by decide +kernel
theorem dL_dry_1 : decode cL_dry 1 = .ok (.iconst 0, 1) := by decide +kernel
theorem dL_dry_2 : decode cL_dry 2 = .ok (.aload_n 0, 1) := by decide +kernel
theorem dL_dry_3 : decode cL_dry 3 = .ok (.iload_n 1, 1) := by decide +kernel
theorem dL_dry_4 : decode cL_dry 4 = .ok (.invokevirtual 7, 3) := by decide +kernel
theorem dL_dry_7 : decode cL_dry 7 = .ok (.i2l, 1) := by decide +kernel
theorem dL_dry_8 : decode cL_dry 8 = .ok (.lastore, 1) := by decide +kernel
theorem dL_dry_9 : decode cL_dry 9 = .ok (.goto 6, 3) := by decide +kernel
theorem dL_dry_12 : decode cL_dry 12 = .ok (.astore_n 3, 1) := by decide +kernel
theorem dL_dry_13 : decode cL_dry 13 = .ok (.iconst 1, 1) := by decide +kernel
theorem dL_dry_14 : decode cL_dry 14 = .ok (.ireturn, 1) := by decide +kernel
theorem dL_dry_15 : decode cL_dry 15 = .ok (.iconst 0, 1) := by decide +kernel
theorem dL_dry_16 : decode cL_dry 16 = .ok (.ireturn, 1) := by decide +kernel
theorem dL_law_0 : decode cL_law 0 = .ok (.new 8, 3) := by decide +kernel
theorem dL_law_3 : decode cL_law 3 = .ok (.dup, 1) := by decide +kernel
theorem dL_law_4 : decode cL_law 4 = .ok (.invokespecial 15, 3) := by decide +kernel
theorem dL_law_7 : decode cL_law 7 = .ok (.astore_n 1, 1) := by decide +kernel
theorem dL_law_8 : decode cL_law 8 = .ok (.new 16, 3) := by decide +kernel
theorem dL_law_11 : decode cL_law 11 = .ok (.dup, 1) := by decide +kernel
theorem dL_law_12 : decode cL_law 12 = .ok (.invokespecial 18, 3) := by decide +kernel
theorem dL_law_15 : decode cL_law 15 = .ok (.astore_n 2, 1) := by decide +kernel
theorem dL_law_16 : decode cL_law 16 = .ok (.iconst 1, 1) := by decide +kernel
theorem dL_law_17 : decode cL_law 17 = .ok (.newarray .long, 2) := by decide +kernel
theorem dL_law_19 : decode cL_law 19 = .ok (.astore_n 3, 1) := by decide +kernel
theorem dL_law_20 : decode cL_law 20 = .ok (.iconst 0, 1) := by decide +kernel
theorem dL_law_21 : decode cL_law 21 = .ok (.istore 4, 2) := by decide +kernel
theorem dL_law_23 : decode cL_law 23 = .ok (.iload 4, 2) := by decide +kernel
theorem dL_law_25 : decode cL_law 25 = .ok (.aload_n 0, 1) := by decide +kernel
theorem dL_law_26 : decode cL_law 26 = .ok (.arraylength, 1) := by decide +kernel
theorem dL_law_27 : decode cL_law 27 = .ok (.bipush 6, 2) := by decide +kernel
theorem dL_law_29 : decode cL_law 29 = .ok (.isub, 1) := by decide +kernel
theorem dL_law_30 : decode cL_law 30 = .ok (.if_icmp .gt 1339, 3) := by decide +kernel
theorem dL_law_33 : decode cL_law 33 = .ok (.aload_n 0, 1) := by decide +kernel
theorem dL_law_34 : decode cL_law 34 = .ok (.iload 4, 2) := by decide +kernel
theorem dL_law_36 : decode cL_law 36 = .ok (.iaload, 1) := by decide +kernel
theorem dL_law_37 : decode cL_law 37 = .ok (.bipush 63, 2) := by decide +kernel
theorem dL_law_39 : decode cL_law 39 = .ok (.iand, 1) := by decide +kernel
theorem dL_law_40 : decode cL_law 40 = .ok (.tableswitch 1323 0 39 #[176, 249, 274, 287, 300, 325, 362, 411, 448, 485, 522, 547, 572, 609, 634, 659, 684, 721, 758, 783, 820, 845, 858, 883, 920, 933, 970, 1007, 1032, 1057, 1094, 1143, 1168, 1181, 1206, 1231, 1244, 1257, 1285, 1310], 176) := by decide +kernel
theorem dL_law_216 : decode cL_law 216 = .ok (.aload_n 1, 1) := by decide +kernel
theorem dL_law_217 : decode cL_law 217 = .ok (.aload_n 0, 1) := by decide +kernel
theorem dL_law_218 : decode cL_law 218 = .ok (.iload 4, 2) := by decide +kernel
theorem dL_law_220 : decode cL_law 220 = .ok (.iconst 1, 1) := by decide +kernel
theorem dL_law_221 : decode cL_law 221 = .ok (.iadd, 1) := by decide +kernel
theorem dL_law_222 : decode cL_law 222 = .ok (.iaload, 1) := by decide +kernel
theorem dL_law_223 : decode cL_law 223 = .ok (.aload_n 0, 1) := by decide +kernel
theorem dL_law_224 : decode cL_law 224 = .ok (.iload 4, 2) := by decide +kernel
theorem dL_law_226 : decode cL_law 226 = .ok (.iconst 2, 1) := by decide +kernel
theorem dL_law_227 : decode cL_law 227 = .ok (.iadd, 1) := by decide +kernel
theorem dL_law_228 : decode cL_law 228 = .ok (.iaload, 1) := by decide +kernel
theorem dL_law_229 : decode cL_law 229 = .ok (.aload_n 0, 1) := by decide +kernel
theorem dL_law_230 : decode cL_law 230 = .ok (.iload 4, 2) := by decide +kernel
theorem dL_law_232 : decode cL_law 232 = .ok (.iconst 3, 1) := by decide +kernel
theorem dL_law_233 : decode cL_law 233 = .ok (.iadd, 1) := by decide +kernel
theorem dL_law_234 : decode cL_law 234 = .ok (.iaload, 1) := by decide +kernel
theorem dL_law_235 : decode cL_law 235 = .ok (.aload_n 0, 1) := by decide +kernel
theorem dL_law_236 : decode cL_law 236 = .ok (.iload 4, 2) := by decide +kernel
theorem dL_law_238 : decode cL_law 238 = .ok (.iconst 4, 1) := by decide +kernel
theorem dL_law_239 : decode cL_law 239 = .ok (.iadd, 1) := by decide +kernel
theorem dL_law_240 : decode cL_law 240 = .ok (.iaload, 1) := by decide +kernel
theorem dL_law_241 : decode cL_law 241 = .ok (.aload_n 0, 1) := by decide +kernel
theorem dL_law_242 : decode cL_law 242 = .ok (.iload 4, 2) := by decide +kernel
theorem dL_law_244 : decode cL_law 244 = .ok (.iconst 5, 1) := by decide +kernel
theorem dL_law_245 : decode cL_law 245 = .ok (.iadd, 1) := by decide +kernel
theorem dL_law_246 : decode cL_law 246 = .ok (.iaload, 1) := by decide +kernel
theorem dL_law_247 : decode cL_law 247 = .ok (.invokevirtual 19, 3) := by decide +kernel
theorem dL_law_250 : decode cL_law 250 = .ok (.pop, 1) := by decide +kernel
theorem dL_law_251 : decode cL_law 251 = .ok (.aload_n 2, 1) := by decide +kernel
theorem dL_law_252 : decode cL_law 252 = .ok (.aload_n 0, 1) := by decide +kernel
theorem dL_law_253 : decode cL_law 253 = .ok (.iload 4, 2) := by decide +kernel
theorem dL_law_255 : decode cL_law 255 = .ok (.iconst 1, 1) := by decide +kernel
theorem dL_law_256 : decode cL_law 256 = .ok (.iadd, 1) := by decide +kernel
theorem dL_law_257 : decode cL_law 257 = .ok (.iaload, 1) := by decide +kernel
theorem dL_law_258 : decode cL_law 258 = .ok (.aload_n 0, 1) := by decide +kernel
theorem dL_law_259 : decode cL_law 259 = .ok (.iload 4, 2) := by decide +kernel
theorem dL_law_261 : decode cL_law 261 = .ok (.iconst 2, 1) := by decide +kernel
theorem dL_law_262 : decode cL_law 262 = .ok (.iadd, 1) := by decide +kernel
theorem dL_law_263 : decode cL_law 263 = .ok (.iaload, 1) := by decide +kernel
theorem dL_law_264 : decode cL_law 264 = .ok (.aload_n 0, 1) := by decide +kernel
theorem dL_law_265 : decode cL_law 265 = .ok (.iload 4, 2) := by decide +kernel
theorem dL_law_267 : decode cL_law 267 = .ok (.iconst 3, 1) := by decide +kernel
theorem dL_law_268 : decode cL_law 268 = .ok (.iadd, 1) := by decide +kernel
theorem dL_law_269 : decode cL_law 269 = .ok (.iaload, 1) := by decide +kernel
theorem dL_law_270 : decode cL_law 270 = .ok (.aload_n 0, 1) := by decide +kernel
theorem dL_law_271 : decode cL_law 271 = .ok (.iload 4, 2) := by decide +kernel
theorem dL_law_273 : decode cL_law 273 = .ok (.iconst 4, 1) := by decide +kernel
theorem dL_law_274 : decode cL_law 274 = .ok (.iadd, 1) := by decide +kernel
theorem dL_law_275 : decode cL_law 275 = .ok (.iaload, 1) := by decide +kernel
theorem dL_law_276 : decode cL_law 276 = .ok (.aload_n 0, 1) := by decide +kernel
theorem dL_law_277 : decode cL_law 277 = .ok (.iload 4, 2) := by decide +kernel
theorem dL_law_279 : decode cL_law 279 = .ok (.iconst 5, 1) := by decide +kernel
theorem dL_law_280 : decode cL_law 280 = .ok (.iadd, 1) := by decide +kernel
theorem dL_law_281 : decode cL_law 281 = .ok (.iaload, 1) := by decide +kernel
theorem dL_law_282 : decode cL_law 282 = .ok (.invokevirtual 23, 3) := by decide +kernel
theorem dL_law_285 : decode cL_law 285 = .ok (.pop, 1) := by decide +kernel
theorem dL_law_286 : decode cL_law 286 = .ok (.goto 1077, 3) := by decide +kernel
theorem dL_law_289 : decode cL_law 289 = .ok (.aload_n 1, 1) := by decide +kernel
theorem dL_law_290 : decode cL_law 290 = .ok (.aload_n 0, 1) := by decide +kernel
theorem dL_law_291 : decode cL_law 291 = .ok (.iload 4, 2) := by decide +kernel
theorem dL_law_293 : decode cL_law 293 = .ok (.iconst 1, 1) := by decide +kernel
theorem dL_law_294 : decode cL_law 294 = .ok (.iadd, 1) := by decide +kernel
theorem dL_law_295 : decode cL_law 295 = .ok (.iaload, 1) := by decide +kernel
theorem dL_law_296 : decode cL_law 296 = .ok (.invokevirtual 24, 3) := by decide +kernel
theorem dL_law_299 : decode cL_law 299 = .ok (.pop, 1) := by decide +kernel
theorem dL_law_300 : decode cL_law 300 = .ok (.aload_n 2, 1) := by decide +kernel
theorem dL_law_301 : decode cL_law 301 = .ok (.aload_n 0, 1) := by decide +kernel
theorem dL_law_302 : decode cL_law 302 = .ok (.iload 4, 2) := by decide +kernel
theorem dL_law_304 : decode cL_law 304 = .ok (.iconst 1, 1) := by decide +kernel
theorem dL_law_305 : decode cL_law 305 = .ok (.iadd, 1) := by decide +kernel
theorem dL_law_306 : decode cL_law 306 = .ok (.iaload, 1) := by decide +kernel
theorem dL_law_307 : decode cL_law 307 = .ok (.invokevirtual 27, 3) := by decide +kernel
theorem dL_law_310 : decode cL_law 310 = .ok (.pop, 1) := by decide +kernel
theorem dL_law_311 : decode cL_law 311 = .ok (.goto 1052, 3) := by decide +kernel
theorem dL_law_314 : decode cL_law 314 = .ok (.aload_n 1, 1) := by decide +kernel
theorem dL_law_315 : decode cL_law 315 = .ok (.invokevirtual 28, 3) := by decide +kernel
theorem dL_law_318 : decode cL_law 318 = .ok (.pop, 1) := by decide +kernel
theorem dL_law_319 : decode cL_law 319 = .ok (.aload_n 2, 1) := by decide +kernel
theorem dL_law_320 : decode cL_law 320 = .ok (.invokevirtual 32, 3) := by decide +kernel
theorem dL_law_323 : decode cL_law 323 = .ok (.pop, 1) := by decide +kernel
theorem dL_law_324 : decode cL_law 324 = .ok (.goto 1039, 3) := by decide +kernel
theorem dL_law_327 : decode cL_law 327 = .ok (.aload_n 1, 1) := by decide +kernel
theorem dL_law_328 : decode cL_law 328 = .ok (.invokevirtual 33, 3) := by decide +kernel
theorem dL_law_331 : decode cL_law 331 = .ok (.pop, 1) := by decide +kernel
theorem dL_law_332 : decode cL_law 332 = .ok (.aload_n 2, 1) := by decide +kernel
theorem dL_law_333 : decode cL_law 333 = .ok (.invokevirtual 36, 3) := by decide +kernel
theorem dL_law_336 : decode cL_law 336 = .ok (.pop, 1) := by decide +kernel
theorem dL_law_337 : decode cL_law 337 = .ok (.goto 1026, 3) := by decide +kernel
theorem dL_law_340 : decode cL_law 340 = .ok (.aload_n 1, 1) := by decide +kernel
theorem dL_law_341 : decode cL_law 341 = .ok (.aload_n 0, 1) := by decide +kernel
theorem dL_law_342 : decode cL_law 342 = .ok (.iload 4, 2) := by decide +kernel
theorem dL_law_344 : decode cL_law 344 = .ok (.iconst 1, 1) := by decide +kernel
theorem dL_law_345 : decode cL_law 345 = .ok (.iadd, 1) := by decide +kernel
theorem dL_law_346 : decode cL_law 346 = .ok (.iaload, 1) := by decide +kernel
theorem dL_law_347 : decode cL_law 347 = .ok (.invokevirtual 37, 3) := by decide +kernel
theorem dL_law_350 : decode cL_law 350 = .ok (.pop, 1) := by decide +kernel
theorem dL_law_351 : decode cL_law 351 = .ok (.aload_n 2, 1) := by decide +kernel
theorem dL_law_352 : decode cL_law 352 = .ok (.aload_n 0, 1) := by decide +kernel
theorem dL_law_353 : decode cL_law 353 = .ok (.iload 4, 2) := by decide +kernel
theorem dL_law_355 : decode cL_law 355 = .ok (.iconst 1, 1) := by decide +kernel
theorem dL_law_356 : decode cL_law 356 = .ok (.iadd, 1) := by decide +kernel
theorem dL_law_357 : decode cL_law 357 = .ok (.iaload, 1) := by decide +kernel
theorem dL_law_358 : decode cL_law 358 = .ok (.invokevirtual 40, 3) := by decide +kernel
theorem dL_law_361 : decode cL_law 361 = .ok (.pop, 1) := by decide +kernel
theorem dL_law_362 : decode cL_law 362 = .ok (.goto 1001, 3) := by decide +kernel
theorem dL_law_365 : decode cL_law 365 = .ok (.aload_n 1, 1) := by decide +kernel
theorem dL_law_366 : decode cL_law 366 = .ok (.aload_n 0, 1) := by decide +kernel
theorem dL_law_367 : decode cL_law 367 = .ok (.iload 4, 2) := by decide +kernel
theorem dL_law_369 : decode cL_law 369 = .ok (.iconst 1, 1) := by decide +kernel
theorem dL_law_370 : decode cL_law 370 = .ok (.iadd, 1) := by decide +kernel
theorem dL_law_371 : decode cL_law 371 = .ok (.iaload, 1) := by decide +kernel
theorem dL_law_372 : decode cL_law 372 = .ok (.aload_n 0, 1) := by decide +kernel
theorem dL_law_373 : decode cL_law 373 = .ok (.iload 4, 2) := by decide +kernel
theorem dL_law_375 : decode cL_law 375 = .ok (.iconst 2, 1) := by decide +kernel
theorem dL_law_376 : decode cL_law 376 = .ok (.iadd, 1) := by decide +kernel
theorem dL_law_377 : decode cL_law 377 = .ok (.iaload, 1) := by decide +kernel
theorem dL_law_378 : decode cL_law 378 = .ok (.invokevirtual 41, 3) := by decide +kernel
theorem dL_law_381 : decode cL_law 381 = .ok (.pop, 1) := by decide +kernel
theorem dL_law_382 : decode cL_law 382 = .ok (.aload_n 2, 1) := by decide +kernel
theorem dL_law_383 : decode cL_law 383 = .ok (.aload_n 0, 1) := by decide +kernel
theorem dL_law_384 : decode cL_law 384 = .ok (.iload 4, 2) := by decide +kernel
theorem dL_law_386 : decode cL_law 386 = .ok (.iconst 1, 1) := by decide +kernel
theorem dL_law_387 : decode cL_law 387 = .ok (.iadd, 1) := by decide +kernel
theorem dL_law_388 : decode cL_law 388 = .ok (.iaload, 1) := by decide +kernel
theorem dL_law_389 : decode cL_law 389 = .ok (.aload_n 0, 1) := by decide +kernel
theorem dL_law_390 : decode cL_law 390 = .ok (.iload 4, 2) := by decide +kernel
theorem dL_law_392 : decode cL_law 392 = .ok (.iconst 2, 1) := by decide +kernel
theorem dL_law_393 : decode cL_law 393 = .ok (.iadd, 1) := by decide +kernel
theorem dL_law_394 : decode cL_law 394 = .ok (.iaload, 1) := by decide +kernel
theorem dL_law_395 : decode cL_law 395 = .ok (.invokevirtual 45, 3) := by decide +kernel
theorem dL_law_398 : decode cL_law 398 = .ok (.pop, 1) := by decide +kernel
theorem dL_law_399 : decode cL_law 399 = .ok (.goto 964, 3) := by decide +kernel
theorem dL_law_402 : decode cL_law 402 = .ok (.aload_n 1, 1) := by decide +kernel
theorem dL_law_403 : decode cL_law 403 = .ok (.aload_n 0, 1) := by decide +kernel
theorem dL_law_404 : decode cL_law 404 = .ok (.iload 4, 2) := by decide +kernel
theorem dL_law_406 : decode cL_law 406 = .ok (.iconst 1, 1) := by decide +kernel
theorem dL_law_407 : decode cL_law 407 = .ok (.iadd, 1) := by decide +kernel
theorem dL_law_408 : decode cL_law 408 = .ok (.iaload, 1) := by decide +kernel
theorem dL_law_409 : decode cL_law 409 = .ok (.aload_n 0, 1) := by decide +kernel
theorem dL_law_410 : decode cL_law 410 = .ok (.iload 4, 2) := by decide +kernel
theorem dL_law_412 : decode cL_law 412 = .ok (.iconst 2, 1) := by decide +kernel
theorem dL_law_413 : decode cL_law 413 = .ok (.iadd, 1) := by decide +kernel
theorem dL_law_414 : decode cL_law 414 = .ok (.iaload, 1) := by decide +kernel
theorem dL_law_415 : decode cL_law 415 = .ok (.aload_n 0, 1) := by decide +kernel
theorem dL_law_416 : decode cL_law 416 = .ok (.iload 4, 2) := by decide +kernel
theorem dL_law_418 : decode cL_law 418 = .ok (.iconst 3, 1) := by decide +kernel
theorem dL_law_419 : decode cL_law 419 = .ok (.iadd, 1) := by decide +kernel
theorem dL_law_420 : decode cL_law 420 = .ok (.iaload, 1) := by decide +kernel
theorem dL_law_421 : decode cL_law 421 = .ok (.invokevirtual 46, 3) := by decide +kernel
theorem dL_law_424 : decode cL_law 424 = .ok (.aload_n 2, 1) := by decide +kernel
theorem dL_law_425 : decode cL_law 425 = .ok (.aload_n 0, 1) := by decide +kernel
theorem dL_law_426 : decode cL_law 426 = .ok (.iload 4, 2) := by decide +kernel
theorem dL_law_428 : decode cL_law 428 = .ok (.iconst 1, 1) := by decide +kernel
theorem dL_law_429 : decode cL_law 429 = .ok (.iadd, 1) := by decide +kernel
theorem dL_law_430 : decode cL_law 430 = .ok (.iaload, 1) := by decide +kernel
theorem dL_law_431 : decode cL_law 431 = .ok (.aload_n 0, 1) := by decide +kernel
theorem dL_law_432 : decode cL_law 432 = .ok (.iload 4, 2) := by decide +kernel
theorem dL_law_434 : decode cL_law 434 = .ok (.iconst 2, 1) := by decide +kernel
theorem dL_law_435 : decode cL_law 435 = .ok (.iadd, 1) := by decide +kernel
theorem dL_law_436 : decode cL_law 436 = .ok (.iaload, 1) := by decide +kernel
theorem dL_law_437 : decode cL_law 437 = .ok (.aload_n 0, 1) := by decide +kernel
theorem dL_law_438 : decode cL_law 438 = .ok (.iload 4, 2) := by decide +kernel
theorem dL_law_440 : decode cL_law 440 = .ok (.iconst 3, 1) := by decide +kernel
theorem dL_law_441 : decode cL_law 441 = .ok (.iadd, 1) := by decide +kernel
theorem dL_law_442 : decode cL_law 442 = .ok (.iaload, 1) := by decide +kernel
theorem dL_law_443 : decode cL_law 443 = .ok (.invokevirtual 50, 3) := by decide +kernel
theorem dL_law_446 : decode cL_law 446 = .ok (.if_icmp .eq 917, 3) := by decide +kernel
theorem dL_law_449 : decode cL_law 449 = .ok (.iconst 0, 1) := by decide +kernel
theorem dL_law_450 : decode cL_law 450 = .ok (.ireturn, 1) := by decide +kernel
theorem dL_law_451 : decode cL_law 451 = .ok (.aload_n 1, 1) := by decide +kernel
theorem dL_law_452 : decode cL_law 452 = .ok (.aload_n 0, 1) := by decide +kernel
theorem dL_law_453 : decode cL_law 453 = .ok (.iload 4, 2) := by decide +kernel
theorem dL_law_455 : decode cL_law 455 = .ok (.iconst 1, 1) := by decide +kernel
theorem dL_law_456 : decode cL_law 456 = .ok (.iadd, 1) := by decide +kernel
theorem dL_law_457 : decode cL_law 457 = .ok (.iaload, 1) := by decide +kernel
theorem dL_law_458 : decode cL_law 458 = .ok (.aload_n 0, 1) := by decide +kernel
theorem dL_law_459 : decode cL_law 459 = .ok (.iload 4, 2) := by decide +kernel
theorem dL_law_461 : decode cL_law 461 = .ok (.iconst 2, 1) := by decide +kernel
theorem dL_law_462 : decode cL_law 462 = .ok (.iadd, 1) := by decide +kernel
theorem dL_law_463 : decode cL_law 463 = .ok (.iaload, 1) := by decide +kernel
theorem dL_law_464 : decode cL_law 464 = .ok (.invokevirtual 51, 3) := by decide +kernel
theorem dL_law_467 : decode cL_law 467 = .ok (.pop, 1) := by decide +kernel
theorem dL_law_468 : decode cL_law 468 = .ok (.aload_n 2, 1) := by decide +kernel
theorem dL_law_469 : decode cL_law 469 = .ok (.aload_n 0, 1) := by decide +kernel
theorem dL_law_470 : decode cL_law 470 = .ok (.iload 4, 2) := by decide +kernel
theorem dL_law_472 : decode cL_law 472 = .ok (.iconst 1, 1) := by decide +kernel
theorem dL_law_473 : decode cL_law 473 = .ok (.iadd, 1) := by decide +kernel
theorem dL_law_474 : decode cL_law 474 = .ok (.iaload, 1) := by decide +kernel
theorem dL_law_475 : decode cL_law 475 = .ok (.aload_n 0, 1) := by decide +kernel
theorem dL_law_476 : decode cL_law 476 = .ok (.iload 4, 2) := by decide +kernel
theorem dL_law_478 : decode cL_law 478 = .ok (.iconst 2, 1) := by decide +kernel
theorem dL_law_479 : decode cL_law 479 = .ok (.iadd, 1) := by decide +kernel
theorem dL_law_480 : decode cL_law 480 = .ok (.iaload, 1) := by decide +kernel
theorem dL_law_481 : decode cL_law 481 = .ok (.invokevirtual 54, 3) := by decide +kernel
theorem dL_law_484 : decode cL_law 484 = .ok (.pop, 1) := by decide +kernel
theorem dL_law_485 : decode cL_law 485 = .ok (.goto 878, 3) := by decide +kernel
theorem dL_law_488 : decode cL_law 488 = .ok (.aload_n 1, 1) := by decide +kernel
theorem dL_law_489 : decode cL_law 489 = .ok (.aload_n 0, 1) := by decide +kernel
theorem dL_law_490 : decode cL_law 490 = .ok (.iload 4, 2) := by decide +kernel
theorem dL_law_492 : decode cL_law 492 = .ok (.iconst 1, 1) := by decide +kernel
theorem dL_law_493 : decode cL_law 493 = .ok (.iadd, 1) := by decide +kernel
theorem dL_law_494 : decode cL_law 494 = .ok (.iaload, 1) := by decide +kernel
theorem dL_law_495 : decode cL_law 495 = .ok (.aload_n 0, 1) := by decide +kernel
theorem dL_law_496 : decode cL_law 496 = .ok (.iload 4, 2) := by decide +kernel
theorem dL_law_498 : decode cL_law 498 = .ok (.iconst 2, 1) := by decide +kernel
theorem dL_law_499 : decode cL_law 499 = .ok (.iadd, 1) := by decide +kernel
theorem dL_law_500 : decode cL_law 500 = .ok (.iaload, 1) := by decide +kernel
theorem dL_law_501 : decode cL_law 501 = .ok (.invokevirtual 55, 3) := by decide +kernel
theorem dL_law_504 : decode cL_law 504 = .ok (.pop, 1) := by decide +kernel
theorem dL_law_505 : decode cL_law 505 = .ok (.aload_n 2, 1) := by decide +kernel
theorem dL_law_506 : decode cL_law 506 = .ok (.aload_n 0, 1) := by decide +kernel
theorem dL_law_507 : decode cL_law 507 = .ok (.iload 4, 2) := by decide +kernel
theorem dL_law_509 : decode cL_law 509 = .ok (.iconst 1, 1) := by decide +kernel
theorem dL_law_510 : decode cL_law 510 = .ok (.iadd, 1) := by decide +kernel
theorem dL_law_511 : decode cL_law 511 = .ok (.iaload, 1) := by decide +kernel
theorem dL_law_512 : decode cL_law 512 = .ok (.aload_n 0, 1) := by decide +kernel
theorem dL_law_513 : decode cL_law 513 = .ok (.iload 4, 2) := by decide +kernel
theorem dL_law_515 : decode cL_law 515 = .ok (.iconst 2, 1) := by decide +kernel
theorem dL_law_516 : decode cL_law 516 = .ok (.iadd, 1) := by decide +kernel
theorem dL_law_517 : decode cL_law 517 = .ok (.iaload, 1) := by decide +kernel
theorem dL_law_518 : decode cL_law 518 = .ok (.invokevirtual 58, 3) := by decide +kernel
theorem dL_law_521 : decode cL_law 521 = .ok (.pop, 1) := by decide +kernel
theorem dL_law_522 : decode cL_law 522 = .ok (.goto 841, 3) := by decide +kernel
theorem dL_law_525 : decode cL_law 525 = .ok (.aload_n 1, 1) := by decide +kernel
theorem dL_law_526 : decode cL_law 526 = .ok (.aload_n 0, 1) := by decide +kernel
theorem dL_law_527 : decode cL_law 527 = .ok (.iload 4, 2) := by decide +kernel
theorem dL_law_529 : decode cL_law 529 = .ok (.iconst 1, 1) := by decide +kernel
theorem dL_law_530 : decode cL_law 530 = .ok (.iadd, 1) := by decide +kernel
theorem dL_law_531 : decode cL_law 531 = .ok (.iaload, 1) := by decide +kernel
theorem dL_law_532 : decode cL_law 532 = .ok (.aload_n 0, 1) := by decide +kernel
theorem dL_law_533 : decode cL_law 533 = .ok (.iload 4, 2) := by decide +kernel
theorem dL_law_535 : decode cL_law 535 = .ok (.iconst 2, 1) := by decide +kernel
theorem dL_law_536 : decode cL_law 536 = .ok (.iadd, 1) := by decide +kernel
theorem dL_law_537 : decode cL_law 537 = .ok (.iaload, 1) := by decide +kernel
theorem dL_law_538 : decode cL_law 538 = .ok (.invokevirtual 59, 3) := by decide +kernel
theorem dL_law_541 : decode cL_law 541 = .ok (.pop, 1) := by decide +kernel
theorem dL_law_542 : decode cL_law 542 = .ok (.aload_n 2, 1) := by decide +kernel
theorem dL_law_543 : decode cL_law 543 = .ok (.aload_n 0, 1) := by decide +kernel
theorem dL_law_544 : decode cL_law 544 = .ok (.iload 4, 2) := by decide +kernel
theorem dL_law_546 : decode cL_law 546 = .ok (.iconst 1, 1) := by decide +kernel
theorem dL_law_547 : decode cL_law 547 = .ok (.iadd, 1) := by decide +kernel
theorem dL_law_548 : decode cL_law 548 = .ok (.iaload, 1) := by decide +kernel
theorem dL_law_549 : decode cL_law 549 = .ok (.aload_n 0, 1) := by decide +kernel
theorem dL_law_550 : decode cL_law 550 = .ok (.iload 4, 2) := by decide +kernel
theorem dL_law_552 : decode cL_law 552 = .ok (.iconst 2, 1) := by decide +kernel
theorem dL_law_553 : decode cL_law 553 = .ok (.iadd, 1) := by decide +kernel
theorem dL_law_554 : decode cL_law 554 = .ok (.iaload, 1) := by decide +kernel
theorem dL_law_555 : decode cL_law 555 = .ok (.invokevirtual 62, 3) := by decide +kernel
theorem dL_law_558 : decode cL_law 558 = .ok (.pop, 1) := by decide +kernel
theorem dL_law_559 : decode cL_law 559 = .ok (.goto 804, 3) := by decide +kernel
theorem dL_law_562 : decode cL_law 562 = .ok (.aload_n 1, 1) := by decide +kernel
theorem dL_law_563 : decode cL_law 563 = .ok (.aload_n 0, 1) := by decide +kernel
theorem dL_law_564 : decode cL_law 564 = .ok (.iload 4, 2) := by decide +kernel
theorem dL_law_566 : decode cL_law 566 = .ok (.iconst 1, 1) := by decide +kernel
theorem dL_law_567 : decode cL_law 567 = .ok (.iadd, 1) := by decide +kernel
theorem dL_law_568 : decode cL_law 568 = .ok (.iaload, 1) := by decide +kernel
theorem dL_law_569 : decode cL_law 569 = .ok (.invokevirtual 63, 3) := by decide +kernel
theorem dL_law_572 : decode cL_law 572 = .ok (.pop, 1) := by decide +kernel
theorem dL_law_573 : decode cL_law 573 = .ok (.aload_n 2, 1) := by decide +kernel
theorem dL_law_574 : decode cL_law 574 = .ok (.aload_n 0, 1) := by decide +kernel
theorem dL_law_575 : decode cL_law 575 = .ok (.iload 4, 2) := by decide +kernel
theorem dL_law_577 : decode cL_law 577 = .ok (.iconst 1, 1) := by decide +kernel
theorem dL_law_578 : decode cL_law 578 = .ok (.iadd, 1) := by decide +kernel
theorem dL_law_579 : decode cL_law 579 = .ok (.iaload, 1) := by decide +kernel
theorem dL_law_580 : decode cL_law 580 = .ok (.invokevirtual 66, 3) := by decide +kernel
theorem dL_law_583 : decode cL_law 583 = .ok (.pop, 1) := by decide +kernel
theorem dL_law_584 : decode cL_law 584 = .ok (.goto 779, 3) := by decide +kernel
theorem dL_law_587 : decode cL_law 587 = .ok (.aload_n 1, 1) := by decide +kernel
theorem dL_law_588 : decode cL_law 588 = .ok (.aload_n 0, 1) := by decide +kernel
theorem dL_law_589 : decode cL_law 589 = .ok (.iload 4, 2) := by decide +kernel
theorem dL_law_591 : decode cL_law 591 = .ok (.iconst 1, 1) := by decide +kernel
theorem dL_law_592 : decode cL_law 592 = .ok (.iadd, 1) := by decide +kernel
theorem dL_law_593 : decode cL_law 593 = .ok (.iaload, 1) := by decide +kernel
theorem dL_law_594 : decode cL_law 594 = .ok (.invokevirtual 67, 3) := by decide +kernel
theorem dL_law_597 : decode cL_law 597 = .ok (.pop, 1) := by decide +kernel
theorem dL_law_598 : decode cL_law 598 = .ok (.aload_n 2, 1) := by decide +kernel
theorem dL_law_599 : decode cL_law 599 = .ok (.aload_n 0, 1) := by decide +kernel
theorem dL_law_600 : decode cL_law 600 = .ok (.iload 4, 2) := by decide +kernel
theorem dL_law_602 : decode cL_law 602 = .ok (.iconst 1, 1) := by decide +kernel
theorem dL_law_603 : decode cL_law 603 = .ok (.iadd, 1) := by decide +kernel
theorem dL_law_604 : decode cL_law 604 = .ok (.iaload, 1) := by decide +kernel
theorem dL_law_605 : decode cL_law 605 = .ok (.invokevirtual 70, 3) := by decide +kernel
theorem dL_law_608 : decode cL_law 608 = .ok (.pop, 1) := by decide +kernel
theorem dL_law_609 : decode cL_law 609 = .ok (.goto 754, 3) := by decide +kernel
theorem dL_law_612 : decode cL_law 612 = .ok (.aload_n 1, 1) := by decide +kernel
theorem dL_law_613 : decode cL_law 613 = .ok (.aload_n 0, 1) := by decide +kernel
theorem dL_law_614 : decode cL_law 614 = .ok (.iload 4, 2) := by decide +kernel
theorem dL_law_616 : decode cL_law 616 = .ok (.iconst 1, 1) := by decide +kernel
theorem dL_law_617 : decode cL_law 617 = .ok (.iadd, 1) := by decide +kernel
theorem dL_law_618 : decode cL_law 618 = .ok (.iaload, 1) := by decide +kernel
theorem dL_law_619 : decode cL_law 619 = .ok (.aload_n 0, 1) := by decide +kernel
theorem dL_law_620 : decode cL_law 620 = .ok (.iload 4, 2) := by decide +kernel
theorem dL_law_622 : decode cL_law 622 = .ok (.iconst 2, 1) := by decide +kernel
theorem dL_law_623 : decode cL_law 623 = .ok (.iadd, 1) := by decide +kernel
theorem dL_law_624 : decode cL_law 624 = .ok (.iaload, 1) := by decide +kernel
theorem dL_law_625 : decode cL_law 625 = .ok (.invokevirtual 71, 3) := by decide +kernel
theorem dL_law_628 : decode cL_law 628 = .ok (.pop, 1) := by decide +kernel
theorem dL_law_629 : decode cL_law 629 = .ok (.aload_n 2, 1) := by decide +kernel
theorem dL_law_630 : decode cL_law 630 = .ok (.aload_n 0, 1) := by decide +kernel
theorem dL_law_631 : decode cL_law 631 = .ok (.iload 4, 2) := by decide +kernel
theorem dL_law_633 : decode cL_law 633 = .ok (.iconst 1, 1) := by decide +kernel
theorem dL_law_634 : decode cL_law 634 = .ok (.iadd, 1) := by decide +kernel
theorem dL_law_635 : decode cL_law 635 = .ok (.iaload, 1) := by decide +kernel
theorem dL_law_636 : decode cL_law 636 = .ok (.aload_n 0, 1) := by decide +kernel
theorem dL_law_637 : decode cL_law 637 = .ok (.iload 4, 2) := by decide +kernel
theorem dL_law_639 : decode cL_law 639 = .ok (.iconst 2, 1) := by decide +kernel
theorem dL_law_640 : decode cL_law 640 = .ok (.iadd, 1) := by decide +kernel
theorem dL_law_641 : decode cL_law 641 = .ok (.iaload, 1) := by decide +kernel
theorem dL_law_642 : decode cL_law 642 = .ok (.invokevirtual 74, 3) := by decide +kernel
theorem dL_law_645 : decode cL_law 645 = .ok (.pop, 1) := by decide +kernel
theorem dL_law_646 : decode cL_law 646 = .ok (.goto 717, 3) := by decide +kernel
theorem dL_law_649 : decode cL_law 649 = .ok (.aload_n 1, 1) := by decide +kernel
theorem dL_law_650 : decode cL_law 650 = .ok (.aload_n 0, 1) := by decide +kernel
theorem dL_law_651 : decode cL_law 651 = .ok (.iload 4, 2) := by decide +kernel
theorem dL_law_653 : decode cL_law 653 = .ok (.iconst 1, 1) := by decide +kernel
theorem dL_law_654 : decode cL_law 654 = .ok (.iadd, 1) := by decide +kernel
theorem dL_law_655 : decode cL_law 655 = .ok (.iaload, 1) := by decide +kernel
theorem dL_law_656 : decode cL_law 656 = .ok (.invokevirtual 75, 3) := by decide +kernel
theorem dL_law_659 : decode cL_law 659 = .ok (.pop, 1) := by decide +kernel
theorem dL_law_660 : decode cL_law 660 = .ok (.aload_n 2, 1) := by decide +kernel
theorem dL_law_661 : decode cL_law 661 = .ok (.aload_n 0, 1) := by decide +kernel
theorem dL_law_662 : decode cL_law 662 = .ok (.iload 4, 2) := by decide +kernel
theorem dL_law_664 : decode cL_law 664 = .ok (.iconst 1, 1) := by decide +kernel
theorem dL_law_665 : decode cL_law 665 = .ok (.iadd, 1) := by decide +kernel
theorem dL_law_666 : decode cL_law 666 = .ok (.iaload, 1) := by decide +kernel
theorem dL_law_667 : decode cL_law 667 = .ok (.invokevirtual 78, 3) := by decide +kernel
theorem dL_law_670 : decode cL_law 670 = .ok (.pop, 1) := by decide +kernel
theorem dL_law_671 : decode cL_law 671 = .ok (.goto 692, 3) := by decide +kernel
theorem dL_law_674 : decode cL_law 674 = .ok (.aload_n 1, 1) := by decide +kernel
theorem dL_law_675 : decode cL_law 675 = .ok (.aload_n 0, 1) := by decide +kernel
theorem dL_law_676 : decode cL_law 676 = .ok (.iload 4, 2) := by decide +kernel
theorem dL_law_678 : decode cL_law 678 = .ok (.iconst 1, 1) := by decide +kernel
theorem dL_law_679 : decode cL_law 679 = .ok (.iadd, 1) := by decide +kernel
theorem dL_law_680 : decode cL_law 680 = .ok (.iaload, 1) := by decide +kernel
theorem dL_law_681 : decode cL_law 681 = .ok (.invokevirtual 79, 3) := by decide +kernel
theorem dL_law_684 : decode cL_law 684 = .ok (.pop, 1) := by decide +kernel
theorem dL_law_685 : decode cL_law 685 = .ok (.aload_n 2, 1) := by decide +kernel
theorem dL_law_686 : decode cL_law 686 = .ok (.aload_n 0, 1) := by decide +kernel
theorem dL_law_687 : decode cL_law 687 = .ok (.iload 4, 2) := by decide +kernel
theorem dL_law_689 : decode cL_law 689 = .ok (.iconst 1, 1) := by decide +kernel
theorem dL_law_690 : decode cL_law 690 = .ok (.iadd, 1) := by decide +kernel
theorem dL_law_691 : decode cL_law 691 = .ok (.iaload, 1) := by decide +kernel
theorem dL_law_692 : decode cL_law 692 = .ok (.invokevirtual 82, 3) := by decide +kernel
theorem dL_law_695 : decode cL_law 695 = .ok (.pop, 1) := by decide +kernel
theorem dL_law_696 : decode cL_law 696 = .ok (.goto 667, 3) := by decide +kernel
theorem dL_law_699 : decode cL_law 699 = .ok (.aload_n 1, 1) := by decide +kernel
theorem dL_law_700 : decode cL_law 700 = .ok (.aload_n 0, 1) := by decide +kernel
theorem dL_law_701 : decode cL_law 701 = .ok (.iload 4, 2) := by decide +kernel
theorem dL_law_703 : decode cL_law 703 = .ok (.iconst 1, 1) := by decide +kernel
theorem dL_law_704 : decode cL_law 704 = .ok (.iadd, 1) := by decide +kernel
theorem dL_law_705 : decode cL_law 705 = .ok (.iaload, 1) := by decide +kernel
theorem dL_law_706 : decode cL_law 706 = .ok (.invokevirtual 83, 3) := by decide +kernel
theorem dL_law_709 : decode cL_law 709 = .ok (.pop, 1) := by decide +kernel
theorem dL_law_710 : decode cL_law 710 = .ok (.aload_n 2, 1) := by decide +kernel
theorem dL_law_711 : decode cL_law 711 = .ok (.aload_n 0, 1) := by decide +kernel
theorem dL_law_712 : decode cL_law 712 = .ok (.iload 4, 2) := by decide +kernel
theorem dL_law_714 : decode cL_law 714 = .ok (.iconst 1, 1) := by decide +kernel
theorem dL_law_715 : decode cL_law 715 = .ok (.iadd, 1) := by decide +kernel
theorem dL_law_716 : decode cL_law 716 = .ok (.iaload, 1) := by decide +kernel
theorem dL_law_717 : decode cL_law 717 = .ok (.invokevirtual 86, 3) := by decide +kernel
theorem dL_law_720 : decode cL_law 720 = .ok (.pop, 1) := by decide +kernel
theorem dL_law_721 : decode cL_law 721 = .ok (.goto 642, 3) := by decide +kernel
theorem dL_law_724 : decode cL_law 724 = .ok (.aload_n 1, 1) := by decide +kernel
theorem dL_law_725 : decode cL_law 725 = .ok (.aload_n 0, 1) := by decide +kernel
theorem dL_law_726 : decode cL_law 726 = .ok (.iload 4, 2) := by decide +kernel
theorem dL_law_728 : decode cL_law 728 = .ok (.iconst 1, 1) := by decide +kernel
theorem dL_law_729 : decode cL_law 729 = .ok (.iadd, 1) := by decide +kernel
theorem dL_law_730 : decode cL_law 730 = .ok (.iaload, 1) := by decide +kernel
theorem dL_law_731 : decode cL_law 731 = .ok (.aload_n 0, 1) := by decide +kernel
theorem dL_law_732 : decode cL_law 732 = .ok (.iload 4, 2) := by decide +kernel
theorem dL_law_734 : decode cL_law 734 = .ok (.iconst 2, 1) := by decide +kernel
theorem dL_law_735 : decode cL_law 735 = .ok (.iadd, 1) := by decide +kernel
theorem dL_law_736 : decode cL_law 736 = .ok (.iaload, 1) := by decide +kernel
theorem dL_law_737 : decode cL_law 737 = .ok (.invokevirtual 87, 3) := by decide +kernel
theorem dL_law_740 : decode cL_law 740 = .ok (.pop, 1) := by decide +kernel
theorem dL_law_741 : decode cL_law 741 = .ok (.aload_n 2, 1) := by decide +kernel
theorem dL_law_742 : decode cL_law 742 = .ok (.aload_n 0, 1) := by decide +kernel
theorem dL_law_743 : decode cL_law 743 = .ok (.iload 4, 2) := by decide +kernel
theorem dL_law_745 : decode cL_law 745 = .ok (.iconst 1, 1) := by decide +kernel
theorem dL_law_746 : decode cL_law 746 = .ok (.iadd, 1) := by decide +kernel
theorem dL_law_747 : decode cL_law 747 = .ok (.iaload, 1) := by decide +kernel
theorem dL_law_748 : decode cL_law 748 = .ok (.aload_n 0, 1) := by decide +kernel
theorem dL_law_749 : decode cL_law 749 = .ok (.iload 4, 2) := by decide +kernel
theorem dL_law_751 : decode cL_law 751 = .ok (.iconst 2, 1) := by decide +kernel
theorem dL_law_752 : decode cL_law 752 = .ok (.iadd, 1) := by decide +kernel
theorem dL_law_753 : decode cL_law 753 = .ok (.iaload, 1) := by decide +kernel
theorem dL_law_754 : decode cL_law 754 = .ok (.invokevirtual 90, 3) := by decide +kernel
theorem dL_law_757 : decode cL_law 757 = .ok (.pop, 1) := by decide +kernel
theorem dL_law_758 : decode cL_law 758 = .ok (.goto 605, 3) := by decide +kernel
theorem dL_law_761 : decode cL_law 761 = .ok (.aload_n 1, 1) := by decide +kernel
theorem dL_law_762 : decode cL_law 762 = .ok (.aload_n 0, 1) := by decide +kernel
theorem dL_law_763 : decode cL_law 763 = .ok (.iload 4, 2) := by decide +kernel
theorem dL_law_765 : decode cL_law 765 = .ok (.iconst 1, 1) := by decide +kernel
theorem dL_law_766 : decode cL_law 766 = .ok (.iadd, 1) := by decide +kernel
theorem dL_law_767 : decode cL_law 767 = .ok (.iaload, 1) := by decide +kernel
theorem dL_law_768 : decode cL_law 768 = .ok (.aload_n 0, 1) := by decide +kernel
theorem dL_law_769 : decode cL_law 769 = .ok (.iload 4, 2) := by decide +kernel
theorem dL_law_771 : decode cL_law 771 = .ok (.iconst 2, 1) := by decide +kernel
theorem dL_law_772 : decode cL_law 772 = .ok (.iadd, 1) := by decide +kernel
theorem dL_law_773 : decode cL_law 773 = .ok (.iaload, 1) := by decide +kernel
theorem dL_law_774 : decode cL_law 774 = .ok (.invokevirtual 91, 3) := by decide +kernel
theorem dL_law_777 : decode cL_law 777 = .ok (.pop, 1) := by decide +kernel
theorem dL_law_778 : decode cL_law 778 = .ok (.aload_n 2, 1) := by decide +kernel
theorem dL_law_779 : decode cL_law 779 = .ok (.aload_n 0, 1) := by decide +kernel
theorem dL_law_780 : decode cL_law 780 = .ok (.iload 4, 2) := by decide +kernel
theorem dL_law_782 : decode cL_law 782 = .ok (.iconst 1, 1) := by decide +kernel
theorem dL_law_783 : decode cL_law 783 = .ok (.iadd, 1) := by decide +kernel
theorem dL_law_784 : decode cL_law 784 = .ok (.iaload, 1) := by decide +kernel
theorem dL_law_785 : decode cL_law 785 = .ok (.aload_n 0, 1) := by decide +kernel
theorem dL_law_786 : decode cL_law 786 = .ok (.iload 4, 2) := by decide +kernel
theorem dL_law_788 : decode cL_law 788 = .ok (.iconst 2, 1) := by decide +kernel
theorem dL_law_789 : decode cL_law 789 = .ok (.iadd, 1) := by decide +kernel
theorem dL_law_790 : decode cL_law 790 = .ok (.iaload, 1) := by decide +kernel
theorem dL_law_791 : decode cL_law 791 = .ok (.invokevirtual 94, 3) := by decide +kernel
theorem dL_law_794 : decode cL_law 794 = .ok (.pop, 1) := by decide +kernel
theorem dL_law_795 : decode cL_law 795 = .ok (.goto 568, 3) := by decide +kernel
theorem dL_law_798 : decode cL_law 798 = .ok (.aload_n 1, 1) := by decide +kernel
theorem dL_law_799 : decode cL_law 799 = .ok (.aload_n 0, 1) := by decide +kernel
theorem dL_law_800 : decode cL_law 800 = .ok (.iload 4, 2) := by decide +kernel
theorem dL_law_802 : decode cL_law 802 = .ok (.iconst 1, 1) := by decide +kernel
theorem dL_law_803 : decode cL_law 803 = .ok (.iadd, 1) := by decide +kernel
theorem dL_law_804 : decode cL_law 804 = .ok (.iaload, 1) := by decide +kernel
theorem dL_law_805 : decode cL_law 805 = .ok (.invokevirtual 95, 3) := by decide +kernel
theorem dL_law_808 : decode cL_law 808 = .ok (.pop, 1) := by decide +kernel
theorem dL_law_809 : decode cL_law 809 = .ok (.aload_n 2, 1) := by decide +kernel
theorem dL_law_810 : decode cL_law 810 = .ok (.aload_n 0, 1) := by decide +kernel
theorem dL_law_811 : decode cL_law 811 = .ok (.iload 4, 2) := by decide +kernel
theorem dL_law_813 : decode cL_law 813 = .ok (.iconst 1, 1) := by decide +kernel
theorem dL_law_814 : decode cL_law 814 = .ok (.iadd, 1) := by decide +kernel
theorem dL_law_815 : decode cL_law 815 = .ok (.iaload, 1) := by decide +kernel
theorem dL_law_816 : decode cL_law 816 = .ok (.invokevirtual 98, 3) := by decide +kernel
theorem dL_law_819 : decode cL_law 819 = .ok (.pop, 1) := by decide +kernel
theorem dL_law_820 : decode cL_law 820 = .ok (.goto 543, 3) := by decide +kernel
theorem dL_law_823 : decode cL_law 823 = .ok (.aload_n 1, 1) := by decide +kernel
theorem dL_law_824 : decode cL_law 824 = .ok (.aload_n 0, 1) := by decide +kernel
theorem dL_law_825 : decode cL_law 825 = .ok (.iload 4, 2) := by decide +kernel
theorem dL_law_827 : decode cL_law 827 = .ok (.iconst 1, 1) := by decide +kernel
theorem dL_law_828 : decode cL_law 828 = .ok (.iadd, 1) := by decide +kernel
theorem dL_law_829 : decode cL_law 829 = .ok (.iaload, 1) := by decide +kernel
theorem dL_law_830 : decode cL_law 830 = .ok (.aload_n 0, 1) := by decide +kernel
theorem dL_law_831 : decode cL_law 831 = .ok (.iload 4, 2) := by decide +kernel
theorem dL_law_833 : decode cL_law 833 = .ok (.iconst 2, 1) := by decide +kernel
theorem dL_law_834 : decode cL_law 834 = .ok (.iadd, 1) := by decide +kernel
theorem dL_law_835 : decode cL_law 835 = .ok (.iaload, 1) := by decide +kernel
theorem dL_law_836 : decode cL_law 836 = .ok (.invokevirtual 99, 3) := by decide +kernel
theorem dL_law_839 : decode cL_law 839 = .ok (.pop, 1) := by decide +kernel
theorem dL_law_840 : decode cL_law 840 = .ok (.aload_n 2, 1) := by decide +kernel
theorem dL_law_841 : decode cL_law 841 = .ok (.aload_n 0, 1) := by decide +kernel
theorem dL_law_842 : decode cL_law 842 = .ok (.iload 4, 2) := by decide +kernel
theorem dL_law_844 : decode cL_law 844 = .ok (.iconst 1, 1) := by decide +kernel
theorem dL_law_845 : decode cL_law 845 = .ok (.iadd, 1) := by decide +kernel
theorem dL_law_846 : decode cL_law 846 = .ok (.iaload, 1) := by decide +kernel
theorem dL_law_847 : decode cL_law 847 = .ok (.aload_n 0, 1) := by decide +kernel
theorem dL_law_848 : decode cL_law 848 = .ok (.iload 4, 2) := by decide +kernel
theorem dL_law_850 : decode cL_law 850 = .ok (.iconst 2, 1) := by decide +kernel
theorem dL_law_851 : decode cL_law 851 = .ok (.iadd, 1) := by decide +kernel
theorem dL_law_852 : decode cL_law 852 = .ok (.iaload, 1) := by decide +kernel
theorem dL_law_853 : decode cL_law 853 = .ok (.invokevirtual 102, 3) := by decide +kernel
theorem dL_law_856 : decode cL_law 856 = .ok (.pop, 1) := by decide +kernel
theorem dL_law_857 : decode cL_law 857 = .ok (.goto 506, 3) := by decide +kernel
theorem dL_law_860 : decode cL_law 860 = .ok (.aload_n 1, 1) := by decide +kernel
theorem dL_law_861 : decode cL_law 861 = .ok (.aload_n 0, 1) := by decide +kernel
theorem dL_law_862 : decode cL_law 862 = .ok (.iload 4, 2) := by decide +kernel
theorem dL_law_864 : decode cL_law 864 = .ok (.iconst 1, 1) := by decide +kernel
theorem dL_law_865 : decode cL_law 865 = .ok (.iadd, 1) := by decide +kernel
theorem dL_law_866 : decode cL_law 866 = .ok (.iaload, 1) := by decide +kernel
theorem dL_law_867 : decode cL_law 867 = .ok (.invokevirtual 103, 3) := by decide +kernel
theorem dL_law_870 : decode cL_law 870 = .ok (.pop, 1) := by decide +kernel
theorem dL_law_871 : decode cL_law 871 = .ok (.aload_n 2, 1) := by decide +kernel
theorem dL_law_872 : decode cL_law 872 = .ok (.aload_n 0, 1) := by decide +kernel
theorem dL_law_873 : decode cL_law 873 = .ok (.iload 4, 2) := by decide +kernel
theorem dL_law_875 : decode cL_law 875 = .ok (.iconst 1, 1) := by decide +kernel
theorem dL_law_876 : decode cL_law 876 = .ok (.iadd, 1) := by decide +kernel
theorem dL_law_877 : decode cL_law 877 = .ok (.iaload, 1) := by decide +kernel
theorem dL_law_878 : decode cL_law 878 = .ok (.invokevirtual 106, 3) := by decide +kernel
theorem dL_law_881 : decode cL_law 881 = .ok (.pop, 1) := by decide +kernel
theorem dL_law_882 : decode cL_law 882 = .ok (.goto 481, 3) := by decide +kernel
theorem dL_law_885 : decode cL_law 885 = .ok (.aload_n 1, 1) := by decide +kernel
theorem dL_law_886 : decode cL_law 886 = .ok (.invokevirtual 107, 3) := by decide +kernel
theorem dL_law_889 : decode cL_law 889 = .ok (.pop, 1) := by decide +kernel
theorem dL_law_890 : decode cL_law 890 = .ok (.aload_n 2, 1) := by decide +kernel
theorem dL_law_891 : decode cL_law 891 = .ok (.invokevirtual 110, 3) := by decide +kernel
theorem dL_law_894 : decode cL_law 894 = .ok (.pop, 1) := by decide +kernel
theorem dL_law_895 : decode cL_law 895 = .ok (.goto 468, 3) := by decide +kernel
theorem dL_law_898 : decode cL_law 898 = .ok (.aload_n 1, 1) := by decide +kernel
theorem dL_law_899 : decode cL_law 899 = .ok (.aload_n 0, 1) := by decide +kernel
theorem dL_law_900 : decode cL_law 900 = .ok (.iload 4, 2) := by decide +kernel
theorem dL_law_902 : decode cL_law 902 = .ok (.iconst 1, 1) := by decide +kernel
theorem dL_law_903 : decode cL_law 903 = .ok (.iadd, 1) := by decide +kernel
theorem dL_law_904 : decode cL_law 904 = .ok (.iaload, 1) := by decide +kernel
theorem dL_law_905 : decode cL_law 905 = .ok (.invokevirtual 111, 3) := by decide +kernel
theorem dL_law_908 : decode cL_law 908 = .ok (.pop, 1) := by decide +kernel
theorem dL_law_909 : decode cL_law 909 = .ok (.aload_n 2, 1) := by decide +kernel
theorem dL_law_910 : decode cL_law 910 = .ok (.aload_n 0, 1) := by decide +kernel
theorem dL_law_911 : decode cL_law 911 = .ok (.iload 4, 2) := by decide +kernel
theorem dL_law_913 : decode cL_law 913 = .ok (.iconst 1, 1) := by decide +kernel
theorem dL_law_914 : decode cL_law 914 = .ok (.iadd, 1) := by decide +kernel
theorem dL_law_915 : decode cL_law 915 = .ok (.iaload, 1) := by decide +kernel
theorem dL_law_916 : decode cL_law 916 = .ok (.invokevirtual 114, 3) := by decide +kernel
theorem dL_law_919 : decode cL_law 919 = .ok (.pop, 1) := by decide +kernel
theorem dL_law_920 : decode cL_law 920 = .ok (.goto 443, 3) := by decide +kernel
theorem dL_law_923 : decode cL_law 923 = .ok (.aload_n 1, 1) := by decide +kernel
theorem dL_law_924 : decode cL_law 924 = .ok (.aload_n 0, 1) := by decide +kernel
theorem dL_law_925 : decode cL_law 925 = .ok (.iload 4, 2) := by decide +kernel
theorem dL_law_927 : decode cL_law 927 = .ok (.iconst 1, 1) := by decide +kernel
theorem dL_law_928 : decode cL_law 928 = .ok (.iadd, 1) := by decide +kernel
theorem dL_law_929 : decode cL_law 929 = .ok (.iaload, 1) := by decide +kernel
theorem dL_law_930 : decode cL_law 930 = .ok (.aload_n 0, 1) := by decide +kernel
theorem dL_law_931 : decode cL_law 931 = .ok (.iload 4, 2) := by decide +kernel
theorem dL_law_933 : decode cL_law 933 = .ok (.iconst 2, 1) := by decide +kernel
theorem dL_law_934 : decode cL_law 934 = .ok (.iadd, 1) := by decide +kernel
theorem dL_law_935 : decode cL_law 935 = .ok (.iaload, 1) := by decide +kernel
theorem dL_law_936 : decode cL_law 936 = .ok (.invokevirtual 115, 3) := by decide +kernel
theorem dL_law_939 : decode cL_law 939 = .ok (.pop, 1) := by decide +kernel
theorem dL_law_940 : decode cL_law 940 = .ok (.aload_n 2, 1) := by decide +kernel
theorem dL_law_941 : decode cL_law 941 = .ok (.aload_n 0, 1) := by decide +kernel
theorem dL_law_942 : decode cL_law 942 = .ok (.iload 4, 2) := by decide +kernel
theorem dL_law_944 : decode cL_law 944 = .ok (.iconst 1, 1) := by decide +kernel
theorem dL_law_945 : decode cL_law 945 = .ok (.iadd, 1) := by decide +kernel
theorem dL_law_946 : decode cL_law 946 = .ok (.iaload, 1) := by decide +kernel
theorem dL_law_947 : decode cL_law 947 = .ok (.aload_n 0, 1) := by decide +kernel
theorem dL_law_948 : decode cL_law 948 = .ok (.iload 4, 2) := by decide +kernel
theorem dL_law_950 : decode cL_law 950 = .ok (.iconst 2, 1) := by decide +kernel
theorem dL_law_951 : decode cL_law 951 = .ok (.iadd, 1) := by decide +kernel
theorem dL_law_952 : decode cL_law 952 = .ok (.iaload, 1) := by decide +kernel
theorem dL_law_953 : decode cL_law 953 = .ok (.invokevirtual 118, 3) := by decide +kernel
theorem dL_law_956 : decode cL_law 956 = .ok (.pop, 1) := by decide +kernel
theorem dL_law_957 : decode cL_law 957 = .ok (.goto 406, 3) := by decide +kernel
theorem dL_law_960 : decode cL_law 960 = .ok (.aload_n 1, 1) := by decide +kernel
theorem dL_law_961 : decode cL_law 961 = .ok (.invokevirtual 119, 3) := by decide +kernel
theorem dL_law_964 : decode cL_law 964 = .ok (.pop, 1) := by decide +kernel
theorem dL_law_965 : decode cL_law 965 = .ok (.aload_n 2, 1) := by decide +kernel
theorem dL_law_966 : decode cL_law 966 = .ok (.invokevirtual 122, 3) := by decide +kernel
theorem dL_law_969 : decode cL_law 969 = .ok (.pop, 1) := by decide +kernel
theorem dL_law_970 : decode cL_law 970 = .ok (.goto 393, 3) := by decide +kernel
theorem dL_law_973 : decode cL_law 973 = .ok (.aload_n 1, 1) := by decide +kernel
theorem dL_law_974 : decode cL_law 974 = .ok (.aload_n 0, 1) := by decide +kernel
theorem dL_law_975 : decode cL_law 975 = .ok (.iload 4, 2) := by decide +kernel
theorem dL_law_977 : decode cL_law 977 = .ok (.iconst 1, 1) := by decide +kernel
theorem dL_law_978 : decode cL_law 978 = .ok (.iadd, 1) := by decide +kernel
theorem dL_law_979 : decode cL_law 979 = .ok (.iaload, 1) := by decide +kernel
theorem dL_law_980 : decode cL_law 980 = .ok (.aload_n 0, 1) := by decide +kernel
theorem dL_law_981 : decode cL_law 981 = .ok (.iload 4, 2) := by decide +kernel
theorem dL_law_983 : decode cL_law 983 = .ok (.iconst 2, 1) := by decide +kernel
theorem dL_law_984 : decode cL_law 984 = .ok (.iadd, 1) := by decide +kernel
theorem dL_law_985 : decode cL_law 985 = .ok (.iaload, 1) := by decide +kernel
theorem dL_law_986 : decode cL_law 986 = .ok (.invokevirtual 123, 3) := by decide +kernel
theorem dL_law_989 : decode cL_law 989 = .ok (.pop, 1) := by decide +kernel
theorem dL_law_990 : decode cL_law 990 = .ok (.aload_n 2, 1) := by decide +kernel
theorem dL_law_991 : decode cL_law 991 = .ok (.aload_n 0, 1) := by decide +kernel
theorem dL_law_992 : decode cL_law 992 = .ok (.iload 4, 2) := by decide +kernel
theorem dL_law_994 : decode cL_law 994 = .ok (.iconst 1, 1) := by decide +kernel
theorem dL_law_995 : decode cL_law 995 = .ok (.iadd, 1) := by decide +kernel
theorem dL_law_996 : decode cL_law 996 = .ok (.iaload, 1) := by decide +kernel
theorem dL_law_997 : decode cL_law 997 = .ok (.aload_n 0, 1) := by decide +kernel
theorem dL_law_998 : decode cL_law 998 = .ok (.iload 4, 2) := by decide +kernel
theorem dL_law_1000 : decode cL_law 1000 = .ok (.iconst 2, 1) := by decide +kernel
theorem dL_law_1001 : decode cL_law 1001 = .ok (.iadd, 1) := by decide +kernel
theorem dL_law_1002 : decode cL_law 1002 = .ok (.iaload, 1) := by decide +kernel
theorem dL_law_1003 : decode cL_law 1003 = .ok (.invokevirtual 126, 3) := by decide +kernel
theorem dL_law_1006 : decode cL_law 1006 = .ok (.pop, 1) := by decide +kernel
theorem dL_law_1007 : decode cL_law 1007 = .ok (.goto 356, 3) := by decide +kernel
theorem dL_law_1010 : decode cL_law 1010 = .ok (.aload_n 1, 1) := by decide +kernel
theorem dL_law_1011 : decode cL_law 1011 = .ok (.aload_n 0, 1) := by decide +kernel
theorem dL_law_1012 : decode cL_law 1012 = .ok (.iload 4, 2) := by decide +kernel
theorem dL_law_1014 : decode cL_law 1014 = .ok (.iconst 1, 1) := by decide +kernel
theorem dL_law_1015 : decode cL_law 1015 = .ok (.iadd, 1) := by decide +kernel
theorem dL_law_1016 : decode cL_law 1016 = .ok (.iaload, 1) := by decide +kernel
theorem dL_law_1017 : decode cL_law 1017 = .ok (.aload_n 0, 1) := by decide +kernel
theorem dL_law_1018 : decode cL_law 1018 = .ok (.iload 4, 2) := by decide +kernel
theorem dL_law_1020 : decode cL_law 1020 = .ok (.iconst 2, 1) := by decide +kernel
theorem dL_law_1021 : decode cL_law 1021 = .ok (.iadd, 1) := by decide +kernel
theorem dL_law_1022 : decode cL_law 1022 = .ok (.iaload, 1) := by decide +kernel
theorem dL_law_1023 : decode cL_law 1023 = .ok (.invokevirtual 127, 3) := by decide +kernel
theorem dL_law_1026 : decode cL_law 1026 = .ok (.pop, 1) := by decide +kernel
theorem dL_law_1027 : decode cL_law 1027 = .ok (.aload_n 2, 1) := by decide +kernel
theorem dL_law_1028 : decode cL_law 1028 = .ok (.aload_n 0, 1) := by decide +kernel
theorem dL_law_1029 : decode cL_law 1029 = .ok (.iload 4, 2) := by decide +kernel
theorem dL_law_1031 : decode cL_law 1031 = .ok (.iconst 1, 1) := by decide +kernel
theorem dL_law_1032 : decode cL_law 1032 = .ok (.iadd, 1) := by decide +kernel
theorem dL_law_1033 : decode cL_law 1033 = .ok (.iaload, 1) := by decide +kernel
theorem dL_law_1034 : decode cL_law 1034 = .ok (.aload_n 0, 1) := by decide +kernel
theorem dL_law_1035 : decode cL_law 1035 = .ok (.iload 4, 2) := by decide +kernel
theorem dL_law_1037 : decode cL_law 1037 = .ok (.iconst 2, 1) := by decide +kernel
theorem dL_law_1038 : decode cL_law 1038 = .ok (.iadd, 1) := by decide +kernel
theorem dL_law_1039 : decode cL_law 1039 = .ok (.iaload, 1) := by decide +kernel
theorem dL_law_1040 : decode cL_law 1040 = .ok (.invokevirtual 130, 3) := by decide +kernel
theorem dL_law_1043 : decode cL_law 1043 = .ok (.pop, 1) := by decide +kernel
theorem dL_law_1044 : decode cL_law 1044 = .ok (.goto 319, 3) := by decide +kernel
theorem dL_law_1047 : decode cL_law 1047 = .ok (.aload_n 1, 1) := by decide +kernel
theorem dL_law_1048 : decode cL_law 1048 = .ok (.aload_n 0, 1) := by decide +kernel
theorem dL_law_1049 : decode cL_law 1049 = .ok (.iload 4, 2) := by decide +kernel
theorem dL_law_1051 : decode cL_law 1051 = .ok (.iconst 1, 1) := by decide +kernel
theorem dL_law_1052 : decode cL_law 1052 = .ok (.iadd, 1) := by decide +kernel
theorem dL_law_1053 : decode cL_law 1053 = .ok (.iaload, 1) := by decide +kernel
theorem dL_law_1054 : decode cL_law 1054 = .ok (.invokevirtual 131, 3) := by decide +kernel
theorem dL_law_1057 : decode cL_law 1057 = .ok (.pop, 1) := by decide +kernel
theorem dL_law_1058 : decode cL_law 1058 = .ok (.aload_n 2, 1) := by decide +kernel
theorem dL_law_1059 : decode cL_law 1059 = .ok (.aload_n 0, 1) := by decide +kernel
theorem dL_law_1060 : decode cL_law 1060 = .ok (.iload 4, 2) := by decide +kernel
theorem dL_law_1062 : decode cL_law 1062 = .ok (.iconst 1, 1) := by decide +kernel
theorem dL_law_1063 : decode cL_law 1063 = .ok (.iadd, 1) := by decide +kernel
theorem dL_law_1064 : decode cL_law 1064 = .ok (.iaload, 1) := by decide +kernel
theorem dL_law_1065 : decode cL_law 1065 = .ok (.invokevirtual 134, 3) := by decide +kernel
theorem dL_law_1068 : decode cL_law 1068 = .ok (.pop, 1) := by decide +kernel
theorem dL_law_1069 : decode cL_law 1069 = .ok (.goto 294, 3) := by decide +kernel
theorem dL_law_1072 : decode cL_law 1072 = .ok (.aload_n 1, 1) := by decide +kernel
theorem dL_law_1073 : decode cL_law 1073 = .ok (.aload_n 0, 1) := by decide +kernel
theorem dL_law_1074 : decode cL_law 1074 = .ok (.iload 4, 2) := by decide +kernel
theorem dL_law_1076 : decode cL_law 1076 = .ok (.iconst 1, 1) := by decide +kernel
theorem dL_law_1077 : decode cL_law 1077 = .ok (.iadd, 1) := by decide +kernel
theorem dL_law_1078 : decode cL_law 1078 = .ok (.iaload, 1) := by decide +kernel
theorem dL_law_1079 : decode cL_law 1079 = .ok (.invokevirtual 135, 3) := by decide +kernel
theorem dL_law_1082 : decode cL_law 1082 = .ok (.pop, 1) := by decide +kernel
theorem dL_law_1083 : decode cL_law 1083 = .ok (.aload_n 2, 1) := by decide +kernel
theorem dL_law_1084 : decode cL_law 1084 = .ok (.aload_n 0, 1) := by decide +kernel
theorem dL_law_1085 : decode cL_law 1085 = .ok (.iload 4, 2) := by decide +kernel
theorem dL_law_1087 : decode cL_law 1087 = .ok (.iconst 1, 1) := by decide +kernel
theorem dL_law_1088 : decode cL_law 1088 = .ok (.iadd, 1) := by decide +kernel
theorem dL_law_1089 : decode cL_law 1089 = .ok (.iaload, 1) := by decide +kernel
theorem dL_law_1090 : decode cL_law 1090 = .ok (.invokevirtual 138, 3) := by decide +kernel
theorem dL_law_1093 : decode cL_law 1093 = .ok (.pop, 1) := by decide +kernel
theorem dL_law_1094 : decode cL_law 1094 = .ok (.goto 269, 3) := by decide +kernel
theorem dL_law_1097 : decode cL_law 1097 = .ok (.aload_n 1, 1) := by decide +kernel
theorem dL_law_1098 : decode cL_law 1098 = .ok (.aload_n 0, 1) := by decide +kernel
theorem dL_law_1099 : decode cL_law 1099 = .ok (.iload 4, 2) := by decide +kernel
theorem dL_law_1101 : decode cL_law 1101 = .ok (.iconst 1, 1) := by decide +kernel
theorem dL_law_1102 : decode cL_law 1102 = .ok (.iadd, 1) := by decide +kernel
theorem dL_law_1103 : decode cL_law 1103 = .ok (.iaload, 1) := by decide +kernel
theorem dL_law_1104 : decode cL_law 1104 = .ok (.aload_n 0, 1) := by decide +kernel
theorem dL_law_1105 : decode cL_law 1105 = .ok (.iload 4, 2) := by decide +kernel
theorem dL_law_1107 : decode cL_law 1107 = .ok (.iconst 2, 1) := by decide +kernel
theorem dL_law_1108 : decode cL_law 1108 = .ok (.iadd, 1) := by decide +kernel
theorem dL_law_1109 : decode cL_law 1109 = .ok (.iaload, 1) := by decide +kernel
theorem dL_law_1110 : decode cL_law 1110 = .ok (.invokevirtual 139, 3) := by decide +kernel
theorem dL_law_1113 : decode cL_law 1113 = .ok (.pop, 1) := by decide +kernel
theorem dL_law_1114 : decode cL_law 1114 = .ok (.aload_n 2, 1) := by decide +kernel
theorem dL_law_1115 : decode cL_law 1115 = .ok (.aload_n 0, 1) := by decide +kernel
theorem dL_law_1116 : decode cL_law 1116 = .ok (.iload 4, 2) := by decide +kernel
theorem dL_law_1118 : decode cL_law 1118 = .ok (.iconst 1, 1) := by decide +kernel
theorem dL_law_1119 : decode cL_law 1119 = .ok (.iadd, 1) := by decide +kernel
theorem dL_law_1120 : decode cL_law 1120 = .ok (.iaload, 1) := by decide +kernel
theorem dL_law_1121 : decode cL_law 1121 = .ok (.aload_n 0, 1) := by decide +kernel
theorem dL_law_1122 : decode cL_law 1122 = .ok (.iload 4, 2) := by decide +kernel
theorem dL_law_1124 : decode cL_law 1124 = .ok (.iconst 2, 1) := by decide +kernel
theorem dL_law_1125 : decode cL_law 1125 = .ok (.iadd, 1) := by decide +kernel
theorem dL_law_1126 : decode cL_law 1126 = .ok (.iaload, 1) := by decide +kernel
theorem dL_law_1127 : decode cL_law 1127 = .ok (.invokevirtual 142, 3) := by decide +kernel
theorem dL_law_1130 : decode cL_law 1130 = .ok (.pop, 1) := by decide +kernel
theorem dL_law_1131 : decode cL_law 1131 = .ok (.goto 232, 3) := by decide +kernel
theorem dL_law_1134 : decode cL_law 1134 = .ok (.aload_n 1, 1) := by decide +kernel
theorem dL_law_1135 : decode cL_law 1135 = .ok (.aload_n 0, 1) := by decide +kernel
theorem dL_law_1136 : decode cL_law 1136 = .ok (.iload 4, 2) := by decide +kernel
theorem dL_law_1138 : decode cL_law 1138 = .ok (.iconst 1, 1) := by decide +kernel
theorem dL_law_1139 : decode cL_law 1139 = .ok (.iadd, 1) := by decide +kernel
theorem dL_law_1140 : decode cL_law 1140 = .ok (.iaload, 1) := by decide +kernel
theorem dL_law_1141 : decode cL_law 1141 = .ok (.aload_n 0, 1) := by decide +kernel
theorem dL_law_1142 : decode cL_law 1142 = .ok (.iload 4, 2) := by decide +kernel
theorem dL_law_1144 : decode cL_law 1144 = .ok (.iconst 2, 1) := by decide +kernel
theorem dL_law_1145 : decode cL_law 1145 = .ok (.iadd, 1) := by decide +kernel
theorem dL_law_1146 : decode cL_law 1146 = .ok (.iaload, 1) := by decide +kernel
theorem dL_law_1147 : decode cL_law 1147 = .ok (.aload_n 0, 1) := by decide +kernel
theorem dL_law_1148 : decode cL_law 1148 = .ok (.iload 4, 2) := by decide +kernel
theorem dL_law_1150 : decode cL_law 1150 = .ok (.iconst 3, 1) := by decide +kernel
theorem dL_law_1151 : decode cL_law 1151 = .ok (.iadd, 1) := by decide +kernel
theorem dL_law_1152 : decode cL_law 1152 = .ok (.iaload, 1) := by decide +kernel
theorem dL_law_1153 : decode cL_law 1153 = .ok (.invokevirtual 143, 3) := by decide +kernel
theorem dL_law_1156 : decode cL_law 1156 = .ok (.pop, 1) := by decide +kernel
theorem dL_law_1157 : decode cL_law 1157 = .ok (.aload_n 2, 1) := by decide +kernel
theorem dL_law_1158 : decode cL_law 1158 = .ok (.aload_n 0, 1) := by decide +kernel
theorem dL_law_1159 : decode cL_law 1159 = .ok (.iload 4, 2) := by decide +kernel
theorem dL_law_1161 : decode cL_law 1161 = .ok (.iconst 1, 1) := by decide +kernel
theorem dL_law_1162 : decode cL_law 1162 = .ok (.iadd, 1) := by decide +kernel
theorem dL_law_1163 : decode cL_law 1163 = .ok (.iaload, 1) := by decide +kernel
theorem dL_law_1164 : decode cL_law 1164 = .ok (.aload_n 0, 1) := by decide +kernel
theorem dL_law_1165 : decode cL_law 1165 = .ok (.iload 4, 2) := by decide +kernel
theorem dL_law_1167 : decode cL_law 1167 = .ok (.iconst 2, 1) := by decide +kernel
theorem dL_law_1168 : decode cL_law 1168 = .ok (.iadd, 1) := by decide +kernel
theorem dL_law_1169 : decode cL_law 1169 = .ok (.iaload, 1) := by decide +kernel
theorem dL_law_1170 : decode cL_law 1170 = .ok (.aload_n 0, 1) := by decide +kernel
theorem dL_law_1171 : decode cL_law 1171 = .ok (.iload 4, 2) := by decide +kernel
theorem dL_law_1173 : decode cL_law 1173 = .ok (.iconst 3, 1) := by decide +kernel
theorem dL_law_1174 : decode cL_law 1174 = .ok (.iadd, 1) := by decide +kernel
theorem dL_law_1175 : decode cL_law 1175 = .ok (.iaload, 1) := by decide +kernel
theorem dL_law_1176 : decode cL_law 1176 = .ok (.invokevirtual 146, 3) := by decide +kernel
theorem dL_law_1179 : decode cL_law 1179 = .ok (.pop, 1) := by decide +kernel
theorem dL_law_1180 : decode cL_law 1180 = .ok (.goto 183, 3) := by decide +kernel
theorem dL_law_1183 : decode cL_law 1183 = .ok (.aload_n 1, 1) := by decide +kernel
theorem dL_law_1184 : decode cL_law 1184 = .ok (.aload_n 0, 1) := by decide +kernel
theorem dL_law_1185 : decode cL_law 1185 = .ok (.iload 4, 2) := by decide +kernel
theorem dL_law_1187 : decode cL_law 1187 = .ok (.iconst 1, 1) := by decide +kernel
theorem dL_law_1188 : decode cL_law 1188 = .ok (.iadd, 1) := by decide +kernel
theorem dL_law_1189 : decode cL_law 1189 = .ok (.iaload, 1) := by decide +kernel
theorem dL_law_1190 : decode cL_law 1190 = .ok (.invokevirtual 147, 3) := by decide +kernel
theorem dL_law_1193 : decode cL_law 1193 = .ok (.pop, 1) := by decide +kernel
theorem dL_law_1194 : decode cL_law 1194 = .ok (.aload_n 2, 1) := by decide +kernel
theorem dL_law_1195 : decode cL_law 1195 = .ok (.aload_n 0, 1) := by decide +kernel
theorem dL_law_1196 : decode cL_law 1196 = .ok (.iload 4, 2) := by decide +kernel
theorem dL_law_1198 : decode cL_law 1198 = .ok (.iconst 1, 1) := by decide +kernel
theorem dL_law_1199 : decode cL_law 1199 = .ok (.iadd, 1) := by decide +kernel
theorem dL_law_1200 : decode cL_law 1200 = .ok (.iaload, 1) := by decide +kernel
theorem dL_law_1201 : decode cL_law 1201 = .ok (.invokevirtual 150, 3) := by decide +kernel
theorem dL_law_1204 : decode cL_law 1204 = .ok (.pop, 1) := by decide +kernel
theorem dL_law_1205 : decode cL_law 1205 = .ok (.goto 158, 3) := by decide +kernel
theorem dL_law_1208 : decode cL_law 1208 = .ok (.aload_n 1, 1) := by decide +kernel
theorem dL_law_1209 : decode cL_law 1209 = .ok (.invokevirtual 151, 3) := by decide +kernel
theorem dL_law_1212 : decode cL_law 1212 = .ok (.pop, 1) := by decide +kernel
theorem dL_law_1213 : decode cL_law 1213 = .ok (.aload_n 2, 1) := by decide +kernel
theorem dL_law_1214 : decode cL_law 1214 = .ok (.invokevirtual 154, 3) := by decide +kernel
theorem dL_law_1217 : decode cL_law 1217 = .ok (.pop, 1) := by decide +kernel
theorem dL_law_1218 : decode cL_law 1218 = .ok (.goto 145, 3) := by decide +kernel
theorem dL_law_1221 : decode cL_law 1221 = .ok (.aload_n 1, 1) := by decide +kernel
theorem dL_law_1222 : decode cL_law 1222 = .ok (.aload_n 0, 1) := by decide +kernel
theorem dL_law_1223 : decode cL_law 1223 = .ok (.iload 4, 2) := by decide +kernel
theorem dL_law_1225 : decode cL_law 1225 = .ok (.iconst 1, 1) := by decide +kernel
theorem dL_law_1226 : decode cL_law 1226 = .ok (.iadd, 1) := by decide +kernel
theorem dL_law_1227 : decode cL_law 1227 = .ok (.iaload, 1) := by decide +kernel
theorem dL_law_1228 : decode cL_law 1228 = .ok (.invokevirtual 155, 3) := by decide +kernel
theorem dL_law_1231 : decode cL_law 1231 = .ok (.pop, 1) := by decide +kernel
theorem dL_law_1232 : decode cL_law 1232 = .ok (.aload_n 2, 1) := by decide +kernel
theorem dL_law_1233 : decode cL_law 1233 = .ok (.aload_n 0, 1) := by decide +kernel
theorem dL_law_1234 : decode cL_law 1234 = .ok (.iload 4, 2) := by decide +kernel
theorem dL_law_1236 : decode cL_law 1236 = .ok (.iconst 1, 1) := by decide +kernel
theorem dL_law_1237 : decode cL_law 1237 = .ok (.iadd, 1) := by decide +kernel
theorem dL_law_1238 : decode cL_law 1238 = .ok (.iaload, 1) := by decide +kernel
theorem dL_law_1239 : decode cL_law 1239 = .ok (.invokevirtual 158, 3) := by decide +kernel
theorem dL_law_1242 : decode cL_law 1242 = .ok (.pop, 1) := by decide +kernel
theorem dL_law_1243 : decode cL_law 1243 = .ok (.goto 120, 3) := by decide +kernel
theorem dL_law_1246 : decode cL_law 1246 = .ok (.aload_n 1, 1) := by decide +kernel
theorem dL_law_1247 : decode cL_law 1247 = .ok (.aload_n 0, 1) := by decide +kernel
theorem dL_law_1248 : decode cL_law 1248 = .ok (.iload 4, 2) := by decide +kernel
theorem dL_law_1250 : decode cL_law 1250 = .ok (.iconst 1, 1) := by decide +kernel
theorem dL_law_1251 : decode cL_law 1251 = .ok (.iadd, 1) := by decide +kernel
theorem dL_law_1252 : decode cL_law 1252 = .ok (.iaload, 1) := by decide +kernel
theorem dL_law_1253 : decode cL_law 1253 = .ok (.invokevirtual 159, 3) := by decide +kernel
theorem dL_law_1256 : decode cL_law 1256 = .ok (.pop, 1) := by decide +kernel
theorem dL_law_1257 : decode cL_law 1257 = .ok (.aload_n 2, 1) := by decide +kernel
theorem dL_law_1258 : decode cL_law 1258 = .ok (.aload_n 0, 1) := by decide +kernel
theorem dL_law_1259 : decode cL_law 1259 = .ok (.iload 4, 2) := by decide +kernel
theorem dL_law_1261 : decode cL_law 1261 = .ok (.iconst 1, 1) := by decide +kernel
theorem dL_law_1262 : decode cL_law 1262 = .ok (.iadd, 1) := by decide +kernel
theorem dL_law_1263 : decode cL_law 1263 = .ok (.iaload, 1) := by decide +kernel
theorem dL_law_1264 : decode cL_law 1264 = .ok (.invokevirtual 162, 3) := by decide +kernel
theorem dL_law_1267 : decode cL_law 1267 = .ok (.pop, 1) := by decide +kernel
theorem dL_law_1268 : decode cL_law 1268 = .ok (.goto 95, 3) := by decide +kernel
theorem dL_law_1271 : decode cL_law 1271 = .ok (.aload_n 1, 1) := by decide +kernel
theorem dL_law_1272 : decode cL_law 1272 = .ok (.invokevirtual 163, 3) := by decide +kernel
theorem dL_law_1275 : decode cL_law 1275 = .ok (.pop, 1) := by decide +kernel
theorem dL_law_1276 : decode cL_law 1276 = .ok (.aload_n 2, 1) := by decide +kernel
theorem dL_law_1277 : decode cL_law 1277 = .ok (.invokevirtual 167, 3) := by decide +kernel
theorem dL_law_1280 : decode cL_law 1280 = .ok (.pop, 1) := by decide +kernel
theorem dL_law_1281 : decode cL_law 1281 = .ok (.goto 82, 3) := by decide +kernel
theorem dL_law_1284 : decode cL_law 1284 = .ok (.aload_n 1, 1) := by decide +kernel
theorem dL_law_1285 : decode cL_law 1285 = .ok (.invokevirtual 168, 3) := by decide +kernel
theorem dL_law_1288 : decode cL_law 1288 = .ok (.pop, 1) := by decide +kernel
theorem dL_law_1289 : decode cL_law 1289 = .ok (.aload_n 2, 1) := by decide +kernel
theorem dL_law_1290 : decode cL_law 1290 = .ok (.invokevirtual 171, 3) := by decide +kernel
theorem dL_law_1293 : decode cL_law 1293 = .ok (.pop, 1) := by decide +kernel
theorem dL_law_1294 : decode cL_law 1294 = .ok (.goto 69, 3) := by decide +kernel
theorem dL_law_1297 : decode cL_law 1297 = .ok (.aload_n 1, 1) := by decide +kernel
theorem dL_law_1298 : decode cL_law 1298 = .ok (.aload_n 0, 1) := by decide +kernel
theorem dL_law_1299 : decode cL_law 1299 = .ok (.iload 4, 2) := by decide +kernel
theorem dL_law_1301 : decode cL_law 1301 = .ok (.iconst 1, 1) := by decide +kernel
theorem dL_law_1302 : decode cL_law 1302 = .ok (.iadd, 1) := by decide +kernel
theorem dL_law_1303 : decode cL_law 1303 = .ok (.iaload, 1) := by decide +kernel
theorem dL_law_1304 : decode cL_law 1304 = .ok (.aload_n 3, 1) := by decide +kernel
theorem dL_law_1305 : decode cL_law 1305 = .ok (.invokestatic 172, 3) := by decide +kernel
theorem dL_law_1308 : decode cL_law 1308 = .ok (.istore 5, 2) := by decide +kernel
theorem dL_law_1310 : decode cL_law 1310 = .ok (.aload_n 2, 1) := by decide +kernel
theorem dL_law_1311 : decode cL_law 1311 = .ok (.aload_n 0, 1) := by decide +kernel
theorem dL_law_1312 : decode cL_law 1312 = .ok (.iload 4, 2) := by decide +kernel
theorem dL_law_1314 : decode cL_law 1314 = .ok (.iconst 1, 1) := by decide +kernel
theorem dL_law_1315 : decode cL_law 1315 = .ok (.iadd, 1) := by decide +kernel
theorem dL_law_1316 : decode cL_law 1316 = .ok (.iaload, 1) := by decide +kernel
theorem dL_law_1317 : decode cL_law 1317 = .ok (.invokevirtual 177, 3) := by decide +kernel
theorem dL_law_1320 : decode cL_law 1320 = .ok (.istore 6, 2) := by decide +kernel
theorem dL_law_1322 : decode cL_law 1322 = .ok (.goto 41, 3) := by decide +kernel
theorem dL_law_1325 : decode cL_law 1325 = .ok (.aload_n 1, 1) := by decide +kernel
theorem dL_law_1326 : decode cL_law 1326 = .ok (.aload_n 0, 1) := by decide +kernel
theorem dL_law_1327 : decode cL_law 1327 = .ok (.iload 4, 2) := by decide +kernel
theorem dL_law_1329 : decode cL_law 1329 = .ok (.iconst 1, 1) := by decide +kernel
theorem dL_law_1330 : decode cL_law 1330 = .ok (.iadd, 1) := by decide +kernel
theorem dL_law_1331 : decode cL_law 1331 = .ok (.iaload, 1) := by decide +kernel
theorem dL_law_1332 : decode cL_law 1332 = .ok (.invokevirtual 178, 3) := by decide +kernel
theorem dL_law_1335 : decode cL_law 1335 = .ok (.pop, 1) := by decide +kernel
theorem dL_law_1336 : decode cL_law 1336 = .ok (.aload_n 2, 1) := by decide +kernel
theorem dL_law_1337 : decode cL_law 1337 = .ok (.aload_n 0, 1) := by decide +kernel
theorem dL_law_1338 : decode cL_law 1338 = .ok (.iload 4, 2) := by decide +kernel
theorem dL_law_1340 : decode cL_law 1340 = .ok (.iconst 1, 1) := by decide +kernel
theorem dL_law_1341 : decode cL_law 1341 = .ok (.iadd, 1) := by decide +kernel
theorem dL_law_1342 : decode cL_law 1342 = .ok (.iaload, 1) := by decide +kernel
theorem dL_law_1343 : decode cL_law 1343 = .ok (.invokevirtual 181, 3) := by decide +kernel
theorem dL_law_1346 : decode cL_law 1346 = .ok (.pop, 1) := by decide +kernel
theorem dL_law_1347 : decode cL_law 1347 = .ok (.goto 16, 3) := by decide +kernel
theorem dL_law_1350 : decode cL_law 1350 = .ok (.aload_n 1, 1) := by decide +kernel
theorem dL_law_1351 : decode cL_law 1351 = .ok (.invokevirtual 182, 3) := by decide +kernel
theorem dL_law_1354 : decode cL_law 1354 = .ok (.pop, 1) := by decide +kernel
theorem dL_law_1355 : decode cL_law 1355 = .ok (.aload_n 2, 1) := by decide +kernel
theorem dL_law_1356 : decode cL_law 1356 = .ok (.invokevirtual 185, 3) := by decide +kernel
theorem dL_law_1359 : decode cL_law 1359 = .ok (.pop, 1) := by decide +kernel
theorem dL_law_1360 : decode cL_law 1360 = .ok (.goto 3, 3) := by decide +kernel
theorem dL_law_1363 : decode cL_law 1363 = .ok (.iinc 4 6, 3) := by decide +kernel
theorem dL_law_1366 : decode cL_law 1366 = .ok (.goto (-1343), 3) := by decide +kernel
theorem dL_law_1369 : decode cL_law 1369 = .ok (.iconst 1, 1) := by decide +kernel
theorem dL_law_1370 : decode cL_law 1370 = .ok (.ireturn, 1) := by decide +kernel
theorem dJ0_length_8abf5_0 : decode cJ0_length_8abf5 0 = .ok (.aload_n 0, 1) := by decide +kernel
theorem dJ0_length_8abf5_1 : decode cJ0_length_8abf5 1 = .ok (.getfield 9, 3) := by decide +kernel
theorem dJ0_length_8abf5_4 : decode cJ0_length_8abf5 4 = .ok (.arraylength, 1) := by decide +kernel
theorem dJ0_length_8abf5_5 : decode cJ0_length_8abf5 5 = .ok (.aload_n 0, 1) := by decide +kernel
theorem dJ0_length_8abf5_6 : decode cJ0_length_8abf5 6 = .ok (.invokevirtual 335, 3) := by decide +kernel
theorem dJ0_length_8abf5_9 : decode cJ0_length_8abf5 9 = .ok (.ishr, 1) := by decide +kernel
theorem dJ0_length_8abf5_10 : decode cJ0_length_8abf5 10 = .ok (.ireturn, 1) := by decide +kernel
theorem dJ0_charAt_5068e_0 : decode cJ0_charAt_5068e 0 = .ok (.aload_n 0, 1) := by decide +kernel
theorem dJ0_charAt_5068e_1 : decode cJ0_charAt_5068e 1 = .ok (.invokevirtual 492, 3) := by decide +kernel
theorem dJ0_charAt_5068e_4 : decode cJ0_charAt_5068e 4 = .ok (.ifCond .eq 12, 3) := by decide +kernel
theorem dJ0_charAt_5068e_7 : decode cJ0_charAt_5068e 7 = .ok (.aload_n 0, 1) := by decide +kernel
theorem dJ0_charAt_5068e_8 : decode cJ0_charAt_5068e 8 = .ok (.getfield 9, 3) := by decide +kernel
theorem dJ0_charAt_5068e_11 : decode cJ0_charAt_5068e 11 = .ok (.iload_n 1, 1) := by decide +kernel
theorem dJ0_charAt_5068e_12 : decode cJ0_charAt_5068e 12 = .ok (.invokestatic 495, 3) := by decide +kernel
theorem dJ0_charAt_5068e_15 : decode cJ0_charAt_5068e 15 = .ok (.ireturn, 1) := by decide +kernel
theorem dJ0_charAt_5068e_16 : decode cJ0_charAt_5068e 16 = .ok (.aload_n 0, 1) := by decide +kernel
theorem dJ0_charAt_5068e_17 : decode cJ0_charAt_5068e 17 = .ok (.getfield 9, 3) := by decide +kernel
theorem dJ0_charAt_5068e_20 : decode cJ0_charAt_5068e 20 = .ok (.iload_n 1, 1) := by decide +kernel
theorem dJ0_charAt_5068e_21 : decode cJ0_charAt_5068e 21 = .ok (.invokestatic 498, 3) := by decide +kernel
theorem dJ0_charAt_5068e_24 : decode cJ0_charAt_5068e 24 = .ok (.ireturn, 1) := by decide +kernel
theorem dJ0_coder_7d493_0 : decode cJ0_coder_7d493 0 = .ok (.getstatic 38, 3) := by decide +kernel
theorem dJ0_coder_7d493_3 : decode cJ0_coder_7d493 3 = .ok (.ifCond .eq 10, 3) := by decide +kernel
theorem dJ0_coder_7d493_6 : decode cJ0_coder_7d493 6 = .ok (.aload_n 0, 1) := by decide +kernel
theorem dJ0_coder_7d493_7 : decode cJ0_coder_7d493 7 = .ok (.getfield 15, 3) := by decide +kernel
theorem dJ0_coder_7d493_10 : decode cJ0_coder_7d493 10 = .ok (.goto 4, 3) := by decide +kernel
theorem dJ0_coder_7d493_13 : decode cJ0_coder_7d493 13 = .ok (.iconst 1, 1) := by decide +kernel
theorem dJ0_coder_7d493_14 : decode cJ0_coder_7d493 14 = .ok (.ireturn, 1) := by decide +kernel
theorem dJ0_isLatin1_aae02_0 : decode cJ0_isLatin1_aae02 0 = .ok (.getstatic 38, 3) := by decide +kernel
theorem dJ0_isLatin1_aae02_3 : decode cJ0_isLatin1_aae02 3 = .ok (.ifCond .eq 14, 3) := by decide +kernel
theorem dJ0_isLatin1_aae02_6 : decode cJ0_isLatin1_aae02 6 = .ok (.aload_n 0, 1) := by decide +kernel
theorem dJ0_isLatin1_aae02_7 : decode cJ0_isLatin1_aae02 7 = .ok (.getfield 15, 3) := by decide +kernel
theorem dJ0_isLatin1_aae02_10 : decode cJ0_isLatin1_aae02 10 = .ok (.ifCond .ne 7, 3) := by decide +kernel
theorem dJ0_isLatin1_aae02_13 : decode cJ0_isLatin1_aae02 13 = .ok (.iconst 1, 1) := by decide +kernel
theorem dJ0_isLatin1_aae02_14 : decode cJ0_isLatin1_aae02 14 = .ok (.goto 4, 3) := by decide +kernel
theorem dJ0_isLatin1_aae02_17 : decode cJ0_isLatin1_aae02 17 = .ok (.iconst 0, 1) := by decide +kernel
theorem dJ0_isLatin1_aae02_18 : decode cJ0_isLatin1_aae02 18 = .ok (.ireturn, 1) := by decide +kernel
theorem dJ0_checkIndex_df160_0 : decode cJ0_checkIndex_df160 0 = .ok (.iload_n 0, 1) := by decide +kernel
theorem dJ0_checkIndex_df160_1 : decode cJ0_checkIndex_df160 1 = .ok (.iload_n 1, 1) := by decide +kernel
theorem dJ0_checkIndex_df160_2 : decode cJ0_checkIndex_df160 2 = .ok (.getstatic 1053, 3) := by decide +kernel
theorem dJ0_checkIndex_df160_5 : decode cJ0_checkIndex_df160 5 = .ok (.invokestatic 1059, 3) := by decide +kernel
theorem dJ0_checkIndex_df160_8 : decode cJ0_checkIndex_df160 8 = .ok (.pop, 1) := by decide +kernel
theorem dJ0_checkIndex_df160_9 : decode cJ0_checkIndex_df160 9 = .ok (.return_, 1) := by decide +kernel
theorem dJ1_charAt_3b067_0 : decode cJ1_charAt_3b067 0 = .ok (.iload_n 1, 1) := by decide +kernel
theorem dJ1_charAt_3b067_1 : decode cJ1_charAt_3b067 1 = .ok (.aload_n 0, 1) := by decide +kernel
theorem dJ1_charAt_3b067_2 : decode cJ1_charAt_3b067 2 = .ok (.arraylength, 1) := by decide +kernel
theorem dJ1_charAt_3b067_3 : decode cJ1_charAt_3b067 3 = .ok (.invokestatic 9, 3) := by decide +kernel
theorem dJ1_charAt_3b067_6 : decode cJ1_charAt_3b067 6 = .ok (.aload_n 0, 1) := by decide +kernel
theorem dJ1_charAt_3b067_7 : decode cJ1_charAt_3b067 7 = .ok (.iload_n 1, 1) := by decide +kernel
theorem dJ1_charAt_3b067_8 : decode cJ1_charAt_3b067 8 = .ok (.baload, 1) := by decide +kernel
theorem dJ1_charAt_3b067_9 : decode cJ1_charAt_3b067 9 = .ok (.sipush 255, 3) := by decide +kernel
theorem dJ1_charAt_3b067_12 : decode cJ1_charAt_3b067 12 = .ok (.iand, 1) := by decide +kernel
theorem dJ1_charAt_3b067_13 : decode cJ1_charAt_3b067 13 = .ok (.i2c, 1) := by decide +kernel
theorem dJ1_charAt_3b067_14 : decode cJ1_charAt_3b067 14 = .ok (.ireturn, 1) := by decide +kernel
theorem dJ2_getChar_3b067_0 : decode cJ2_getChar_3b067 0 = .ok (.getstatic 44, 3) := by decide +kernel
theorem dJ2_getChar_3b067_3 : decode cJ2_getChar_3b067 3 = .ok (.ifCond .ne 25, 3) := by decide +kernel
theorem dJ2_getChar_3b067_6 : decode cJ2_getChar_3b067 6 = .ok (.iload_n 1, 1) := by decide +kernel
theorem dJ2_getChar_3b067_7 : decode cJ2_getChar_3b067 7 = .ok (.ifCond .lt 11, 3) := by decide +kernel
theorem dJ2_getChar_3b067_10 : decode cJ2_getChar_3b067 10 = .ok (.iload_n 1, 1) := by decide +kernel
theorem dJ2_getChar_3b067_11 : decode cJ2_getChar_3b067 11 = .ok (.aload_n 0, 1) := by decide +kernel
theorem dJ2_getChar_3b067_12 : decode cJ2_getChar_3b067 12 = .ok (.invokestatic 48, 3) := by decide +kernel
theorem dJ2_getChar_3b067_15 : decode cJ2_getChar_3b067 15 = .ok (.if_icmp .lt 13, 3) := by decide +kernel
theorem dJ2_getChar_3b067_18 : decode cJ2_getChar_3b067 18 = .ok (.new 52, 3) := by decide +kernel
theorem dJ2_getChar_3b067_21 : decode cJ2_getChar_3b067 21 = .ok (.dup, 1) := by decide +kernel
theorem dJ2_getChar_3b067_22 : decode cJ2_getChar_3b067 22 = .ok (.ldc 54, 2) := by decide +kernel
theorem dJ2_getChar_3b067_24 : decode cJ2_getChar_3b067 24 = .ok (.invokespecial 56, 3) := by decide +kernel
theorem dJ2_getChar_3b067_27 : decode cJ2_getChar_3b067 27 = .ok (.athrow, 1) := by decide +kernel
theorem dJ2_getChar_3b067_28 : decode cJ2_getChar_3b067 28 = .ok (.iload_n 1, 1) := by decide +kernel
theorem dJ2_getChar_3b067_29 : decode cJ2_getChar_3b067 29 = .ok (.iconst 1, 1) := by decide +kernel
theorem dJ2_getChar_3b067_30 : decode cJ2_getChar_3b067 30 = .ok (.ishl, 1) := by decide +kernel
theorem dJ2_getChar_3b067_31 : decode cJ2_getChar_3b067 31 = .ok (.istore_n 1, 1) := by decide +kernel
theorem dJ2_getChar_3b067_32 : decode cJ2_getChar_3b067 32 = .ok (.aload_n 0, 1) := by decide +kernel
theorem dJ2_getChar_3b067_33 : decode cJ2_getChar_3b067 33 = .ok (.iload_n 1, 1) := by decide +kernel
theorem dJ2_getChar_3b067_34 : decode cJ2_getChar_3b067 34 = .ok (.iinc 1 1, 3) := by decide +kernel
theorem dJ2_getChar_3b067_37 : decode cJ2_getChar_3b067 37 = .ok (.baload, 1) := by decide +kernel
theorem dJ2_getChar_3b067_38 : decode cJ2_getChar_3b067 38 = .ok (.sipush 255, 3) := by decide +kernel
theorem dJ2_getChar_3b067_41 : decode cJ2_getChar_3b067 41 = .ok (.iand, 1) := by decide +kernel
theorem dJ2_getChar_3b067_42 : decode cJ2_getChar_3b067 42 = .ok (.getstatic 59, 3) := by decide +kernel
theorem dJ2_getChar_3b067_45 : decode cJ2_getChar_3b067 45 = .ok (.ishl, 1) := by decide +kernel
theorem dJ2_getChar_3b067_46 : decode cJ2_getChar_3b067 46 = .ok (.aload_n 0, 1) := by decide +kernel
theorem dJ2_getChar_3b067_47 : decode cJ2_getChar_3b067 47 = .ok (.iload_n 1, 1) := by decide +kernel
theorem dJ2_getChar_3b067_48 : decode cJ2_getChar_3b067 48 = .ok (.baload, 1) := by decide +kernel
theorem dJ2_getChar_3b067_49 : decode cJ2_getChar_3b067 49 = .ok (.sipush 255, 3) := by decide +kernel
theorem dJ2_getChar_3b067_52 : decode cJ2_getChar_3b067 52 = .ok (.iand, 1) := by decide +kernel
theorem dJ2_getChar_3b067_53 : decode cJ2_getChar_3b067 53 = .ok (.getstatic 63, 3) := by decide +kernel
theorem dJ2_getChar_3b067_56 : decode cJ2_getChar_3b067 56 = .ok (.ishl, 1) := by decide +kernel
theorem dJ2_getChar_3b067_57 : decode cJ2_getChar_3b067 57 = .ok (.ior, 1) := by decide +kernel
theorem dJ2_getChar_3b067_58 : decode cJ2_getChar_3b067 58 = .ok (.i2c, 1) := by decide +kernel
theorem dJ2_getChar_3b067_59 : decode cJ2_getChar_3b067 59 = .ok (.ireturn, 1) := by decide +kernel
theorem dJ2_length_9d52b_0 : decode cJ2_length_9d52b 0 = .ok (.aload_n 0, 1) := by decide +kernel
theorem dJ2_length_9d52b_1 : decode cJ2_length_9d52b 1 = .ok (.arraylength, 1) := by decide +kernel
theorem dJ2_length_9d52b_2 : decode cJ2_length_9d52b 2 = .ok (.iconst 1, 1) := by decide +kernel
theorem dJ2_length_9d52b_3 : decode cJ2_length_9d52b 3 = .ok (.ishr, 1) := by decide +kernel
theorem dJ2_length_9d52b_4 : decode cJ2_length_9d52b 4 = .ok (.ireturn, 1) := by decide +kernel
theorem dJ2_charAt_3b067_0 : decode cJ2_charAt_3b067 0 = .ok (.iload_n 1, 1) := by decide +kernel
theorem dJ2_charAt_3b067_1 : decode cJ2_charAt_3b067 1 = .ok (.aload_n 0, 1) := by decide +kernel
theorem dJ2_charAt_3b067_2 : decode cJ2_charAt_3b067 2 = .ok (.invokestatic 67, 3) := by decide +kernel
theorem dJ2_charAt_3b067_5 : decode cJ2_charAt_3b067 5 = .ok (.aload_n 0, 1) := by decide +kernel
theorem dJ2_charAt_3b067_6 : decode cJ2_charAt_3b067 6 = .ok (.iload_n 1, 1) := by decide +kernel
theorem dJ2_charAt_3b067_7 : decode cJ2_charAt_3b067 7 = .ok (.invokestatic 71, 3) := by decide +kernel
theorem dJ2_charAt_3b067_10 : decode cJ2_charAt_3b067 10 = .ok (.ireturn, 1) := by decide +kernel
theorem dJ2_checkIndex_2214a_0 : decode cJ2_checkIndex_2214a 0 = .ok (.iload_n 0, 1) := by decide +kernel
theorem dJ2_checkIndex_2214a_1 : decode cJ2_checkIndex_2214a 1 = .ok (.aload_n 1, 1) := by decide +kernel
theorem dJ2_checkIndex_2214a_2 : decode cJ2_checkIndex_2214a 2 = .ok (.invokestatic 48, 3) := by decide +kernel
theorem dJ2_checkIndex_2214a_5 : decode cJ2_checkIndex_2214a 5 = .ok (.invokestatic 414, 3) := by decide +kernel
theorem dJ2_checkIndex_2214a_8 : decode cJ2_checkIndex_2214a 8 = .ok (.return_, 1) := by decide +kernel
theorem dJ3_checkIndex_8e157_0 : decode cJ3_checkIndex_8e157 0 = .ok (.iload_n 0, 1) := by decide +kernel
theorem dJ3_checkIndex_8e157_1 : decode cJ3_checkIndex_8e157 1 = .ok (.ifCond .lt 8, 3) := by decide +kernel
theorem dJ3_checkIndex_8e157_4 : decode cJ3_checkIndex_8e157 4 = .ok (.iload_n 0, 1) := by decide +kernel
theorem dJ3_checkIndex_8e157_5 : decode cJ3_checkIndex_8e157 5 = .ok (.iload_n 1, 1) := by decide +kernel
theorem dJ3_checkIndex_8e157_6 : decode cJ3_checkIndex_8e157 6 = .ok (.if_icmp .lt 10, 3) := by decide +kernel
theorem dJ3_checkIndex_8e157_9 : decode cJ3_checkIndex_8e157 9 = .ok (.aload_n 2, 1) := by decide +kernel
theorem dJ3_checkIndex_8e157_10 : decode cJ3_checkIndex_8e157 10 = .ok (.iload_n 0, 1) := by decide +kernel
theorem dJ3_checkIndex_8e157_11 : decode cJ3_checkIndex_8e157 11 = .ok (.iload_n 1, 1) := by decide +kernel
theorem dJ3_checkIndex_8e157_12 : decode cJ3_checkIndex_8e157 12 = .ok (.invokestatic 95, 3) := by decide +kernel
theorem dJ3_checkIndex_8e157_15 : decode cJ3_checkIndex_8e157 15 = .ok (.athrow, 1) := by decide +kernel
theorem dJ3_checkIndex_8e157_16 : decode cJ3_checkIndex_8e157 16 = .ok (.iload_n 0, 1) := by decide +kernel
theorem dJ3_checkIndex_8e157_17 : decode cJ3_checkIndex_8e157 17 = .ok (.ireturn, 1) := by decide +kernel
theorem dJ9_floorDiv_7cf53_0 : decode cJ9_floorDiv_7cf53 0 = .ok (.iload_n 0, 1) := by decide +kernel
theorem dJ9_floorDiv_7cf53_1 : decode cJ9_floorDiv_7cf53 1 = .ok (.iload_n 1, 1) := by decide +kernel
theorem dJ9_floorDiv_7cf53_2 : decode cJ9_floorDiv_7cf53 2 = .ok (.idiv, 1) := by decide +kernel
theorem dJ9_floorDiv_7cf53_3 : decode cJ9_floorDiv_7cf53 3 = .ok (.istore_n 2, 1) := by decide +kernel
theorem dJ9_floorDiv_7cf53_4 : decode cJ9_floorDiv_7cf53 4 = .ok (.iload_n 0, 1) := by decide +kernel
theorem dJ9_floorDiv_7cf53_5 : decode cJ9_floorDiv_7cf53 5 = .ok (.iload_n 1, 1) := by decide +kernel
theorem dJ9_floorDiv_7cf53_6 : decode cJ9_floorDiv_7cf53 6 = .ok (.ixor, 1) := by decide +kernel
theorem dJ9_floorDiv_7cf53_7 : decode cJ9_floorDiv_7cf53 7 = .ok (.ifCond .ge 14, 3) := by decide +kernel
theorem dJ9_floorDiv_7cf53_10 : decode cJ9_floorDiv_7cf53 10 = .ok (.iload_n 2, 1) := by decide +kernel
theorem dJ9_floorDiv_7cf53_11 : decode cJ9_floorDiv_7cf53 11 = .ok (.iload_n 1, 1) := by decide +kernel
theorem dJ9_floorDiv_7cf53_12 : decode cJ9_floorDiv_7cf53 12 = .ok (.imul, 1) := by decide +kernel
theorem dJ9_floorDiv_7cf53_13 : decode cJ9_floorDiv_7cf53 13 = .ok (.iload_n 0, 1) := by decide +kernel
theorem dJ9_floorDiv_7cf53_14 : decode cJ9_floorDiv_7cf53 14 = .ok (.if_icmp .eq 7, 3) := by decide +kernel
theorem dJ9_floorDiv_7cf53_17 : decode cJ9_floorDiv_7cf53 17 = .ok (.iload_n 2, 1) := by decide +kernel
theorem dJ9_floorDiv_7cf53_18 : decode cJ9_floorDiv_7cf53 18 = .ok (.iconst 1, 1) := by decide +kernel
theorem dJ9_floorDiv_7cf53_19 : decode cJ9_floorDiv_7cf53 19 = .ok (.isub, 1) := by decide +kernel
theorem dJ9_floorDiv_7cf53_20 : decode cJ9_floorDiv_7cf53 20 = .ok (.ireturn, 1) := by decide +kernel
theorem dJ9_floorDiv_7cf53_21 : decode cJ9_floorDiv_7cf53 21 = .ok (.iload_n 2, 1) := by decide +kernel
theorem dJ9_floorDiv_7cf53_22 : decode cJ9_floorDiv_7cf53 22 = .ok (.ireturn, 1) := by decide +kernel

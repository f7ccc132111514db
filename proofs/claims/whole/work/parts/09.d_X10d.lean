theorem dX10_piece_114 : decode cX10_piece 114 = .ok (.goto 25, 3) := by decide +kernel
theorem dX10_piece_117 : decode cX10_piece 117 = .ok (.aload_n 0, 1) := by decide +kernel
theorem dX10_piece_118 : decode cX10_piece 118 = .ok (.aload_n 0, 1) := by decide +kernel
theorem dX10_piece_119 : decode cX10_piece 119 = .ok (.getfield 48, 3) := by decide +kernel
theorem dX10_piece_122 : decode cX10_piece 122 = .ok (.iload 5, 2) := by decide +kernel
theorem dX10_piece_124 : decode cX10_piece 124 = .ok (.iaload, 1) := by decide +kernel
theorem dX10_piece_125 : decode cX10_piece 125 = .ok (.iload_n 2, 1) := by decide +kernel
theorem dX10_piece_126 : decode cX10_piece 126 = .ok (.iconst 2, 1) := by decide +kernel
theorem dX10_piece_127 : decode cX10_piece 127 = .ok (.if_icmp .ne 7, 3) := by decide +kernel
theorem dX10_piece_130 : decode cX10_piece 130 = .ok (.iconst 4, 1) := by decide +kernel
theorem dX10_piece_131 : decode cX10_piece 131 = .ok (.goto 5, 3) := by decide +kernel
theorem dX10_piece_134 : decode cX10_piece 134 = .ok (.bipush 8, 2) := by decide +kernel
theorem dX10_piece_136 : decode cX10_piece 136 = .ok (.invokevirtual 248, 3) := by decide +kernel
theorem dX10_piece_139 : decode cX10_piece 139 = .ok (.ireturn, 1) := by decide +kernel
theorem dX10_meets_0 : decode cX10_meets 0 = .ok (.aload_n 0, 1) := by decide +kernel
theorem dX10_meets_1 : decode cX10_meets 1 = .ok (.getfield 60, 3) := by decide +kernel
theorem dX10_meets_4 : decode cX10_meets 4 = .ok (.iload_n 1, 1) := by decide +kernel
theorem dX10_meets_5 : decode cX10_meets 5 = .ok (.iaload, 1) := by decide +kernel
theorem dX10_meets_6 : decode cX10_meets 6 = .ok (.ifCond .ge 33, 3) := by decide +kernel
theorem dX10_meets_9 : decode cX10_meets 9 = .ok (.aload_n 0, 1) := by decide +kernel
theorem dX10_meets_10 : decode cX10_meets 10 = .ok (.getfield 60, 3) := by decide +kernel
theorem dX10_meets_13 : decode cX10_meets 13 = .ok (.iload_n 1, 1) := by decide +kernel
theorem dX10_meets_14 : decode cX10_meets 14 = .ok (.aload_n 0, 1) := by decide +kernel
theorem dX10_meets_15 : decode cX10_meets 15 = .ok (.getfield 251, 3) := by decide +kernel
theorem dX10_meets_18 : decode cX10_meets 18 = .ok (.iastore, 1) := by decide +kernel
theorem dX10_meets_19 : decode cX10_meets 19 = .ok (.aload_n 0, 1) := by decide +kernel
theorem dX10_meets_20 : decode cX10_meets 20 = .ok (.getfield 57, 3) := by decide +kernel
theorem dX10_meets_23 : decode cX10_meets 23 = .ok (.aload_n 0, 1) := by decide +kernel
theorem dX10_meets_24 : decode cX10_meets 24 = .ok (.getfield 251, 3) := by decide +kernel
theorem dX10_meets_27 : decode cX10_meets 27 = .ok (.iload_n 1, 1) := by decide +kernel
theorem dX10_meets_28 : decode cX10_meets 28 = .ok (.iastore, 1) := by decide +kernel
theorem dX10_meets_29 : decode cX10_meets 29 = .ok (.aload_n 0, 1) := by decide +kernel
theorem dX10_meets_30 : decode cX10_meets 30 = .ok (.dup, 1) := by decide +kernel
theorem dX10_meets_31 : decode cX10_meets 31 = .ok (.getfield 251, 3) := by decide +kernel
theorem dX10_meets_34 : decode cX10_meets 34 = .ok (.iconst 1, 1) := by decide +kernel
theorem dX10_meets_35 : decode cX10_meets 35 = .ok (.iadd, 1) := by decide +kernel
theorem dX10_meets_36 : decode cX10_meets 36 = .ok (.putfield 251, 3) := by decide +kernel
theorem dX10_meets_39 : decode cX10_meets 39 = .ok (.return_, 1) := by decide +kernel
theorem dX10_allWays_0 : decode cX10_allWays 0 = .ok (.iconst 0, 1) := by decide +kernel
theorem dX10_allWays_1 : decode cX10_allWays 1 = .ok (.istore_n 1, 1) := by decide +kernel
theorem dX10_allWays_2 : decode cX10_allWays 2 = .ok (.iload_n 1, 1) := by decide +kernel
theorem dX10_allWays_3 : decode cX10_allWays 3 = .ok (.sipush 1024, 3) := by decide +kernel
theorem dX10_allWays_6 : decode cX10_allWays 6 = .ok (.if_icmp .ge 16, 3) := by decide +kernel
theorem dX10_allWays_9 : decode cX10_allWays 9 = .ok (.aload_n 0, 1) := by decide +kernel
theorem dX10_allWays_10 : decode cX10_allWays 10 = .ok (.getfield 60, 3) := by decide +kernel
theorem dX10_allWays_13 : decode cX10_allWays 13 = .ok (.iload_n 1, 1) := by decide +kernel
theorem dX10_allWays_14 : decode cX10_allWays 14 = .ok (.iconst (-1), 1) := by decide +kernel
theorem dX10_allWays_15 : decode cX10_allWays 15 = .ok (.iastore, 1) := by decide +kernel
theorem dX10_allWays_16 : decode cX10_allWays 16 = .ok (.iinc 1 1, 3) := by decide +kernel
theorem dX10_allWays_19 : decode cX10_allWays 19 = .ok (.goto (-17), 3) := by decide +kernel
theorem dX10_allWays_22 : decode cX10_allWays 22 = .ok (.aload_n 0, 1) := by decide +kernel
theorem dX10_allWays_23 : decode cX10_allWays 23 = .ok (.iconst 0, 1) := by decide +kernel
theorem dX10_allWays_24 : decode cX10_allWays 24 = .ok (.putfield 251, 3) := by decide +kernel
theorem dX10_allWays_27 : decode cX10_allWays 27 = .ok (.iconst 0, 1) := by decide +kernel
theorem dX10_allWays_28 : decode cX10_allWays 28 = .ok (.istore_n 1, 1) := by decide +kernel
theorem dX10_allWays_29 : decode cX10_allWays 29 = .ok (.iload_n 1, 1) := by decide +kernel
theorem dX10_allWays_30 : decode cX10_allWays 30 = .ok (.bipush 6, 2) := by decide +kernel
theorem dX10_allWays_32 : decode cX10_allWays 32 = .ok (.if_icmp .ge 18, 3) := by decide +kernel
theorem dX10_allWays_35 : decode cX10_allWays 35 = .ok (.aload_n 0, 1) := by decide +kernel
theorem dX10_allWays_36 : decode cX10_allWays 36 = .ok (.aload_n 0, 1) := by decide +kernel
theorem dX10_allWays_37 : decode cX10_allWays 37 = .ok (.iload_n 1, 1) := by decide +kernel
theorem dX10_allWays_38 : decode cX10_allWays 38 = .ok (.invokevirtual 239, 3) := by decide +kernel
theorem dX10_allWays_41 : decode cX10_allWays 41 = .ok (.invokevirtual 254, 3) := by decide +kernel
theorem dX10_allWays_44 : decode cX10_allWays 44 = .ok (.iinc 1 1, 3) := by decide +kernel
theorem dX10_allWays_47 : decode cX10_allWays 47 = .ok (.goto (-18), 3) := by decide +kernel
theorem dX10_allWays_50 : decode cX10_allWays 50 = .ok (.iconst 0, 1) := by decide +kernel
theorem dX10_allWays_51 : decode cX10_allWays 51 = .ok (.istore_n 1, 1) := by decide +kernel
theorem dX10_allWays_52 : decode cX10_allWays 52 = .ok (.iload_n 1, 1) := by decide +kernel
theorem dX10_allWays_53 : decode cX10_allWays 53 = .ok (.aload_n 0, 1) := by decide +kernel
theorem dX10_allWays_54 : decode cX10_allWays 54 = .ok (.getfield 251, 3) := by decide +kernel
theorem dX10_allWays_57 : decode cX10_allWays 57 = .ok (.if_icmp .ge 82, 3) := by decide +kernel
theorem dX10_allWays_60 : decode cX10_allWays 60 = .ok (.iconst 0, 1) := by decide +kernel
theorem dX10_allWays_61 : decode cX10_allWays 61 = .ok (.istore_n 2, 1) := by decide +kernel
theorem dX10_allWays_62 : decode cX10_allWays 62 = .ok (.iload_n 2, 1) := by decide +kernel
theorem dX10_allWays_63 : decode cX10_allWays 63 = .ok (.bipush 6, 2) := by decide +kernel
theorem dX10_allWays_65 : decode cX10_allWays 65 = .ok (.if_icmp .ge 68, 3) := by decide +kernel
theorem dX10_allWays_68 : decode cX10_allWays 68 = .ok (.aload_n 0, 1) := by decide +kernel
theorem dX10_allWays_69 : decode cX10_allWays 69 = .ok (.aload_n 0, 1) := by decide +kernel
theorem dX10_allWays_70 : decode cX10_allWays 70 = .ok (.getfield 57, 3) := by decide +kernel
theorem dX10_allWays_73 : decode cX10_allWays 73 = .ok (.iload_n 1, 1) := by decide +kernel
theorem dX10_allWays_74 : decode cX10_allWays 74 = .ok (.iaload, 1) := by decide +kernel
theorem dX10_allWays_75 : decode cX10_allWays 75 = .ok (.iload_n 2, 1) := by decide +kernel
theorem dX10_allWays_76 : decode cX10_allWays 76 = .ok (.invokevirtual 236, 3) := by decide +kernel
theorem dX10_allWays_79 : decode cX10_allWays 79 = .ok (.istore_n 3, 1) := by decide +kernel
theorem dX10_allWays_80 : decode cX10_allWays 80 = .ok (.iload_n 3, 1) := by decide +kernel
theorem dX10_allWays_81 : decode cX10_allWays 81 = .ok (.ifCond .eq 8, 3) := by decide +kernel
theorem dX10_allWays_84 : decode cX10_allWays 84 = .ok (.aload_n 0, 1) := by decide +kernel
theorem dX10_allWays_85 : decode cX10_allWays 85 = .ok (.iload_n 3, 1) := by decide +kernel
theorem dX10_allWays_86 : decode cX10_allWays 86 = .ok (.invokevirtual 254, 3) := by decide +kernel
theorem dX10_allWays_89 : decode cX10_allWays 89 = .ok (.aload_n 0, 1) := by decide +kernel
theorem dX10_allWays_90 : decode cX10_allWays 90 = .ok (.getfield 69, 3) := by decide +kernel
theorem dX10_allWays_93 : decode cX10_allWays 93 = .ok (.bipush 6, 2) := by decide +kernel
theorem dX10_allWays_95 : decode cX10_allWays 95 = .ok (.iload_n 1, 1) := by decide +kernel
theorem dX10_allWays_96 : decode cX10_allWays 96 = .ok (.imul, 1) := by decide +kernel
theorem dX10_allWays_97 : decode cX10_allWays 97 = .ok (.iload_n 2, 1) := by decide +kernel
theorem dX10_allWays_98 : decode cX10_allWays 98 = .ok (.iadd, 1) := by decide +kernel
theorem dX10_allWays_99 : decode cX10_allWays 99 = .ok (.iload_n 3, 1) := by decide +kernel
theorem dX10_allWays_100 : decode cX10_allWays 100 = .ok (.ifCond .ne 20, 3) := by decide +kernel
theorem dX10_allWays_103 : decode cX10_allWays 103 = .ok (.sipush 1024, 3) := by decide +kernel
theorem dX10_allWays_106 : decode cX10_allWays 106 = .ok (.aload_n 0, 1) := by decide +kernel
theorem dX10_allWays_107 : decode cX10_allWays 107 = .ok (.getfield 60, 3) := by decide +kernel
theorem dX10_allWays_110 : decode cX10_allWays 110 = .ok (.aload_n 0, 1) := by decide +kernel
theorem dX10_allWays_111 : decode cX10_allWays 111 = .ok (.iload_n 2, 1) := by decide +kernel
theorem dX10_allWays_112 : decode cX10_allWays 112 = .ok (.invokevirtual 239, 3) := by decide +kernel
theorem dX10_allWays_115 : decode cX10_allWays 115 = .ok (.iaload, 1) := by decide +kernel
theorem dX10_allWays_116 : decode cX10_allWays 116 = .ok (.iadd, 1) := by decide +kernel
theorem dX10_allWays_117 : decode cX10_allWays 117 = .ok (.goto 9, 3) := by decide +kernel
theorem dX10_allWays_120 : decode cX10_allWays 120 = .ok (.aload_n 0, 1) := by decide +kernel
theorem dX10_allWays_121 : decode cX10_allWays 121 = .ok (.getfield 60, 3) := by decide +kernel
theorem dX10_allWays_124 : decode cX10_allWays 124 = .ok (.iload_n 3, 1) := by decide +kernel
theorem dX10_allWays_125 : decode cX10_allWays 125 = .ok (.iaload, 1) := by decide +kernel
theorem dX10_allWays_126 : decode cX10_allWays 126 = .ok (.iastore, 1) := by decide +kernel
theorem dX10_allWays_127 : decode cX10_allWays 127 = .ok (.iinc 2 1, 3) := by decide +kernel
theorem dX10_allWays_130 : decode cX10_allWays 130 = .ok (.goto (-68), 3) := by decide +kernel
theorem dX10_allWays_133 : decode cX10_allWays 133 = .ok (.iinc 1 1, 3) := by decide +kernel
theorem dX10_allWays_136 : decode cX10_allWays 136 = .ok (.goto (-84), 3) := by decide +kernel
theorem dX10_allWays_139 : decode cX10_allWays 139 = .ok (.return_, 1) := by decide +kernel
theorem dX10_isFiner_0 : decode cX10_isFiner 0 = .ok (.aload_n 0, 1) := by decide +kernel
theorem dX10_isFiner_1 : decode cX10_isFiner 1 = .ok (.getfield 63, 3) := by decide +kernel
theorem dX10_isFiner_4 : decode cX10_isFiner 4 = .ok (.iload_n 1, 1) := by decide +kernel
theorem dX10_isFiner_5 : decode cX10_isFiner 5 = .ok (.iaload, 1) := by decide +kernel
theorem dX10_isFiner_6 : decode cX10_isFiner 6 = .ok (.aload_n 0, 1) := by decide +kernel
theorem dX10_isFiner_7 : decode cX10_isFiner 7 = .ok (.getfield 63, 3) := by decide +kernel
theorem dX10_isFiner_10 : decode cX10_isFiner 10 = .ok (.iload_n 2, 1) := by decide +kernel
theorem dX10_isFiner_11 : decode cX10_isFiner 11 = .ok (.iaload, 1) := by decide +kernel
theorem dX10_isFiner_12 : decode cX10_isFiner 12 = .ok (.if_icmp .ne 7, 3) := by decide +kernel
theorem dX10_isFiner_15 : decode cX10_isFiner 15 = .ok (.iconst 1, 1) := by decide +kernel
theorem dX10_isFiner_16 : decode cX10_isFiner 16 = .ok (.goto 4, 3) := by decide +kernel
theorem dX10_isFiner_19 : decode cX10_isFiner 19 = .ok (.iconst 0, 1) := by decide +kernel
theorem dX10_isFiner_20 : decode cX10_isFiner 20 = .ok (.istore_n 3, 1) := by decide +kernel
theorem dX10_isFiner_21 : decode cX10_isFiner 21 = .ok (.iconst 0, 1) := by decide +kernel
theorem dX10_isFiner_22 : decode cX10_isFiner 22 = .ok (.istore 4, 2) := by decide +kernel
theorem dX10_isFiner_24 : decode cX10_isFiner 24 = .ok (.iload 4, 2) := by decide +kernel
theorem dX10_isFiner_26 : decode cX10_isFiner 26 = .ok (.bipush 6, 2) := by decide +kernel
theorem dX10_isFiner_28 : decode cX10_isFiner 28 = .ok (.if_icmp .ge 87, 3) := by decide +kernel
theorem dX10_isFiner_31 : decode cX10_isFiner 31 = .ok (.iload_n 3, 1) := by decide +kernel
theorem dX10_isFiner_32 : decode cX10_isFiner 32 = .ok (.ifCond .eq 83, 3) := by decide +kernel
theorem dX10_isFiner_35 : decode cX10_isFiner 35 = .ok (.aload_n 0, 1) := by decide +kernel
theorem dX10_isFiner_36 : decode cX10_isFiner 36 = .ok (.getfield 69, 3) := by decide +kernel
theorem dX10_isFiner_39 : decode cX10_isFiner 39 = .ok (.bipush 6, 2) := by decide +kernel
theorem dX10_isFiner_41 : decode cX10_isFiner 41 = .ok (.iload_n 1, 1) := by decide +kernel
theorem dX10_isFiner_42 : decode cX10_isFiner 42 = .ok (.imul, 1) := by decide +kernel
theorem dX10_isFiner_43 : decode cX10_isFiner 43 = .ok (.iload 4, 2) := by decide +kernel
theorem dX10_isFiner_45 : decode cX10_isFiner 45 = .ok (.iadd, 1) := by decide +kernel
theorem dX10_isFiner_46 : decode cX10_isFiner 46 = .ok (.iaload, 1) := by decide +kernel
theorem dX10_isFiner_47 : decode cX10_isFiner 47 = .ok (.istore 5, 2) := by decide +kernel
theorem dX10_isFiner_49 : decode cX10_isFiner 49 = .ok (.aload_n 0, 1) := by decide +kernel
theorem dX10_isFiner_50 : decode cX10_isFiner 50 = .ok (.getfield 69, 3) := by decide +kernel
theorem dX10_isFiner_53 : decode cX10_isFiner 53 = .ok (.bipush 6, 2) := by decide +kernel
theorem dX10_isFiner_55 : decode cX10_isFiner 55 = .ok (.iload_n 2, 1) := by decide +kernel
theorem dX10_isFiner_56 : decode cX10_isFiner 56 = .ok (.imul, 1) := by decide +kernel
theorem dX10_isFiner_57 : decode cX10_isFiner 57 = .ok (.iload 4, 2) := by decide +kernel
theorem dX10_isFiner_59 : decode cX10_isFiner 59 = .ok (.iadd, 1) := by decide +kernel
theorem dX10_isFiner_60 : decode cX10_isFiner 60 = .ok (.iaload, 1) := by decide +kernel
theorem dX10_isFiner_61 : decode cX10_isFiner 61 = .ok (.istore 6, 2) := by decide +kernel
theorem dX10_isFiner_63 : decode cX10_isFiner 63 = .ok (.iload 5, 2) := by decide +kernel
theorem dX10_isFiner_65 : decode cX10_isFiner 65 = .ok (.sipush 1024, 3) := by decide +kernel
theorem dX10_isFiner_68 : decode cX10_isFiner 68 = .ok (.idiv, 1) := by decide +kernel
theorem dX10_isFiner_69 : decode cX10_isFiner 69 = .ok (.iload 6, 2) := by decide +kernel
theorem dX10_isFiner_71 : decode cX10_isFiner 71 = .ok (.sipush 1024, 3) := by decide +kernel
theorem dX10_isFiner_74 : decode cX10_isFiner 74 = .ok (.idiv, 1) := by decide +kernel
theorem dX10_isFiner_75 : decode cX10_isFiner 75 = .ok (.if_icmp .ne 32, 3) := by decide +kernel
theorem dX10_isFiner_78 : decode cX10_isFiner 78 = .ok (.aload_n 0, 1) := by decide +kernel
theorem dX10_isFiner_79 : decode cX10_isFiner 79 = .ok (.getfield 63, 3) := by decide +kernel
theorem dX10_isFiner_82 : decode cX10_isFiner 82 = .ok (.iload 5, 2) := by decide +kernel
theorem dX10_isFiner_84 : decode cX10_isFiner 84 = .ok (.sipush 1024, 3) := by decide +kernel
theorem dX10_isFiner_87 : decode cX10_isFiner 87 = .ok (.irem, 1) := by decide +kernel
theorem dX10_isFiner_88 : decode cX10_isFiner 88 = .ok (.iaload, 1) := by decide +kernel
theorem dX10_isFiner_89 : decode cX10_isFiner 89 = .ok (.aload_n 0, 1) := by decide +kernel
theorem dX10_isFiner_90 : decode cX10_isFiner 90 = .ok (.getfield 63, 3) := by decide +kernel
theorem dX10_isFiner_93 : decode cX10_isFiner 93 = .ok (.iload 6, 2) := by decide +kernel
theorem dX10_isFiner_95 : decode cX10_isFiner 95 = .ok (.sipush 1024, 3) := by decide +kernel
theorem dX10_isFiner_98 : decode cX10_isFiner 98 = .ok (.irem, 1) := by decide +kernel
theorem dX10_isFiner_99 : decode cX10_isFiner 99 = .ok (.iaload, 1) := by decide +kernel
theorem dX10_isFiner_100 : decode cX10_isFiner 100 = .ok (.if_icmp .ne 7, 3) := by decide +kernel
theorem dX10_isFiner_103 : decode cX10_isFiner 103 = .ok (.iconst 1, 1) := by decide +kernel
theorem dX10_isFiner_104 : decode cX10_isFiner 104 = .ok (.goto 4, 3) := by decide +kernel
theorem dX10_isFiner_107 : decode cX10_isFiner 107 = .ok (.iconst 0, 1) := by decide +kernel
theorem dX10_isFiner_108 : decode cX10_isFiner 108 = .ok (.istore_n 3, 1) := by decide +kernel
theorem dX10_isFiner_109 : decode cX10_isFiner 109 = .ok (.iinc 4 1, 3) := by decide +kernel
theorem dX10_isFiner_112 : decode cX10_isFiner 112 = .ok (.goto (-88), 3) := by decide +kernel
theorem dX10_isFiner_115 : decode cX10_isFiner 115 = .ok (.iload_n 3, 1) := by decide +kernel
theorem dX10_isFiner_116 : decode cX10_isFiner 116 = .ok (.ireturn, 1) := by decide +kernel
theorem dX10_unlikeWays_0 : decode cX10_unlikeWays 0 = .ok (.iconst 1, 1) := by decide +kernel
theorem dX10_unlikeWays_1 : decode cX10_unlikeWays 1 = .ok (.istore_n 1, 1) := by decide +kernel
theorem dX10_unlikeWays_2 : decode cX10_unlikeWays 2 = .ok (.iconst 0, 1) := by decide +kernel
theorem dX10_unlikeWays_3 : decode cX10_unlikeWays 3 = .ok (.istore_n 2, 1) := by decide +kernel
theorem dX10_unlikeWays_4 : decode cX10_unlikeWays 4 = .ok (.iconst 0, 1) := by decide +kernel
theorem dX10_unlikeWays_5 : decode cX10_unlikeWays 5 = .ok (.istore_n 3, 1) := by decide +kernel
theorem dX10_unlikeWays_6 : decode cX10_unlikeWays 6 = .ok (.iload_n 3, 1) := by decide +kernel
theorem dX10_unlikeWays_7 : decode cX10_unlikeWays 7 = .ok (.aload_n 0, 1) := by decide +kernel
theorem dX10_unlikeWays_8 : decode cX10_unlikeWays 8 = .ok (.getfield 251, 3) := by decide +kernel
theorem dX10_unlikeWays_11 : decode cX10_unlikeWays 11 = .ok (.if_icmp .ge 16, 3) := by decide +kernel
theorem dX10_unlikeWays_14 : decode cX10_unlikeWays 14 = .ok (.aload_n 0, 1) := by decide +kernel
theorem dX10_unlikeWays_15 : decode cX10_unlikeWays 15 = .ok (.getfield 63, 3) := by decide +kernel
theorem dX10_unlikeWays_18 : decode cX10_unlikeWays 18 = .ok (.iload_n 3, 1) := by decide +kernel
theorem dX10_unlikeWays_19 : decode cX10_unlikeWays 19 = .ok (.iconst 0, 1) := by decide +kernel
theorem dX10_unlikeWays_20 : decode cX10_unlikeWays 20 = .ok (.iastore, 1) := by decide +kernel
theorem dX10_unlikeWays_21 : decode cX10_unlikeWays 21 = .ok (.iinc 3 1, 3) := by decide +kernel
theorem dX10_unlikeWays_24 : decode cX10_unlikeWays 24 = .ok (.goto (-18), 3) := by decide +kernel
theorem dX10_unlikeWays_27 : decode cX10_unlikeWays 27 = .ok (.iload_n 1, 1) := by decide +kernel
theorem dX10_unlikeWays_28 : decode cX10_unlikeWays 28 = .ok (.iload_n 2, 1) := by decide +kernel
theorem dX10_unlikeWays_29 : decode cX10_unlikeWays 29 = .ok (.if_icmp .eq 116, 3) := by decide +kernel
theorem dX10_unlikeWays_32 : decode cX10_unlikeWays 32 = .ok (.iload_n 1, 1) := by decide +kernel
theorem dX10_unlikeWays_33 : decode cX10_unlikeWays 33 = .ok (.istore_n 2, 1) := by decide +kernel
theorem dX10_unlikeWays_34 : decode cX10_unlikeWays 34 = .ok (.iconst 0, 1) := by decide +kernel
theorem dX10_unlikeWays_35 : decode cX10_unlikeWays 35 = .ok (.istore_n 1, 1) := by decide +kernel
theorem dX10_unlikeWays_36 : decode cX10_unlikeWays 36 = .ok (.iconst 0, 1) := by decide +kernel
theorem dX10_unlikeWays_37 : decode cX10_unlikeWays 37 = .ok (.istore_n 3, 1) := by decide +kernel
theorem dX10_unlikeWays_38 : decode cX10_unlikeWays 38 = .ok (.iload_n 3, 1) := by decide +kernel
theorem dX10_unlikeWays_39 : decode cX10_unlikeWays 39 = .ok (.aload_n 0, 1) := by decide +kernel
theorem dX10_unlikeWays_40 : decode cX10_unlikeWays 40 = .ok (.getfield 251, 3) := by decide +kernel
theorem dX10_unlikeWays_43 : decode cX10_unlikeWays 43 = .ok (.if_icmp .ge 71, 3) := by decide +kernel
theorem dX10_unlikeWays_46 : decode cX10_unlikeWays 46 = .ok (.iconst 0, 1) := by decide +kernel
theorem dX10_unlikeWays_47 : decode cX10_unlikeWays 47 = .ok (.istore 4, 2) := by decide +kernel
theorem dX10_unlikeWays_49 : decode cX10_unlikeWays 49 = .ok (.iload 4, 2) := by decide +kernel
theorem dX10_unlikeWays_51 : decode cX10_unlikeWays 51 = .ok (.iload_n 3, 1) := by decide +kernel
theorem dX10_unlikeWays_52 : decode cX10_unlikeWays 52 = .ok (.if_icmp .ge 19, 3) := by decide +kernel
theorem dX10_unlikeWays_55 : decode cX10_unlikeWays 55 = .ok (.aload_n 0, 1) := by decide +kernel
theorem dX10_unlikeWays_56 : decode cX10_unlikeWays 56 = .ok (.iload 4, 2) := by decide +kernel
theorem dX10_unlikeWays_58 : decode cX10_unlikeWays 58 = .ok (.iload_n 3, 1) := by decide +kernel
theorem dX10_unlikeWays_59 : decode cX10_unlikeWays 59 = .ok (.invokevirtual 257, 3) := by decide +kernel
theorem dX10_unlikeWays_62 : decode cX10_unlikeWays 62 = .ok (.ifCond .ne 9, 3) := by decide +kernel
theorem dX10_unlikeWays_65 : decode cX10_unlikeWays 65 = .ok (.iinc 4 1, 3) := by decide +kernel
theorem dX10_unlikeWays_68 : decode cX10_unlikeWays 68 = .ok (.goto (-19), 3) := by decide +kernel
theorem dX10_unlikeWays_71 : decode cX10_unlikeWays 71 = .ok (.aload_n 0, 1) := by decide +kernel
theorem dX10_unlikeWays_72 : decode cX10_unlikeWays 72 = .ok (.getfield 66, 3) := by decide +kernel
theorem dX10_unlikeWays_75 : decode cX10_unlikeWays 75 = .ok (.iload_n 3, 1) := by decide +kernel
theorem dX10_unlikeWays_76 : decode cX10_unlikeWays 76 = .ok (.iload 4, 2) := by decide +kernel
theorem dX10_unlikeWays_78 : decode cX10_unlikeWays 78 = .ok (.iload_n 3, 1) := by decide +kernel
theorem dX10_unlikeWays_79 : decode cX10_unlikeWays 79 = .ok (.if_icmp .ne 7, 3) := by decide +kernel
theorem dX10_unlikeWays_82 : decode cX10_unlikeWays 82 = .ok (.iload_n 1, 1) := by decide +kernel
theorem dX10_unlikeWays_83 : decode cX10_unlikeWays 83 = .ok (.goto 10, 3) := by decide +kernel
theorem dX10_unlikeWays_86 : decode cX10_unlikeWays 86 = .ok (.aload_n 0, 1) := by decide +kernel
theorem dX10_unlikeWays_87 : decode cX10_unlikeWays 87 = .ok (.getfield 66, 3) := by decide +kernel
theorem dX10_unlikeWays_90 : decode cX10_unlikeWays 90 = .ok (.iload 4, 2) := by decide +kernel
theorem dX10_unlikeWays_92 : decode cX10_unlikeWays 92 = .ok (.iaload, 1) := by decide +kernel
theorem dX10_unlikeWays_93 : decode cX10_unlikeWays 93 = .ok (.iastore, 1) := by decide +kernel
theorem dX10_unlikeWays_94 : decode cX10_unlikeWays 94 = .ok (.iload_n 1, 1) := by decide +kernel
theorem dX10_unlikeWays_95 : decode cX10_unlikeWays 95 = .ok (.iload 4, 2) := by decide +kernel
theorem dX10_unlikeWays_97 : decode cX10_unlikeWays 97 = .ok (.iload_n 3, 1) := by decide +kernel
theorem dX10_unlikeWays_98 : decode cX10_unlikeWays 98 = .ok (.if_icmp .ne 7, 3) := by decide +kernel
theorem dX10_unlikeWays_101 : decode cX10_unlikeWays 101 = .ok (.iconst 1, 1) := by decide +kernel
theorem dX10_unlikeWays_102 : decode cX10_unlikeWays 102 = .ok (.goto 4, 3) := by decide +kernel
theorem dX10_unlikeWays_105 : decode cX10_unlikeWays 105 = .ok (.iconst 0, 1) := by decide +kernel
theorem dX10_unlikeWays_106 : decode cX10_unlikeWays 106 = .ok (.iadd, 1) := by decide +kernel
theorem dX10_unlikeWays_107 : decode cX10_unlikeWays 107 = .ok (.istore_n 1, 1) := by decide +kernel
theorem dX10_unlikeWays_108 : decode cX10_unlikeWays 108 = .ok (.iinc 3 1, 3) := by decide +kernel
theorem dX10_unlikeWays_111 : decode cX10_unlikeWays 111 = .ok (.goto (-73), 3) := by decide +kernel
theorem dX10_unlikeWays_114 : decode cX10_unlikeWays 114 = .ok (.iconst 0, 1) := by decide +kernel
theorem dX10_unlikeWays_115 : decode cX10_unlikeWays 115 = .ok (.istore_n 3, 1) := by decide +kernel
theorem dX10_unlikeWays_116 : decode cX10_unlikeWays 116 = .ok (.iload_n 3, 1) := by decide +kernel
theorem dX10_unlikeWays_117 : decode cX10_unlikeWays 117 = .ok (.aload_n 0, 1) := by decide +kernel
theorem dX10_unlikeWays_118 : decode cX10_unlikeWays 118 = .ok (.getfield 251, 3) := by decide +kernel
theorem dX10_unlikeWays_121 : decode cX10_unlikeWays 121 = .ok (.if_icmp .ge 21, 3) := by decide +kernel
theorem dX10_unlikeWays_124 : decode cX10_unlikeWays 124 = .ok (.aload_n 0, 1) := by decide +kernel
theorem dX10_unlikeWays_125 : decode cX10_unlikeWays 125 = .ok (.getfield 63, 3) := by decide +kernel
theorem dX10_unlikeWays_128 : decode cX10_unlikeWays 128 = .ok (.iload_n 3, 1) := by decide +kernel
theorem dX10_unlikeWays_129 : decode cX10_unlikeWays 129 = .ok (.aload_n 0, 1) := by decide +kernel
theorem dX10_unlikeWays_130 : decode cX10_unlikeWays 130 = .ok (.getfield 66, 3) := by decide +kernel
theorem dX10_unlikeWays_133 : decode cX10_unlikeWays 133 = .ok (.iload_n 3, 1) := by decide +kernel
theorem dX10_unlikeWays_134 : decode cX10_unlikeWays 134 = .ok (.iaload, 1) := by decide +kernel
theorem dX10_unlikeWays_135 : decode cX10_unlikeWays 135 = .ok (.iastore, 1) := by decide +kernel
theorem dX10_unlikeWays_136 : decode cX10_unlikeWays 136 = .ok (.iinc 3 1, 3) := by decide +kernel
theorem dX10_unlikeWays_139 : decode cX10_unlikeWays 139 = .ok (.goto (-23), 3) := by decide +kernel
theorem dX10_unlikeWays_142 : decode cX10_unlikeWays 142 = .ok (.goto (-115), 3) := by decide +kernel
theorem dX10_unlikeWays_145 : decode cX10_unlikeWays 145 = .ok (.iload_n 1, 1) := by decide +kernel
theorem dX10_unlikeWays_146 : decode cX10_unlikeWays 146 = .ok (.ireturn, 1) := by decide +kernel
theorem dX10_behindOne_0 : decode cX10_behindOne 0 = .ok (.aload_n 0, 1) := by decide +kernel
theorem dX10_behindOne_1 : decode cX10_behindOne 1 = .ok (.iload_n 1, 1) := by decide +kernel
theorem dX10_behindOne_2 : decode cX10_behindOne 2 = .ok (.iload_n 2, 1) := by decide +kernel
theorem dX10_behindOne_3 : decode cX10_behindOne 3 = .ok (.invokevirtual 236, 3) := by decide +kernel
theorem dX10_behindOne_6 : decode cX10_behindOne 6 = .ok (.istore_n 3, 1) := by decide +kernel
theorem dX10_behindOne_7 : decode cX10_behindOne 7 = .ok (.iload_n 3, 1) := by decide +kernel
theorem dX10_behindOne_8 : decode cX10_behindOne 8 = .ok (.ifCond .ne 11, 3) := by decide +kernel
theorem dX10_behindOne_11 : decode cX10_behindOne 11 = .ok (.aload_n 0, 1) := by decide +kernel
theorem dX10_behindOne_12 : decode cX10_behindOne 12 = .ok (.iload_n 2, 1) := by decide +kernel
theorem dX10_behindOne_13 : decode cX10_behindOne 13 = .ok (.invokevirtual 239, 3) := by decide +kernel
theorem dX10_behindOne_16 : decode cX10_behindOne 16 = .ok (.goto 4, 3) := by decide +kernel
theorem dX10_behindOne_19 : decode cX10_behindOne 19 = .ok (.iload_n 3, 1) := by decide +kernel
theorem dX10_behindOne_20 : decode cX10_behindOne 20 = .ok (.ireturn, 1) := by decide +kernel
theorem dX10_isKnown_0 : decode cX10_isKnown 0 = .ok (.aload_n 0, 1) := by decide +kernel
theorem dX10_isKnown_1 : decode cX10_isKnown 1 = .ok (.aload_n 0, 1) := by decide +kernel
theorem dX10_isKnown_2 : decode cX10_isKnown 2 = .ok (.iload_n 1, 1) := by decide +kernel
theorem dX10_isKnown_3 : decode cX10_isKnown 3 = .ok (.invokevirtual 239, 3) := by decide +kernel
theorem dX10_isKnown_6 : decode cX10_isKnown 6 = .ok (.iload_n 2, 1) := by decide +kernel
theorem dX10_isKnown_7 : decode cX10_isKnown 7 = .ok (.invokevirtual 260, 3) := by decide +kernel
theorem dX10_isKnown_10 : decode cX10_isKnown 10 = .ok (.istore_n 3, 1) := by decide +kernel
theorem dX10_isKnown_11 : decode cX10_isKnown 11 = .ok (.iconst 1, 1) := by decide +kernel
theorem dX10_isKnown_12 : decode cX10_isKnown 12 = .ok (.istore 4, 2) := by decide +kernel
theorem dX10_isKnown_14 : decode cX10_isKnown 14 = .ok (.iconst 0, 1) := by decide +kernel
theorem dX10_isKnown_15 : decode cX10_isKnown 15 = .ok (.istore 5, 2) := by decide +kernel
theorem dX10_isKnown_17 : decode cX10_isKnown 17 = .ok (.iload 5, 2) := by decide +kernel
theorem dX10_isKnown_19 : decode cX10_isKnown 19 = .ok (.aload_n 0, 1) := by decide +kernel
theorem dX10_isKnown_20 : decode cX10_isKnown 20 = .ok (.getfield 251, 3) := by decide +kernel
theorem dX10_isKnown_23 : decode cX10_isKnown 23 = .ok (.if_icmp .ge 42, 3) := by decide +kernel
theorem dX10_isKnown_26 : decode cX10_isKnown 26 = .ok (.iload 4, 2) := by decide +kernel
theorem dX10_isKnown_28 : decode cX10_isKnown 28 = .ok (.ifCond .eq 37, 3) := by decide +kernel
theorem dX10_isKnown_31 : decode cX10_isKnown 31 = .ok (.aload_n 0, 1) := by decide +kernel
theorem dX10_isKnown_32 : decode cX10_isKnown 32 = .ok (.aload_n 0, 1) := by decide +kernel
theorem dX10_isKnown_33 : decode cX10_isKnown 33 = .ok (.aload_n 0, 1) := by decide +kernel
theorem dX10_isKnown_34 : decode cX10_isKnown 34 = .ok (.getfield 57, 3) := by decide +kernel
theorem dX10_isKnown_37 : decode cX10_isKnown 37 = .ok (.iload 5, 2) := by decide +kernel
theorem dX10_isKnown_39 : decode cX10_isKnown 39 = .ok (.iaload, 1) := by decide +kernel
theorem dX10_isKnown_40 : decode cX10_isKnown 40 = .ok (.iload_n 1, 1) := by decide +kernel
theorem dX10_isKnown_41 : decode cX10_isKnown 41 = .ok (.invokevirtual 260, 3) := by decide +kernel
theorem dX10_isKnown_44 : decode cX10_isKnown 44 = .ok (.iload_n 2, 1) := by decide +kernel
theorem dX10_isKnown_45 : decode cX10_isKnown 45 = .ok (.invokevirtual 260, 3) := by decide +kernel
theorem dX10_isKnown_48 : decode cX10_isKnown 48 = .ok (.iload_n 3, 1) := by decide +kernel
theorem dX10_isKnown_49 : decode cX10_isKnown 49 = .ok (.if_icmp .ne 7, 3) := by decide +kernel
theorem dX10_isKnown_52 : decode cX10_isKnown 52 = .ok (.iconst 1, 1) := by decide +kernel
theorem dX10_isKnown_53 : decode cX10_isKnown 53 = .ok (.goto 4, 3) := by decide +kernel
theorem dX10_isKnown_56 : decode cX10_isKnown 56 = .ok (.iconst 0, 1) := by decide +kernel
theorem dX10_isKnown_57 : decode cX10_isKnown 57 = .ok (.istore 4, 2) := by decide +kernel
theorem dX10_isKnown_59 : decode cX10_isKnown 59 = .ok (.iinc 5 1, 3) := by decide +kernel
theorem dX10_isKnown_62 : decode cX10_isKnown 62 = .ok (.goto (-45), 3) := by decide +kernel
theorem dX10_isKnown_65 : decode cX10_isKnown 65 = .ok (.iload 4, 2) := by decide +kernel
theorem dX10_isKnown_67 : decode cX10_isKnown 67 = .ok (.ireturn, 1) := by decide +kernel
theorem dX10_backFrom_0 : decode cX10_backFrom 0 = .ok (.iload_n 1, 1) := by decide +kernel
theorem dX10_backFrom_1 : decode cX10_backFrom 1 = .ok (.istore_n 2, 1) := by decide +kernel
theorem dX10_backFrom_2 : decode cX10_backFrom 2 = .ok (.iload_n 2, 1) := by decide +kernel
theorem dX10_backFrom_3 : decode cX10_backFrom 3 = .ok (.ifCond .le 55, 3) := by decide +kernel
theorem dX10_backFrom_6 : decode cX10_backFrom 6 = .ok (.iload_n 2, 1) := by decide +kernel
theorem dX10_backFrom_7 : decode cX10_backFrom 7 = .ok (.iconst 1, 1) := by decide +kernel
theorem dX10_backFrom_8 : decode cX10_backFrom 8 = .ok (.if_icmp .le 44, 3) := by decide +kernel
theorem dX10_backFrom_11 : decode cX10_backFrom 11 = .ok (.aload_n 0, 1) := by decide +kernel
theorem dX10_backFrom_12 : decode cX10_backFrom 12 = .ok (.aload_n 0, 1) := by decide +kernel
theorem dX10_backFrom_13 : decode cX10_backFrom 13 = .ok (.getfield 31, 3) := by decide +kernel
theorem dX10_backFrom_16 : decode cX10_backFrom 16 = .ok (.aload_n 0, 1) := by decide +kernel
theorem dX10_backFrom_17 : decode cX10_backFrom 17 = .ok (.getfield 31, 3) := by decide +kernel
theorem dX10_backFrom_20 : decode cX10_backFrom 20 = .ok (.bipush 31, 2) := by decide +kernel
theorem dX10_backFrom_22 : decode cX10_backFrom 22 = .ok (.iload_n 2, 1) := by decide +kernel
theorem dX10_backFrom_23 : decode cX10_backFrom 23 = .ok (.iadd, 1) := by decide +kernel
theorem dX10_backFrom_24 : decode cX10_backFrom 24 = .ok (.iconst 2, 1) := by decide +kernel
theorem dX10_backFrom_25 : decode cX10_backFrom 25 = .ok (.isub, 1) := by decide +kernel
theorem dX10_backFrom_26 : decode cX10_backFrom 26 = .ok (.iaload, 1) := by decide +kernel
theorem dX10_backFrom_27 : decode cX10_backFrom 27 = .ok (.iaload, 1) := by decide +kernel
theorem dX10_backFrom_28 : decode cX10_backFrom 28 = .ok (.aload_n 0, 1) := by decide +kernel
theorem dX10_backFrom_29 : decode cX10_backFrom 29 = .ok (.getfield 31, 3) := by decide +kernel
theorem dX10_backFrom_32 : decode cX10_backFrom 32 = .ok (.aload_n 0, 1) := by decide +kernel
theorem dX10_backFrom_33 : decode cX10_backFrom 33 = .ok (.getfield 31, 3) := by decide +kernel
theorem dX10_backFrom_36 : decode cX10_backFrom 36 = .ok (.bipush 31, 2) := by decide +kernel
theorem dX10_backFrom_38 : decode cX10_backFrom 38 = .ok (.iload_n 2, 1) := by decide +kernel
theorem dX10_backFrom_39 : decode cX10_backFrom 39 = .ok (.iadd, 1) := by decide +kernel
theorem dX10_backFrom_40 : decode cX10_backFrom 40 = .ok (.iconst 1, 1) := by decide +kernel
theorem dX10_backFrom_41 : decode cX10_backFrom 41 = .ok (.isub, 1) := by decide +kernel
theorem dX10_backFrom_42 : decode cX10_backFrom 42 = .ok (.iaload, 1) := by decide +kernel
theorem dX10_backFrom_43 : decode cX10_backFrom 43 = .ok (.iaload, 1) := by decide +kernel
theorem dX10_backFrom_44 : decode cX10_backFrom 44 = .ok (.invokevirtual 263, 3) := by decide +kernel
theorem dX10_backFrom_47 : decode cX10_backFrom 47 = .ok (.ifCond .eq 5, 3) := by decide +kernel
theorem dX10_backFrom_50 : decode cX10_backFrom 50 = .ok (.iload_n 2, 1) := by decide +kernel
theorem dX10_backFrom_51 : decode cX10_backFrom 51 = .ok (.ireturn, 1) := by decide +kernel
theorem dX10_backFrom_52 : decode cX10_backFrom 52 = .ok (.iinc 2 (-1), 3) := by decide +kernel
theorem dX10_backFrom_55 : decode cX10_backFrom 55 = .ok (.goto (-53), 3) := by decide +kernel
theorem dX10_backFrom_58 : decode cX10_backFrom 58 = .ok (.iconst 0, 1) := by decide +kernel
theorem dX10_backFrom_59 : decode cX10_backFrom 59 = .ok (.ireturn, 1) := by decide +kernel
theorem dX10_fours_0 : decode cX10_fours 0 = .ok (.iconst 0, 1) := by decide +kernel
theorem dX10_fours_1 : decode cX10_fours 1 = .ok (.istore_n 1, 1) := by decide +kernel
theorem dX10_fours_2 : decode cX10_fours 2 = .ok (.iconst 0, 1) := by decide +kernel
theorem dX10_fours_3 : decode cX10_fours 3 = .ok (.istore_n 2, 1) := by decide +kernel
theorem dX10_fours_4 : decode cX10_fours 4 = .ok (.iload_n 2, 1) := by decide +kernel
theorem dX10_fours_5 : decode cX10_fours 5 = .ok (.bipush 7, 2) := by decide +kernel
theorem dX10_fours_7 : decode cX10_fours 7 = .ok (.if_icmp .ge 128, 3) := by decide +kernel
theorem dX10_fours_10 : decode cX10_fours 10 = .ok (.iconst 1, 1) := by decide +kernel
theorem dX10_fours_11 : decode cX10_fours 11 = .ok (.istore_n 3, 1) := by decide +kernel
theorem dX10_fours_12 : decode cX10_fours 12 = .ok (.iconst 0, 1) := by decide +kernel
theorem dX10_fours_13 : decode cX10_fours 13 = .ok (.istore 4, 2) := by decide +kernel
theorem dX10_fours_15 : decode cX10_fours 15 = .ok (.iload 4, 2) := by decide +kernel
theorem dX10_fours_17 : decode cX10_fours 17 = .ok (.iload_n 2, 1) := by decide +kernel
theorem dX10_fours_18 : decode cX10_fours 18 = .ok (.if_icmp .ge 99, 3) := by decide +kernel
theorem dX10_fours_21 : decode cX10_fours 21 = .ok (.iload_n 3, 1) := by decide +kernel
theorem dX10_fours_22 : decode cX10_fours 22 = .ok (.ifCond .eq 95, 3) := by decide +kernel
theorem dX10_fours_25 : decode cX10_fours 25 = .ok (.iconst 1, 1) := by decide +kernel
theorem dX10_fours_26 : decode cX10_fours 26 = .ok (.istore 5, 2) := by decide +kernel
theorem dX10_fours_28 : decode cX10_fours 28 = .ok (.iconst 0, 1) := by decide +kernel
theorem dX10_fours_29 : decode cX10_fours 29 = .ok (.istore 6, 2) := by decide +kernel
theorem dX10_fours_31 : decode cX10_fours 31 = .ok (.iload 6, 2) := by decide +kernel
theorem dX10_fours_33 : decode cX10_fours 33 = .ok (.iconst 4, 1) := by decide +kernel
theorem dX10_fours_34 : decode cX10_fours 34 = .ok (.if_icmp .ge 66, 3) := by decide +kernel
theorem dX10_fours_37 : decode cX10_fours 37 = .ok (.iconst 4, 1) := by decide +kernel
theorem dX10_fours_38 : decode cX10_fours 38 = .ok (.iload_n 2, 1) := by decide +kernel
theorem dX10_fours_39 : decode cX10_fours 39 = .ok (.imul, 1) := by decide +kernel
theorem dX10_fours_40 : decode cX10_fours 40 = .ok (.iload 6, 2) := by decide +kernel
theorem dX10_fours_42 : decode cX10_fours 42 = .ok (.iadd, 1) := by decide +kernel
theorem dX10_fours_43 : decode cX10_fours 43 = .ok (.bipush 26, 2) := by decide +kernel
theorem dX10_fours_45 : decode cX10_fours 45 = .ok (.if_icmp .ge 17, 3) := by decide +kernel
theorem dX10_fours_48 : decode cX10_fours 48 = .ok (.aload_n 0, 1) := by decide +kernel
theorem dX10_fours_49 : decode cX10_fours 49 = .ok (.getfield 31, 3) := by decide +kernel
theorem dX10_fours_52 : decode cX10_fours 52 = .ok (.iconst 4, 1) := by decide +kernel
theorem dX10_fours_53 : decode cX10_fours 53 = .ok (.iload_n 2, 1) := by decide +kernel
theorem dX10_fours_54 : decode cX10_fours 54 = .ok (.imul, 1) := by decide +kernel
theorem dX10_fours_55 : decode cX10_fours 55 = .ok (.iload 6, 2) := by decide +kernel
theorem dX10_fours_57 : decode cX10_fours 57 = .ok (.iadd, 1) := by decide +kernel
theorem dX10_fours_58 : decode cX10_fours 58 = .ok (.iaload, 1) := by decide +kernel
theorem dX10_fours_59 : decode cX10_fours 59 = .ok (.goto 4, 3) := by decide +kernel
theorem dX10_fours_62 : decode cX10_fours 62 = .ok (.iconst 0, 1) := by decide +kernel
theorem dX10_fours_63 : decode cX10_fours 63 = .ok (.istore 7, 2) := by decide +kernel
theorem dX10_fours_65 : decode cX10_fours 65 = .ok (.iload 5, 2) := by decide +kernel
theorem dX10_fours_67 : decode cX10_fours 67 = .ok (.ifCond .eq 24, 3) := by decide +kernel
theorem dX10_fours_70 : decode cX10_fours 70 = .ok (.iload 7, 2) := by decide +kernel
theorem dX10_fours_72 : decode cX10_fours 72 = .ok (.aload_n 0, 1) := by decide +kernel
theorem dX10_fours_73 : decode cX10_fours 73 = .ok (.getfield 31, 3) := by decide +kernel
theorem dX10_fours_76 : decode cX10_fours 76 = .ok (.iconst 4, 1) := by decide +kernel
theorem dX10_fours_77 : decode cX10_fours 77 = .ok (.iload 4, 2) := by decide +kernel
theorem dX10_fours_79 : decode cX10_fours 79 = .ok (.imul, 1) := by decide +kernel
theorem dX10_fours_80 : decode cX10_fours 80 = .ok (.iload 6, 2) := by decide +kernel
theorem dX10_fours_82 : decode cX10_fours 82 = .ok (.iadd, 1) := by decide +kernel
theorem dX10_fours_83 : decode cX10_fours 83 = .ok (.iaload, 1) := by decide +kernel
theorem dX10_fours_84 : decode cX10_fours 84 = .ok (.if_icmp .ne 7, 3) := by decide +kernel
theorem dX10_fours_87 : decode cX10_fours 87 = .ok (.iconst 1, 1) := by decide +kernel
theorem dX10_fours_88 : decode cX10_fours 88 = .ok (.goto 4, 3) := by decide +kernel
theorem dX10_fours_91 : decode cX10_fours 91 = .ok (.iconst 0, 1) := by decide +kernel
theorem dX10_fours_92 : decode cX10_fours 92 = .ok (.istore 5, 2) := by decide +kernel
theorem dX10_fours_94 : decode cX10_fours 94 = .ok (.iinc 6 1, 3) := by decide +kernel
theorem dX10_fours_97 : decode cX10_fours 97 = .ok (.goto (-66), 3) := by decide +kernel
theorem dX10_fours_100 : decode cX10_fours 100 = .ok (.iload 5, 2) := by decide +kernel
theorem dX10_fours_102 : decode cX10_fours 102 = .ok (.ifCond .ne 7, 3) := by decide +kernel
theorem dX10_fours_105 : decode cX10_fours 105 = .ok (.iconst 1, 1) := by decide +kernel
theorem dX10_fours_106 : decode cX10_fours 106 = .ok (.goto 4, 3) := by decide +kernel
theorem dX10_fours_109 : decode cX10_fours 109 = .ok (.iconst 0, 1) := by decide +kernel
theorem dX10_fours_110 : decode cX10_fours 110 = .ok (.istore_n 3, 1) := by decide +kernel
theorem dX10_fours_111 : decode cX10_fours 111 = .ok (.iinc 4 1, 3) := by decide +kernel
theorem dX10_fours_114 : decode cX10_fours 114 = .ok (.goto (-99), 3) := by decide +kernel
theorem dX10_fours_117 : decode cX10_fours 117 = .ok (.iload_n 1, 1) := by decide +kernel
theorem dX10_fours_118 : decode cX10_fours 118 = .ok (.iload_n 3, 1) := by decide +kernel
theorem dX10_fours_119 : decode cX10_fours 119 = .ok (.ifCond .eq 7, 3) := by decide +kernel
theorem dX10_fours_122 : decode cX10_fours 122 = .ok (.iconst 1, 1) := by decide +kernel
theorem dX10_fours_123 : decode cX10_fours 123 = .ok (.goto 4, 3) := by decide +kernel
theorem dX10_fours_126 : decode cX10_fours 126 = .ok (.iconst 0, 1) := by decide +kernel
theorem dX10_fours_127 : decode cX10_fours 127 = .ok (.iadd, 1) := by decide +kernel
theorem dX10_fours_128 : decode cX10_fours 128 = .ok (.istore_n 1, 1) := by decide +kernel
theorem dX10_fours_129 : decode cX10_fours 129 = .ok (.iinc 2 1, 3) := by decide +kernel
theorem dX10_fours_132 : decode cX10_fours 132 = .ok (.goto (-128), 3) := by decide +kernel
theorem dX10_fours_135 : decode cX10_fours 135 = .ok (.iload_n 1, 1) := by decide +kernel
theorem dX10_fours_136 : decode cX10_fours 136 = .ok (.ireturn, 1) := by decide +kernel
theorem dX10_knownPairs_0 : decode cX10_knownPairs 0 = .ok (.iconst 0, 1) := by decide +kernel
theorem dX10_knownPairs_1 : decode cX10_knownPairs 1 = .ok (.istore_n 1, 1) := by decide +kernel
theorem dX10_knownPairs_2 : decode cX10_knownPairs 2 = .ok (.iconst 0, 1) := by decide +kernel
theorem dX10_knownPairs_3 : decode cX10_knownPairs 3 = .ok (.istore_n 2, 1) := by decide +kernel
theorem dX10_knownPairs_4 : decode cX10_knownPairs 4 = .ok (.iload_n 2, 1) := by decide +kernel
theorem dX10_knownPairs_5 : decode cX10_knownPairs 5 = .ok (.bipush 6, 2) := by decide +kernel
theorem dX10_knownPairs_7 : decode cX10_knownPairs 7 = .ok (.if_icmp .ge 40, 3) := by decide +kernel
theorem dX10_knownPairs_10 : decode cX10_knownPairs 10 = .ok (.iconst 0, 1) := by decide +kernel
theorem dX10_knownPairs_11 : decode cX10_knownPairs 11 = .ok (.istore_n 3, 1) := by decide +kernel
theorem dX10_knownPairs_12 : decode cX10_knownPairs 12 = .ok (.iload_n 3, 1) := by decide +kernel
theorem dX10_knownPairs_13 : decode cX10_knownPairs 13 = .ok (.bipush 6, 2) := by decide +kernel
theorem dX10_knownPairs_15 : decode cX10_knownPairs 15 = .ok (.if_icmp .ge 26, 3) := by decide +kernel
theorem dX10_knownPairs_18 : decode cX10_knownPairs 18 = .ok (.iload_n 1, 1) := by decide +kernel
theorem dX10_knownPairs_19 : decode cX10_knownPairs 19 = .ok (.aload_n 0, 1) := by decide +kernel
theorem dX10_knownPairs_20 : decode cX10_knownPairs 20 = .ok (.iload_n 2, 1) := by decide +kernel
theorem dX10_knownPairs_21 : decode cX10_knownPairs 21 = .ok (.iload_n 3, 1) := by decide +kernel
theorem dX10_knownPairs_22 : decode cX10_knownPairs 22 = .ok (.invokevirtual 263, 3) := by decide +kernel
theorem dX10_knownPairs_25 : decode cX10_knownPairs 25 = .ok (.ifCond .eq 7, 3) := by decide +kernel
theorem dX10_knownPairs_28 : decode cX10_knownPairs 28 = .ok (.iconst 1, 1) := by decide +kernel
theorem dX10_knownPairs_29 : decode cX10_knownPairs 29 = .ok (.goto 4, 3) := by decide +kernel
theorem dX10_knownPairs_32 : decode cX10_knownPairs 32 = .ok (.iconst 0, 1) := by decide +kernel
theorem dX10_knownPairs_33 : decode cX10_knownPairs 33 = .ok (.iadd, 1) := by decide +kernel
theorem dX10_knownPairs_34 : decode cX10_knownPairs 34 = .ok (.istore_n 1, 1) := by decide +kernel
theorem dX10_knownPairs_35 : decode cX10_knownPairs 35 = .ok (.iinc 3 1, 3) := by decide +kernel
theorem dX10_knownPairs_38 : decode cX10_knownPairs 38 = .ok (.goto (-26), 3) := by decide +kernel
theorem dX10_knownPairs_41 : decode cX10_knownPairs 41 = .ok (.iinc 2 1, 3) := by decide +kernel
theorem dX10_knownPairs_44 : decode cX10_knownPairs 44 = .ok (.goto (-40), 3) := by decide +kernel
theorem dX10_knownPairs_47 : decode cX10_knownPairs 47 = .ok (.iload_n 1, 1) := by decide +kernel
theorem dX10_knownPairs_48 : decode cX10_knownPairs 48 = .ok (.ireturn, 1) := by decide +kernel
theorem dX10_farthest_0 : decode cX10_farthest 0 = .ok (.iconst 0, 1) := by decide +kernel
theorem dX10_farthest_1 : decode cX10_farthest 1 = .ok (.istore_n 1, 1) := by decide +kernel
theorem dX10_farthest_2 : decode cX10_farthest 2 = .ok (.iconst 0, 1) := by decide +kernel
theorem dX10_farthest_3 : decode cX10_farthest 3 = .ok (.istore_n 2, 1) := by decide +kernel
theorem dX10_farthest_4 : decode cX10_farthest 4 = .ok (.iload_n 2, 1) := by decide +kernel
theorem dX10_farthest_5 : decode cX10_farthest 5 = .ok (.aload_n 0, 1) := by decide +kernel
theorem dX10_farthest_6 : decode cX10_farthest 6 = .ok (.getfield 31, 3) := by decide +kernel
theorem dX10_farthest_9 : decode cX10_farthest 9 = .ok (.bipush 30, 2) := by decide +kernel
theorem dX10_farthest_11 : decode cX10_farthest 11 = .ok (.iaload, 1) := by decide +kernel
theorem dX10_farthest_12 : decode cX10_farthest 12 = .ok (.if_icmp .gt 21, 3) := by decide +kernel
theorem dX10_farthest_15 : decode cX10_farthest 15 = .ok (.iload_n 1, 1) := by decide +kernel
theorem dX10_farthest_16 : decode cX10_farthest 16 = .ok (.iload_n 2, 1) := by decide +kernel
theorem dX10_farthest_17 : decode cX10_farthest 17 = .ok (.aload_n 0, 1) := by decide +kernel
theorem dX10_farthest_18 : decode cX10_farthest 18 = .ok (.iload_n 2, 1) := by decide +kernel
theorem dX10_farthest_19 : decode cX10_farthest 19 = .ok (.invokevirtual 266, 3) := by decide +kernel
theorem dX10_farthest_22 : decode cX10_farthest 22 = .ok (.isub, 1) := by decide +kernel
theorem dX10_farthest_23 : decode cX10_farthest 23 = .ok (.invokestatic 269, 3) := by decide +kernel
theorem dX10_farthest_26 : decode cX10_farthest 26 = .ok (.istore_n 1, 1) := by decide +kernel
theorem dX10_farthest_27 : decode cX10_farthest 27 = .ok (.iinc 2 1, 3) := by decide +kernel
theorem dX10_farthest_30 : decode cX10_farthest 30 = .ok (.goto (-26), 3) := by decide +kernel
theorem dX10_farthest_33 : decode cX10_farthest 33 = .ok (.iload_n 1, 1) := by decide +kernel
theorem dX10_farthest_34 : decode cX10_farthest 34 = .ok (.ireturn, 1) := by decide +kernel
theorem dX10_machine_0 : decode cX10_machine 0 = .ok (.iload_n 1, 1) := by decide +kernel
theorem dX10_machine_1 : decode cX10_machine 1 = .ok (.i2l, 1) := by decide +kernel
theorem dX10_machine_2 : decode cX10_machine 2 = .ok (.lconst 0, 1) := by decide +kernel
theorem dX10_machine_3 : decode cX10_machine 3 = .ok (.ldc2_w 272, 3) := by decide +kernel
theorem dX10_machine_6 : decode cX10_machine 6 = .ok (.invokestatic 144, 3) := by decide +kernel
theorem dX10_machine_9 : decode cX10_machine 9 = .ok (.ifCond .ne 5, 3) := by decide +kernel
theorem dX10_machine_12 : decode cX10_machine 12 = .ok (.iconst (-1), 1) := by decide +kernel
theorem dX10_machine_13 : decode cX10_machine 13 = .ok (.ireturn, 1) := by decide +kernel
theorem dX10_machine_14 : decode cX10_machine 14 = .ok (.aload_n 0, 1) := by decide +kernel
theorem dX10_machine_15 : decode cX10_machine 15 = .ok (.invokevirtual 274, 3) := by decide +kernel
theorem dX10_machine_18 : decode cX10_machine 18 = .ok (.iload_n 1, 1) := by decide +kernel
theorem dX10_machine_19 : decode cX10_machine 19 = .ok (.ifCond .ne 10, 3) := by decide +kernel
theorem dX10_machine_22 : decode cX10_machine 22 = .ok (.aload_n 0, 1) := by decide +kernel
theorem dX10_machine_23 : decode cX10_machine 23 = .ok (.getfield 251, 3) := by decide +kernel
theorem dX10_machine_26 : decode cX10_machine 26 = .ok (.goto 43, 3) := by decide +kernel
theorem dX10_machine_29 : decode cX10_machine 29 = .ok (.iload_n 1, 1) := by decide +kernel
theorem dX10_machine_30 : decode cX10_machine 30 = .ok (.iconst 1, 1) := by decide +kernel
theorem dX10_machine_31 : decode cX10_machine 31 = .ok (.if_icmp .ne 10, 3) := by decide +kernel
theorem dX10_machine_34 : decode cX10_machine 34 = .ok (.aload_n 0, 1) := by decide +kernel
theorem dX10_machine_35 : decode cX10_machine 35 = .ok (.invokevirtual 277, 3) := by decide +kernel
theorem dX10_machine_38 : decode cX10_machine 38 = .ok (.goto 31, 3) := by decide +kernel
theorem dX10_machine_41 : decode cX10_machine 41 = .ok (.iload_n 1, 1) := by decide +kernel
theorem dX10_machine_42 : decode cX10_machine 42 = .ok (.iconst 2, 1) := by decide +kernel
theorem dX10_machine_43 : decode cX10_machine 43 = .ok (.if_icmp .ne 10, 3) := by decide +kernel
theorem dX10_machine_46 : decode cX10_machine 46 = .ok (.aload_n 0, 1) := by decide +kernel
theorem dX10_machine_47 : decode cX10_machine 47 = .ok (.invokevirtual 281, 3) := by decide +kernel
theorem dX10_machine_50 : decode cX10_machine 50 = .ok (.goto 19, 3) := by decide +kernel
theorem dX10_machine_53 : decode cX10_machine 53 = .ok (.iload_n 1, 1) := by decide +kernel
theorem dX10_machine_54 : decode cX10_machine 54 = .ok (.iconst 3, 1) := by decide +kernel
theorem dX10_machine_55 : decode cX10_machine 55 = .ok (.if_icmp .ne 10, 3) := by decide +kernel
theorem dX10_machine_58 : decode cX10_machine 58 = .ok (.aload_n 0, 1) := by decide +kernel
theorem dX10_machine_59 : decode cX10_machine 59 = .ok (.invokevirtual 284, 3) := by decide +kernel
theorem dX10_machine_62 : decode cX10_machine 62 = .ok (.goto 7, 3) := by decide +kernel
theorem dX10_machine_65 : decode cX10_machine 65 = .ok (.aload_n 0, 1) := by decide +kernel
theorem dX10_machine_66 : decode cX10_machine 66 = .ok (.invokevirtual 287, 3) := by decide +kernel
theorem dX10_machine_69 : decode cX10_machine 69 = .ok (.ireturn, 1) := by decide +kernel
theorem dX10_alike_0 : decode cX10_alike 0 = .ok (.iload_n 1, 1) := by decide +kernel
theorem dX10_alike_1 : decode cX10_alike 1 = .ok (.i2l, 1) := by decide +kernel
theorem dX10_alike_2 : decode cX10_alike 2 = .ok (.lconst 0, 1) := by decide +kernel
theorem dX10_alike_3 : decode cX10_alike 3 = .ok (.ldc2_w 225, 3) := by decide +kernel
theorem dX10_alike_6 : decode cX10_alike 6 = .ok (.invokestatic 144, 3) := by decide +kernel
theorem dX10_alike_9 : decode cX10_alike 9 = .ok (.ifCond .eq 15, 3) := by decide +kernel
theorem dX10_alike_12 : decode cX10_alike 12 = .ok (.iload_n 2, 1) := by decide +kernel
theorem dX10_alike_13 : decode cX10_alike 13 = .ok (.i2l, 1) := by decide +kernel
theorem dX10_alike_14 : decode cX10_alike 14 = .ok (.lconst 0, 1) := by decide +kernel
theorem dX10_alike_15 : decode cX10_alike 15 = .ok (.ldc2_w 225, 3) := by decide +kernel
theorem dX10_alike_18 : decode cX10_alike 18 = .ok (.invokestatic 144, 3) := by decide +kernel
theorem dX10_alike_21 : decode cX10_alike 21 = .ok (.ifCond .ne 5, 3) := by decide +kernel
theorem dX10_alike_24 : decode cX10_alike 24 = .ok (.iconst (-1), 1) := by decide +kernel
theorem dX10_alike_25 : decode cX10_alike 25 = .ok (.ireturn, 1) := by decide +kernel
theorem dX10_alike_26 : decode cX10_alike 26 = .ok (.aload_n 0, 1) := by decide +kernel
theorem dX10_alike_27 : decode cX10_alike 27 = .ok (.invokevirtual 274, 3) := by decide +kernel
theorem dX10_alike_30 : decode cX10_alike 30 = .ok (.aload_n 0, 1) := by decide +kernel
theorem dX10_alike_31 : decode cX10_alike 31 = .ok (.iload_n 1, 1) := by decide +kernel
theorem dX10_alike_32 : decode cX10_alike 32 = .ok (.invokevirtual 239, 3) := by decide +kernel
theorem dX10_alike_35 : decode cX10_alike 35 = .ok (.aload_n 0, 1) := by decide +kernel
theorem dX10_alike_36 : decode cX10_alike 36 = .ok (.iload_n 2, 1) := by decide +kernel
theorem dX10_alike_37 : decode cX10_alike 37 = .ok (.invokevirtual 239, 3) := by decide +kernel
theorem dX10_alike_40 : decode cX10_alike 40 = .ok (.if_icmp .ne 7, 3) := by decide +kernel
theorem dX10_alike_43 : decode cX10_alike 43 = .ok (.iconst 1, 1) := by decide +kernel
theorem dX10_alike_44 : decode cX10_alike 44 = .ok (.goto 4, 3) := by decide +kernel
theorem dX10_alike_47 : decode cX10_alike 47 = .ok (.iconst 0, 1) := by decide +kernel
theorem dX10_alike_48 : decode cX10_alike 48 = .ok (.istore_n 3, 1) := by decide +kernel
theorem dX10_alike_49 : decode cX10_alike 49 = .ok (.iconst 0, 1) := by decide +kernel
theorem dX10_alike_50 : decode cX10_alike 50 = .ok (.istore 4, 2) := by decide +kernel
theorem dX10_alike_52 : decode cX10_alike 52 = .ok (.iload 4, 2) := by decide +kernel
theorem dX10_alike_54 : decode cX10_alike 54 = .ok (.aload_n 0, 1) := by decide +kernel
theorem dX10_alike_55 : decode cX10_alike 55 = .ok (.getfield 251, 3) := by decide +kernel
theorem dX10_alike_58 : decode cX10_alike 58 = .ok (.if_icmp .ge 46, 3) := by decide +kernel
theorem dX10_alike_61 : decode cX10_alike 61 = .ok (.iload_n 3, 1) := by decide +kernel
theorem dX10_alike_62 : decode cX10_alike 62 = .ok (.ifCond .eq 42, 3) := by decide +kernel
theorem dX10_alike_65 : decode cX10_alike 65 = .ok (.aload_n 0, 1) := by decide +kernel
theorem dX10_alike_66 : decode cX10_alike 66 = .ok (.aload_n 0, 1) := by decide +kernel
theorem dX10_alike_67 : decode cX10_alike 67 = .ok (.getfield 57, 3) := by decide +kernel
theorem dX10_alike_70 : decode cX10_alike 70 = .ok (.iload 4, 2) := by decide +kernel
theorem dX10_alike_72 : decode cX10_alike 72 = .ok (.iaload, 1) := by decide +kernel
theorem dX10_alike_73 : decode cX10_alike 73 = .ok (.iload_n 1, 1) := by decide +kernel
theorem dX10_alike_74 : decode cX10_alike 74 = .ok (.invokevirtual 236, 3) := by decide +kernel
theorem dX10_alike_77 : decode cX10_alike 77 = .ok (.aload_n 0, 1) := by decide +kernel
theorem dX10_alike_78 : decode cX10_alike 78 = .ok (.aload_n 0, 1) := by decide +kernel
theorem dX10_alike_79 : decode cX10_alike 79 = .ok (.getfield 57, 3) := by decide +kernel
theorem dX10_alike_82 : decode cX10_alike 82 = .ok (.iload 4, 2) := by decide +kernel
theorem dX10_alike_84 : decode cX10_alike 84 = .ok (.iaload, 1) := by decide +kernel
theorem dX10_alike_85 : decode cX10_alike 85 = .ok (.iload_n 2, 1) := by decide +kernel
theorem dX10_alike_86 : decode cX10_alike 86 = .ok (.invokevirtual 236, 3) := by decide +kernel
theorem dX10_alike_89 : decode cX10_alike 89 = .ok (.if_icmp .ne 7, 3) := by decide +kernel
theorem dX10_alike_92 : decode cX10_alike 92 = .ok (.iconst 1, 1) := by decide +kernel
theorem dX10_alike_93 : decode cX10_alike 93 = .ok (.goto 4, 3) := by decide +kernel
theorem dX10_alike_96 : decode cX10_alike 96 = .ok (.iconst 0, 1) := by decide +kernel
theorem dX10_alike_97 : decode cX10_alike 97 = .ok (.istore_n 3, 1) := by decide +kernel
theorem dX10_alike_98 : decode cX10_alike 98 = .ok (.iinc 4 1, 3) := by decide +kernel
theorem dX10_alike_101 : decode cX10_alike 101 = .ok (.goto (-49), 3) := by decide +kernel
theorem dX10_alike_104 : decode cX10_alike 104 = .ok (.iload_n 3, 1) := by decide +kernel
theorem dX10_alike_105 : decode cX10_alike 105 = .ok (.ifCond .eq 7, 3) := by decide +kernel
theorem dX10_alike_108 : decode cX10_alike 108 = .ok (.iconst 1, 1) := by decide +kernel
theorem dX10_alike_109 : decode cX10_alike 109 = .ok (.goto 4, 3) := by decide +kernel
theorem dX10_alike_112 : decode cX10_alike 112 = .ok (.iconst 0, 1) := by decide +kernel
theorem dX10_alike_113 : decode cX10_alike 113 = .ok (.ireturn, 1) := by decide +kernel
theorem dX10_known__0 : decode cX10_known_ 0 = .ok (.iload_n 1, 1) := by decide +kernel
theorem dX10_known__1 : decode cX10_known_ 1 = .ok (.i2l, 1) := by decide +kernel
theorem dX10_known__2 : decode cX10_known_ 2 = .ok (.lconst 0, 1) := by decide +kernel
theorem dX10_known__3 : decode cX10_known_ 3 = .ok (.ldc2_w 225, 3) := by decide +kernel
theorem dX10_known__6 : decode cX10_known_ 6 = .ok (.invokestatic 144, 3) := by decide +kernel
theorem dX10_known__9 : decode cX10_known_ 9 = .ok (.ifCond .eq 15, 3) := by decide +kernel
theorem dX10_known__12 : decode cX10_known_ 12 = .ok (.iload_n 2, 1) := by decide +kernel
theorem dX10_known__13 : decode cX10_known_ 13 = .ok (.i2l, 1) := by decide +kernel
theorem dX10_known__14 : decode cX10_known_ 14 = .ok (.lconst 0, 1) := by decide +kernel
theorem dX10_known__15 : decode cX10_known_ 15 = .ok (.ldc2_w 225, 3) := by decide +kernel
theorem dX10_known__18 : decode cX10_known_ 18 = .ok (.invokestatic 144, 3) := by decide +kernel
theorem dX10_known__21 : decode cX10_known_ 21 = .ok (.ifCond .ne 5, 3) := by decide +kernel
theorem dX10_known__24 : decode cX10_known_ 24 = .ok (.iconst (-1), 1) := by decide +kernel
theorem dX10_known__25 : decode cX10_known_ 25 = .ok (.ireturn, 1) := by decide +kernel
theorem dX10_known__26 : decode cX10_known_ 26 = .ok (.aload_n 0, 1) := by decide +kernel
theorem dX10_known__27 : decode cX10_known_ 27 = .ok (.invokevirtual 274, 3) := by decide +kernel
theorem dX10_known__30 : decode cX10_known_ 30 = .ok (.aload_n 0, 1) := by decide +kernel
theorem dX10_known__31 : decode cX10_known_ 31 = .ok (.iload_n 1, 1) := by decide +kernel
theorem dX10_known__32 : decode cX10_known_ 32 = .ok (.iload_n 2, 1) := by decide +kernel
theorem dX10_known__33 : decode cX10_known_ 33 = .ok (.invokevirtual 263, 3) := by decide +kernel
theorem dX10_known__36 : decode cX10_known_ 36 = .ok (.ifCond .eq 7, 3) := by decide +kernel
theorem dX10_known__39 : decode cX10_known_ 39 = .ok (.iconst 1, 1) := by decide +kernel
theorem dX10_known__40 : decode cX10_known_ 40 = .ok (.goto 4, 3) := by decide +kernel
theorem dX10_known__43 : decode cX10_known_ 43 = .ok (.iconst 0, 1) := by decide +kernel
theorem dX10_known__44 : decode cX10_known_ 44 = .ok (.ireturn, 1) := by decide +kernel
theorem dX10_back_0 : decode cX10_back 0 = .ok (.aload_n 0, 1) := by decide +kernel
theorem dX10_back_1 : decode cX10_back 1 = .ok (.iload_n 1, 1) := by decide +kernel
theorem dX10_back_2 : decode cX10_back 2 = .ok (.invokevirtual 209, 3) := by decide +kernel
theorem dX10_back_5 : decode cX10_back 5 = .ok (.ifCond .eq 13, 3) := by decide +kernel
theorem dX10_back_8 : decode cX10_back 8 = .ok (.iload_n 2, 1) := by decide +kernel
theorem dX10_back_9 : decode cX10_back 9 = .ok (.i2l, 1) := by decide +kernel
theorem dX10_back_10 : decode cX10_back 10 = .ok (.lconst 0, 1) := by decide +kernel
theorem dX10_back_11 : decode cX10_back 11 = .ok (.lconst 1, 1) := by decide +kernel
theorem dX10_back_12 : decode cX10_back 12 = .ok (.invokestatic 144, 3) := by decide +kernel
theorem dX10_back_15 : decode cX10_back 15 = .ok (.ifCond .ne 5, 3) := by decide +kernel
theorem dX10_back_18 : decode cX10_back 18 = .ok (.iconst (-1), 1) := by decide +kernel
theorem dX10_back_19 : decode cX10_back 19 = .ok (.ireturn, 1) := by decide +kernel
theorem dX10_back_20 : decode cX10_back 20 = .ok (.aload_n 0, 1) := by decide +kernel
theorem dX10_back_21 : decode cX10_back 21 = .ok (.invokevirtual 274, 3) := by decide +kernel
theorem dX10_back_24 : decode cX10_back 24 = .ok (.aload_n 0, 1) := by decide +kernel
theorem dX10_back_25 : decode cX10_back 25 = .ok (.iload_n 1, 1) := by decide +kernel
theorem dX10_back_26 : decode cX10_back 26 = .ok (.invokevirtual 266, 3) := by decide +kernel
theorem dX10_back_29 : decode cX10_back 29 = .ok (.istore_n 3, 1) := by decide +kernel
theorem dX10_back_30 : decode cX10_back 30 = .ok (.iload_n 2, 1) := by decide +kernel
theorem dX10_back_31 : decode cX10_back 31 = .ok (.ifCond .ne 7, 3) := by decide +kernel
theorem dX10_back_34 : decode cX10_back 34 = .ok (.iload_n 3, 1) := by decide +kernel
theorem dX10_back_35 : decode cX10_back 35 = .ok (.goto 6, 3) := by decide +kernel
theorem dX10_back_38 : decode cX10_back 38 = .ok (.iload_n 1, 1) := by decide +kernel
theorem dX10_back_39 : decode cX10_back 39 = .ok (.iload_n 3, 1) := by decide +kernel
theorem dX10_back_40 : decode cX10_back 40 = .ok (.isub, 1) := by decide +kernel
theorem dX10_back_41 : decode cX10_back 41 = .ok (.ireturn, 1) := by decide +kernel
theorem dX10_idle_0 : decode cX10_idle 0 = .ok (.aload_n 0, 1) := by decide +kernel
theorem dX10_idle_1 : decode cX10_idle 1 = .ok (.iconst 0, 1) := by decide +kernel
theorem dX10_idle_2 : decode cX10_idle 2 = .ok (.invokevirtual 242, 3) := by decide +kernel
theorem dX10_idle_5 : decode cX10_idle 5 = .ok (.iconst 0, 1) := by decide +kernel
theorem dX10_idle_6 : decode cX10_idle 6 = .ok (.istore_n 1, 1) := by decide +kernel
theorem dX10_idle_7 : decode cX10_idle 7 = .ok (.iload_n 1, 1) := by decide +kernel
theorem dX10_idle_8 : decode cX10_idle 8 = .ok (.aload_n 0, 1) := by decide +kernel
theorem dX10_idle_9 : decode cX10_idle 9 = .ok (.getfield 31, 3) := by decide +kernel
theorem dX10_idle_12 : decode cX10_idle 12 = .ok (.bipush 30, 2) := by decide +kernel
theorem dX10_idle_14 : decode cX10_idle 14 = .ok (.iaload, 1) := by decide +kernel
theorem dX10_idle_15 : decode cX10_idle 15 = .ok (.if_icmp .gt 29, 3) := by decide +kernel
theorem dX10_idle_18 : decode cX10_idle 18 = .ok (.aload_n 0, 1) := by decide +kernel
theorem dX10_idle_19 : decode cX10_idle 19 = .ok (.getfield 54, 3) := by decide +kernel
theorem dX10_idle_22 : decode cX10_idle 22 = .ok (.iload_n 1, 1) := by decide +kernel
theorem dX10_idle_23 : decode cX10_idle 23 = .ok (.aload_n 0, 1) := by decide +kernel
theorem dX10_idle_24 : decode cX10_idle 24 = .ok (.getfield 51, 3) := by decide +kernel
theorem dX10_idle_27 : decode cX10_idle 27 = .ok (.iload_n 1, 1) := by decide +kernel
theorem dX10_idle_28 : decode cX10_idle 28 = .ok (.baload, 1) := by decide +kernel
theorem dX10_idle_29 : decode cX10_idle 29 = .ok (.ifCond .eq 7, 3) := by decide +kernel
theorem dX10_idle_32 : decode cX10_idle 32 = .ok (.iconst 1, 1) := by decide +kernel
theorem dX10_idle_33 : decode cX10_idle 33 = .ok (.goto 4, 3) := by decide +kernel
theorem dX10_idle_36 : decode cX10_idle 36 = .ok (.iconst 0, 1) := by decide +kernel
theorem dX10_idle_37 : decode cX10_idle 37 = .ok (.iastore, 1) := by decide +kernel
theorem dX10_idle_38 : decode cX10_idle 38 = .ok (.iinc 1 1, 3) := by decide +kernel
theorem dX10_idle_41 : decode cX10_idle 41 = .ok (.goto (-34), 3) := by decide +kernel
theorem dX10_idle_44 : decode cX10_idle 44 = .ok (.iconst 0, 1) := by decide +kernel
theorem dX10_idle_45 : decode cX10_idle 45 = .ok (.istore_n 1, 1) := by decide +kernel
theorem dX10_idle_46 : decode cX10_idle 46 = .ok (.iconst 0, 1) := by decide +kernel
theorem dX10_idle_47 : decode cX10_idle 47 = .ok (.istore_n 2, 1) := by decide +kernel
theorem dX10_idle_48 : decode cX10_idle 48 = .ok (.iload_n 2, 1) := by decide +kernel
theorem dX10_idle_49 : decode cX10_idle 49 = .ok (.aload_n 0, 1) := by decide +kernel
theorem dX10_idle_50 : decode cX10_idle 50 = .ok (.getfield 118, 3) := by decide +kernel
theorem dX10_idle_53 : decode cX10_idle 53 = .ok (.if_icmp .ge 94, 3) := by decide +kernel
theorem dX10_idle_56 : decode cX10_idle 56 = .ok (.aload_n 0, 1) := by decide +kernel
theorem dX10_idle_57 : decode cX10_idle 57 = .ok (.iconst 1, 1) := by decide +kernel
theorem dX10_idle_58 : decode cX10_idle 58 = .ok (.iload_n 2, 1) := by decide +kernel
theorem dX10_idle_59 : decode cX10_idle 59 = .ok (.ishl, 1) := by decide +kernel
theorem dX10_idle_60 : decode cX10_idle 60 = .ok (.putfield 230, 3) := by decide +kernel
theorem dX10_idle_63 : decode cX10_idle 63 = .ok (.aload_n 0, 1) := by decide +kernel
theorem dX10_idle_64 : decode cX10_idle 64 = .ok (.iconst 0, 1) := by decide +kernel
theorem dX10_idle_65 : decode cX10_idle 65 = .ok (.invokevirtual 242, 3) := by decide +kernel
theorem dX10_idle_68 : decode cX10_idle 68 = .ok (.iconst 1, 1) := by decide +kernel
theorem dX10_idle_69 : decode cX10_idle 69 = .ok (.istore_n 3, 1) := by decide +kernel
theorem dX10_idle_70 : decode cX10_idle 70 = .ok (.iconst 0, 1) := by decide +kernel
theorem dX10_idle_71 : decode cX10_idle 71 = .ok (.istore 4, 2) := by decide +kernel
theorem dX10_idle_73 : decode cX10_idle 73 = .ok (.iload 4, 2) := by decide +kernel
theorem dX10_idle_75 : decode cX10_idle 75 = .ok (.aload_n 0, 1) := by decide +kernel
theorem dX10_idle_76 : decode cX10_idle 76 = .ok (.getfield 31, 3) := by decide +kernel
theorem dX10_idle_79 : decode cX10_idle 79 = .ok (.bipush 30, 2) := by decide +kernel
theorem dX10_idle_81 : decode cX10_idle 81 = .ok (.iaload, 1) := by decide +kernel
theorem dX10_idle_82 : decode cX10_idle 82 = .ok (.if_icmp .gt 45, 3) := by decide +kernel
theorem dX10_idle_85 : decode cX10_idle 85 = .ok (.iload_n 3, 1) := by decide +kernel
theorem dX10_idle_86 : decode cX10_idle 86 = .ok (.ifCond .eq 33, 3) := by decide +kernel
theorem dX10_idle_89 : decode cX10_idle 89 = .ok (.aload_n 0, 1) := by decide +kernel
theorem dX10_idle_90 : decode cX10_idle 90 = .ok (.getfield 51, 3) := by decide +kernel
theorem dX10_idle_93 : decode cX10_idle 93 = .ok (.iload 4, 2) := by decide +kernel
theorem dX10_idle_95 : decode cX10_idle 95 = .ok (.baload, 1) := by decide +kernel
theorem dX10_idle_96 : decode cX10_idle 96 = .ok (.aload_n 0, 1) := by decide +kernel
theorem dX10_idle_97 : decode cX10_idle 97 = .ok (.getfield 54, 3) := by decide +kernel
theorem dX10_idle_100 : decode cX10_idle 100 = .ok (.iload 4, 2) := by decide +kernel
theorem dX10_idle_102 : decode cX10_idle 102 = .ok (.iaload, 1) := by decide +kernel
theorem dX10_idle_103 : decode cX10_idle 103 = .ok (.iconst 1, 1) := by decide +kernel
theorem dX10_idle_104 : decode cX10_idle 104 = .ok (.if_icmp .ne 7, 3) := by decide +kernel
theorem dX10_idle_107 : decode cX10_idle 107 = .ok (.iconst 1, 1) := by decide +kernel
theorem dX10_idle_108 : decode cX10_idle 108 = .ok (.goto 4, 3) := by decide +kernel

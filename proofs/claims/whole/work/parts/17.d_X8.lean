theorem dX8_init_0 : decode cX8_init 0 = .ok (.aload_n 0, 1) := by decide +kernel
theorem dX8_init_1 : decode cX8_init 1 = .ok (.invokespecial 3, 3) := by decide +kernel
theorem dX8_init_4 : decode cX8_init 4 = .ok (.aload_n 0, 1) := by decide +kernel
theorem dX8_init_5 : decode cX8_init 5 = .ok (.sipush 1024, 3) := by decide +kernel
theorem dX8_init_8 : decode cX8_init 8 = .ok (.newarray .int, 2) := by decide +kernel
theorem dX8_init_10 : decode cX8_init 10 = .ok (.putfield 9, 3) := by decide +kernel
theorem dX8_init_13 : decode cX8_init 13 = .ok (.aload_n 0, 1) := by decide +kernel
theorem dX8_init_14 : decode cX8_init 14 = .ok (.sipush 1024, 3) := by decide +kernel
theorem dX8_init_17 : decode cX8_init 17 = .ok (.newarray .int, 2) := by decide +kernel
theorem dX8_init_19 : decode cX8_init 19 = .ok (.putfield 15, 3) := by decide +kernel
theorem dX8_init_22 : decode cX8_init 22 = .ok (.aload_n 0, 1) := by decide +kernel
theorem dX8_init_23 : decode cX8_init 23 = .ok (.sipush 1024, 3) := by decide +kernel
theorem dX8_init_26 : decode cX8_init 26 = .ok (.newarray .int, 2) := by decide +kernel
theorem dX8_init_28 : decode cX8_init 28 = .ok (.putfield 18, 3) := by decide +kernel
theorem dX8_init_31 : decode cX8_init 31 = .ok (.aload_n 0, 1) := by decide +kernel
theorem dX8_init_32 : decode cX8_init 32 = .ok (.sipush 6144, 3) := by decide +kernel
theorem dX8_init_35 : decode cX8_init 35 = .ok (.newarray .int, 2) := by decide +kernel
theorem dX8_init_37 : decode cX8_init 37 = .ok (.putfield 21, 3) := by decide +kernel
theorem dX8_init_40 : decode cX8_init 40 = .ok (.aload_n 0, 1) := by decide +kernel
theorem dX8_init_41 : decode cX8_init 41 = .ok (.bipush 6, 2) := by decide +kernel
theorem dX8_init_43 : decode cX8_init 43 = .ok (.newarray .int, 2) := by decide +kernel
theorem dX8_init_45 : decode cX8_init 45 = .ok (.putfield 24, 3) := by decide +kernel
theorem dX8_init_48 : decode cX8_init 48 = .ok (.aload_n 0, 1) := by decide +kernel
theorem dX8_init_49 : decode cX8_init 49 = .ok (.bipush 36, 2) := by decide +kernel
theorem dX8_init_51 : decode cX8_init 51 = .ok (.newarray .boolean, 2) := by decide +kernel
theorem dX8_init_53 : decode cX8_init 53 = .ok (.putfield 27, 3) := by decide +kernel
theorem dX8_init_56 : decode cX8_init 56 = .ok (.aload_n 0, 1) := by decide +kernel
theorem dX8_init_57 : decode cX8_init 57 = .ok (.new 31, 3) := by decide +kernel
theorem dX8_init_60 : decode cX8_init 60 = .ok (.dup, 1) := by decide +kernel
theorem dX8_init_61 : decode cX8_init 61 = .ok (.invokespecial 33, 3) := by decide +kernel
theorem dX8_init_64 : decode cX8_init 64 = .ok (.putfield 34, 3) := by decide +kernel
theorem dX8_init_67 : decode cX8_init 67 = .ok (.return_, 1) := by decide +kernel
theorem dX8_forget_0 : decode cX8_forget 0 = .ok (.aload_n 0, 1) := by decide +kernel
theorem dX8_forget_1 : decode cX8_forget 1 = .ok (.iconst 0, 1) := by decide +kernel
theorem dX8_forget_2 : decode cX8_forget 2 = .ok (.putfield 38, 3) := by decide +kernel
theorem dX8_forget_5 : decode cX8_forget 5 = .ok (.return_, 1) := by decide +kernel
theorem dX8_find_0 : decode cX8_find 0 = .ok (.aload_n 0, 1) := by decide +kernel
theorem dX8_find_1 : decode cX8_find 1 = .ok (.getfield 38, 3) := by decide +kernel
theorem dX8_find_4 : decode cX8_find 4 = .ok (.ifCond .eq 4, 3) := by decide +kernel
theorem dX8_find_7 : decode cX8_find 7 = .ok (.return_, 1) := by decide +kernel
theorem dX8_find_8 : decode cX8_find 8 = .ok (.aload_n 0, 1) := by decide +kernel
theorem dX8_find_9 : decode cX8_find 9 = .ok (.iconst 1, 1) := by decide +kernel
theorem dX8_find_10 : decode cX8_find 10 = .ok (.putfield 38, 3) := by decide +kernel
theorem dX8_find_13 : decode cX8_find 13 = .ok (.aload_n 0, 1) := by decide +kernel
theorem dX8_find_14 : decode cX8_find 14 = .ok (.iconst 0, 1) := by decide +kernel
theorem dX8_find_15 : decode cX8_find 15 = .ok (.putfield 42, 3) := by decide +kernel
theorem dX8_find_18 : decode cX8_find 18 = .ok (.aload_n 0, 1) := by decide +kernel
theorem dX8_find_19 : decode cX8_find 19 = .ok (.getfield 18, 3) := by decide +kernel
theorem dX8_find_22 : decode cX8_find 22 = .ok (.bipush (-4), 2) := by decide +kernel
theorem dX8_find_24 : decode cX8_find 24 = .ok (.invokestatic 46, 3) := by decide +kernel
theorem dX8_find_27 : decode cX8_find 27 = .ok (.iconst 0, 1) := by decide +kernel
theorem dX8_find_28 : decode cX8_find 28 = .ok (.istore_n 2, 1) := by decide +kernel
theorem dX8_find_29 : decode cX8_find 29 = .ok (.iload_n 2, 1) := by decide +kernel
theorem dX8_find_30 : decode cX8_find 30 = .ok (.bipush 6, 2) := by decide +kernel
theorem dX8_find_32 : decode cX8_find 32 = .ok (.if_icmp .ge 25, 3) := by decide +kernel
theorem dX8_find_35 : decode cX8_find 35 = .ok (.aload_n 0, 1) := by decide +kernel
theorem dX8_find_36 : decode cX8_find 36 = .ok (.getfield 24, 3) := by decide +kernel
theorem dX8_find_39 : decode cX8_find 39 = .ok (.iload_n 2, 1) := by decide +kernel
theorem dX8_find_40 : decode cX8_find 40 = .ok (.aload_n 0, 1) := by decide +kernel
theorem dX8_find_41 : decode cX8_find 41 = .ok (.aload_n 1, 1) := by decide +kernel
theorem dX8_find_42 : decode cX8_find 42 = .ok (.iload_n 2, 1) := by decide +kernel
theorem dX8_find_43 : decode cX8_find 43 = .ok (.invokevirtual 52, 3) := by decide +kernel
theorem dX8_find_46 : decode cX8_find 46 = .ok (.iconst 1, 1) := by decide +kernel
theorem dX8_find_47 : decode cX8_find 47 = .ok (.invokevirtual 58, 3) := by decide +kernel
theorem dX8_find_50 : decode cX8_find 50 = .ok (.iastore, 1) := by decide +kernel
theorem dX8_find_51 : decode cX8_find 51 = .ok (.iinc 2 1, 3) := by decide +kernel
theorem dX8_find_54 : decode cX8_find 54 = .ok (.goto (-25), 3) := by decide +kernel
theorem dX8_find_57 : decode cX8_find 57 = .ok (.iconst 0, 1) := by decide +kernel
theorem dX8_find_58 : decode cX8_find 58 = .ok (.istore_n 2, 1) := by decide +kernel
theorem dX8_find_59 : decode cX8_find 59 = .ok (.iload_n 2, 1) := by decide +kernel
theorem dX8_find_60 : decode cX8_find 60 = .ok (.aload_n 0, 1) := by decide +kernel
theorem dX8_find_61 : decode cX8_find 61 = .ok (.getfield 42, 3) := by decide +kernel
theorem dX8_find_64 : decode cX8_find 64 = .ok (.if_icmp .ge 77, 3) := by decide +kernel
theorem dX8_find_67 : decode cX8_find 67 = .ok (.iload_n 2, 1) := by decide +kernel
theorem dX8_find_68 : decode cX8_find 68 = .ok (.sipush 1024, 3) := by decide +kernel
theorem dX8_find_71 : decode cX8_find 71 = .ok (.if_icmp .ge 70, 3) := by decide +kernel
theorem dX8_find_74 : decode cX8_find 74 = .ok (.iconst 0, 1) := by decide +kernel
theorem dX8_find_75 : decode cX8_find 75 = .ok (.istore_n 3, 1) := by decide +kernel
theorem dX8_find_76 : decode cX8_find 76 = .ok (.iload_n 3, 1) := by decide +kernel
theorem dX8_find_77 : decode cX8_find 77 = .ok (.bipush 6, 2) := by decide +kernel
theorem dX8_find_79 : decode cX8_find 79 = .ok (.if_icmp .ge 56, 3) := by decide +kernel
theorem dX8_find_82 : decode cX8_find 82 = .ok (.aload_n 1, 1) := by decide +kernel
theorem dX8_find_83 : decode cX8_find 83 = .ok (.aload_n 0, 1) := by decide +kernel
theorem dX8_find_84 : decode cX8_find 84 = .ok (.getfield 9, 3) := by decide +kernel
theorem dX8_find_87 : decode cX8_find 87 = .ok (.iload_n 2, 1) := by decide +kernel
theorem dX8_find_88 : decode cX8_find 88 = .ok (.iaload, 1) := by decide +kernel
theorem dX8_find_89 : decode cX8_find 89 = .ok (.iload_n 3, 1) := by decide +kernel
theorem dX8_find_90 : decode cX8_find 90 = .ok (.invokevirtual 62, 3) := by decide +kernel
theorem dX8_find_93 : decode cX8_find 93 = .ok (.istore 4, 2) := by decide +kernel
theorem dX8_find_95 : decode cX8_find 95 = .ok (.aload_n 0, 1) := by decide +kernel
theorem dX8_find_96 : decode cX8_find 96 = .ok (.getfield 21, 3) := by decide +kernel
theorem dX8_find_99 : decode cX8_find 99 = .ok (.iload_n 2, 1) := by decide +kernel
theorem dX8_find_100 : decode cX8_find 100 = .ok (.bipush 6, 2) := by decide +kernel
theorem dX8_find_102 : decode cX8_find 102 = .ok (.imul, 1) := by decide +kernel
theorem dX8_find_103 : decode cX8_find 103 = .ok (.iload_n 3, 1) := by decide +kernel
theorem dX8_find_104 : decode cX8_find 104 = .ok (.iadd, 1) := by decide +kernel
theorem dX8_find_105 : decode cX8_find 105 = .ok (.iload 4, 2) := by decide +kernel
theorem dX8_find_107 : decode cX8_find 107 = .ok (.ifCond .ne 7, 3) := by decide +kernel
theorem dX8_find_110 : decode cX8_find 110 = .ok (.iconst (-1), 1) := by decide +kernel
theorem dX8_find_111 : decode cX8_find 111 = .ok (.goto 17, 3) := by decide +kernel
theorem dX8_find_114 : decode cX8_find 114 = .ok (.aload_n 0, 1) := by decide +kernel
theorem dX8_find_115 : decode cX8_find 115 = .ok (.iload 4, 2) := by decide +kernel
theorem dX8_find_117 : decode cX8_find 117 = .ok (.aload_n 0, 1) := by decide +kernel
theorem dX8_find_118 : decode cX8_find 118 = .ok (.getfield 15, 3) := by decide +kernel
theorem dX8_find_121 : decode cX8_find 121 = .ok (.iload_n 2, 1) := by decide +kernel
theorem dX8_find_122 : decode cX8_find 122 = .ok (.iaload, 1) := by decide +kernel
theorem dX8_find_123 : decode cX8_find 123 = .ok (.iconst 1, 1) := by decide +kernel
theorem dX8_find_124 : decode cX8_find 124 = .ok (.iadd, 1) := by decide +kernel
theorem dX8_find_125 : decode cX8_find 125 = .ok (.invokevirtual 58, 3) := by decide +kernel
theorem dX8_find_128 : decode cX8_find 128 = .ok (.iastore, 1) := by decide +kernel
theorem dX8_find_129 : decode cX8_find 129 = .ok (.iinc 3 1, 3) := by decide +kernel
theorem dX8_find_132 : decode cX8_find 132 = .ok (.goto (-56), 3) := by decide +kernel
theorem dX8_find_135 : decode cX8_find 135 = .ok (.iinc 2 1, 3) := by decide +kernel
theorem dX8_find_138 : decode cX8_find 138 = .ok (.goto (-79), 3) := by decide +kernel
theorem dX8_find_141 : decode cX8_find 141 = .ok (.aload_n 0, 1) := by decide +kernel
theorem dX8_find_142 : decode cX8_find 142 = .ok (.aload_n 0, 1) := by decide +kernel
theorem dX8_find_143 : decode cX8_find 143 = .ok (.getfield 34, 3) := by decide +kernel
theorem dX8_find_146 : decode cX8_find 146 = .ok (.aload_n 0, 1) := by decide +kernel
theorem dX8_find_147 : decode cX8_find 147 = .ok (.getfield 21, 3) := by decide +kernel
theorem dX8_find_150 : decode cX8_find 150 = .ok (.aload_n 0, 1) := by decide +kernel
theorem dX8_find_151 : decode cX8_find 151 = .ok (.getfield 42, 3) := by decide +kernel
theorem dX8_find_154 : decode cX8_find 154 = .ok (.invokevirtual 65, 3) := by decide +kernel
theorem dX8_find_157 : decode cX8_find 157 = .ok (.putfield 69, 3) := by decide +kernel
theorem dX8_find_160 : decode cX8_find 160 = .ok (.aload_n 0, 1) := by decide +kernel
theorem dX8_find_161 : decode cX8_find 161 = .ok (.invokevirtual 72, 3) := by decide +kernel
theorem dX8_find_164 : decode cX8_find 164 = .ok (.return_, 1) := by decide +kernel
theorem dX8_numberFor_0 : decode cX8_numberFor 0 = .ok (.iload_n 1, 1) := by decide +kernel
theorem dX8_numberFor_1 : decode cX8_numberFor 1 = .ok (.sipush 1023, 3) := by decide +kernel
theorem dX8_numberFor_4 : decode cX8_numberFor 4 = .ok (.iand, 1) := by decide +kernel
theorem dX8_numberFor_5 : decode cX8_numberFor 5 = .ok (.istore_n 3, 1) := by decide +kernel
theorem dX8_numberFor_6 : decode cX8_numberFor 6 = .ok (.aload_n 0, 1) := by decide +kernel
theorem dX8_numberFor_7 : decode cX8_numberFor 7 = .ok (.getfield 18, 3) := by decide +kernel
theorem dX8_numberFor_10 : decode cX8_numberFor 10 = .ok (.iload_n 3, 1) := by decide +kernel
theorem dX8_numberFor_11 : decode cX8_numberFor 11 = .ok (.iaload, 1) := by decide +kernel
theorem dX8_numberFor_12 : decode cX8_numberFor 12 = .ok (.bipush (-4), 2) := by decide +kernel
theorem dX8_numberFor_14 : decode cX8_numberFor 14 = .ok (.if_icmp .ne 53, 3) := by decide +kernel
theorem dX8_numberFor_17 : decode cX8_numberFor 17 = .ok (.aload_n 0, 1) := by decide +kernel
theorem dX8_numberFor_18 : decode cX8_numberFor 18 = .ok (.getfield 42, 3) := by decide +kernel
theorem dX8_numberFor_21 : decode cX8_numberFor 21 = .ok (.sipush 1024, 3) := by decide +kernel
theorem dX8_numberFor_24 : decode cX8_numberFor 24 = .ok (.if_icmp .ge 43, 3) := by decide +kernel
theorem dX8_numberFor_27 : decode cX8_numberFor 27 = .ok (.aload_n 0, 1) := by decide +kernel
theorem dX8_numberFor_28 : decode cX8_numberFor 28 = .ok (.getfield 9, 3) := by decide +kernel
theorem dX8_numberFor_31 : decode cX8_numberFor 31 = .ok (.aload_n 0, 1) := by decide +kernel
theorem dX8_numberFor_32 : decode cX8_numberFor 32 = .ok (.getfield 42, 3) := by decide +kernel
theorem dX8_numberFor_35 : decode cX8_numberFor 35 = .ok (.iload_n 3, 1) := by decide +kernel
theorem dX8_numberFor_36 : decode cX8_numberFor 36 = .ok (.iastore, 1) := by decide +kernel
theorem dX8_numberFor_37 : decode cX8_numberFor 37 = .ok (.aload_n 0, 1) := by decide +kernel
theorem dX8_numberFor_38 : decode cX8_numberFor 38 = .ok (.getfield 15, 3) := by decide +kernel
theorem dX8_numberFor_41 : decode cX8_numberFor 41 = .ok (.aload_n 0, 1) := by decide +kernel
theorem dX8_numberFor_42 : decode cX8_numberFor 42 = .ok (.getfield 42, 3) := by decide +kernel
theorem dX8_numberFor_45 : decode cX8_numberFor 45 = .ok (.iload_n 2, 1) := by decide +kernel
theorem dX8_numberFor_46 : decode cX8_numberFor 46 = .ok (.iastore, 1) := by decide +kernel
theorem dX8_numberFor_47 : decode cX8_numberFor 47 = .ok (.aload_n 0, 1) := by decide +kernel
theorem dX8_numberFor_48 : decode cX8_numberFor 48 = .ok (.getfield 18, 3) := by decide +kernel
theorem dX8_numberFor_51 : decode cX8_numberFor 51 = .ok (.iload_n 3, 1) := by decide +kernel
theorem dX8_numberFor_52 : decode cX8_numberFor 52 = .ok (.aload_n 0, 1) := by decide +kernel
theorem dX8_numberFor_53 : decode cX8_numberFor 53 = .ok (.getfield 42, 3) := by decide +kernel
theorem dX8_numberFor_56 : decode cX8_numberFor 56 = .ok (.iastore, 1) := by decide +kernel
theorem dX8_numberFor_57 : decode cX8_numberFor 57 = .ok (.aload_n 0, 1) := by decide +kernel
theorem dX8_numberFor_58 : decode cX8_numberFor 58 = .ok (.dup, 1) := by decide +kernel
theorem dX8_numberFor_59 : decode cX8_numberFor 59 = .ok (.getfield 42, 3) := by decide +kernel
theorem dX8_numberFor_62 : decode cX8_numberFor 62 = .ok (.iconst 1, 1) := by decide +kernel
theorem dX8_numberFor_63 : decode cX8_numberFor 63 = .ok (.iadd, 1) := by decide +kernel
theorem dX8_numberFor_64 : decode cX8_numberFor 64 = .ok (.putfield 42, 3) := by decide +kernel
theorem dX8_numberFor_67 : decode cX8_numberFor 67 = .ok (.aload_n 0, 1) := by decide +kernel
theorem dX8_numberFor_68 : decode cX8_numberFor 68 = .ok (.getfield 18, 3) := by decide +kernel
theorem dX8_numberFor_71 : decode cX8_numberFor 71 = .ok (.iload_n 3, 1) := by decide +kernel
theorem dX8_numberFor_72 : decode cX8_numberFor 72 = .ok (.iaload, 1) := by decide +kernel
theorem dX8_numberFor_73 : decode cX8_numberFor 73 = .ok (.ireturn, 1) := by decide +kernel
theorem dX8_findKnown_0 : decode cX8_findKnown 0 = .ok (.aload_n 0, 1) := by decide +kernel
theorem dX8_findKnown_1 : decode cX8_findKnown 1 = .ok (.iconst 0, 1) := by decide +kernel
theorem dX8_findKnown_2 : decode cX8_findKnown 2 = .ok (.putfield 75, 3) := by decide +kernel
theorem dX8_findKnown_5 : decode cX8_findKnown 5 = .ok (.iconst 0, 1) := by decide +kernel
theorem dX8_findKnown_6 : decode cX8_findKnown 6 = .ok (.istore_n 1, 1) := by decide +kernel
theorem dX8_findKnown_7 : decode cX8_findKnown 7 = .ok (.iload_n 1, 1) := by decide +kernel
theorem dX8_findKnown_8 : decode cX8_findKnown 8 = .ok (.bipush 6, 2) := by decide +kernel
theorem dX8_findKnown_10 : decode cX8_findKnown 10 = .ok (.if_icmp .ge 68, 3) := by decide +kernel
theorem dX8_findKnown_13 : decode cX8_findKnown 13 = .ok (.iconst 0, 1) := by decide +kernel
theorem dX8_findKnown_14 : decode cX8_findKnown 14 = .ok (.istore_n 2, 1) := by decide +kernel
theorem dX8_findKnown_15 : decode cX8_findKnown 15 = .ok (.iload_n 2, 1) := by decide +kernel
theorem dX8_findKnown_16 : decode cX8_findKnown 16 = .ok (.bipush 6, 2) := by decide +kernel
theorem dX8_findKnown_18 : decode cX8_findKnown 18 = .ok (.if_icmp .ge 54, 3) := by decide +kernel
theorem dX8_findKnown_21 : decode cX8_findKnown 21 = .ok (.aload_n 0, 1) := by decide +kernel
theorem dX8_findKnown_22 : decode cX8_findKnown 22 = .ok (.getfield 27, 3) := by decide +kernel
theorem dX8_findKnown_25 : decode cX8_findKnown 25 = .ok (.iload_n 1, 1) := by decide +kernel
theorem dX8_findKnown_26 : decode cX8_findKnown 26 = .ok (.bipush 6, 2) := by decide +kernel
theorem dX8_findKnown_28 : decode cX8_findKnown 28 = .ok (.imul, 1) := by decide +kernel
theorem dX8_findKnown_29 : decode cX8_findKnown 29 = .ok (.iload_n 2, 1) := by decide +kernel
theorem dX8_findKnown_30 : decode cX8_findKnown 30 = .ok (.iadd, 1) := by decide +kernel
theorem dX8_findKnown_31 : decode cX8_findKnown 31 = .ok (.aload_n 0, 1) := by decide +kernel
theorem dX8_findKnown_32 : decode cX8_findKnown 32 = .ok (.iload_n 1, 1) := by decide +kernel
theorem dX8_findKnown_33 : decode cX8_findKnown 33 = .ok (.iload_n 2, 1) := by decide +kernel
theorem dX8_findKnown_34 : decode cX8_findKnown 34 = .ok (.invokevirtual 78, 3) := by decide +kernel
theorem dX8_findKnown_37 : decode cX8_findKnown 37 = .ok (.bastore, 1) := by decide +kernel
theorem dX8_findKnown_38 : decode cX8_findKnown 38 = .ok (.aload_n 0, 1) := by decide +kernel
theorem dX8_findKnown_39 : decode cX8_findKnown 39 = .ok (.dup, 1) := by decide +kernel
theorem dX8_findKnown_40 : decode cX8_findKnown 40 = .ok (.getfield 75, 3) := by decide +kernel
theorem dX8_findKnown_43 : decode cX8_findKnown 43 = .ok (.aload_n 0, 1) := by decide +kernel
theorem dX8_findKnown_44 : decode cX8_findKnown 44 = .ok (.getfield 27, 3) := by decide +kernel
theorem dX8_findKnown_47 : decode cX8_findKnown 47 = .ok (.iload_n 1, 1) := by decide +kernel
theorem dX8_findKnown_48 : decode cX8_findKnown 48 = .ok (.bipush 6, 2) := by decide +kernel
theorem dX8_findKnown_50 : decode cX8_findKnown 50 = .ok (.imul, 1) := by decide +kernel
theorem dX8_findKnown_51 : decode cX8_findKnown 51 = .ok (.iload_n 2, 1) := by decide +kernel
theorem dX8_findKnown_52 : decode cX8_findKnown 52 = .ok (.iadd, 1) := by decide +kernel
theorem dX8_findKnown_53 : decode cX8_findKnown 53 = .ok (.baload, 1) := by decide +kernel
theorem dX8_findKnown_54 : decode cX8_findKnown 54 = .ok (.ifCond .eq 7, 3) := by decide +kernel
theorem dX8_findKnown_57 : decode cX8_findKnown 57 = .ok (.iconst 1, 1) := by decide +kernel
theorem dX8_findKnown_58 : decode cX8_findKnown 58 = .ok (.goto 4, 3) := by decide +kernel
theorem dX8_findKnown_61 : decode cX8_findKnown 61 = .ok (.iconst 0, 1) := by decide +kernel
theorem dX8_findKnown_62 : decode cX8_findKnown 62 = .ok (.iadd, 1) := by decide +kernel
theorem dX8_findKnown_63 : decode cX8_findKnown 63 = .ok (.putfield 75, 3) := by decide +kernel
theorem dX8_findKnown_66 : decode cX8_findKnown 66 = .ok (.iinc 2 1, 3) := by decide +kernel
theorem dX8_findKnown_69 : decode cX8_findKnown 69 = .ok (.goto (-54), 3) := by decide +kernel
theorem dX8_findKnown_72 : decode cX8_findKnown 72 = .ok (.iinc 1 1, 3) := by decide +kernel
theorem dX8_findKnown_75 : decode cX8_findKnown 75 = .ok (.goto (-68), 3) := by decide +kernel
theorem dX8_findKnown_78 : decode cX8_findKnown 78 = .ok (.return_, 1) := by decide +kernel
theorem dX8_leadTogether_0 : decode cX8_leadTogether 0 = .ok (.aload_n 0, 1) := by decide +kernel
theorem dX8_leadTogether_1 : decode cX8_leadTogether 1 = .ok (.aload_n 0, 1) := by decide +kernel
theorem dX8_leadTogether_2 : decode cX8_leadTogether 2 = .ok (.getfield 24, 3) := by decide +kernel
theorem dX8_leadTogether_5 : decode cX8_leadTogether 5 = .ok (.iload_n 1, 1) := by decide +kernel
theorem dX8_leadTogether_6 : decode cX8_leadTogether 6 = .ok (.iaload, 1) := by decide +kernel
theorem dX8_leadTogether_7 : decode cX8_leadTogether 7 = .ok (.iload_n 2, 1) := by decide +kernel
theorem dX8_leadTogether_8 : decode cX8_leadTogether 8 = .ok (.invokevirtual 82, 3) := by decide +kernel
theorem dX8_leadTogether_11 : decode cX8_leadTogether 11 = .ok (.istore_n 3, 1) := by decide +kernel
theorem dX8_leadTogether_12 : decode cX8_leadTogether 12 = .ok (.iconst 0, 1) := by decide +kernel
theorem dX8_leadTogether_13 : decode cX8_leadTogether 13 = .ok (.istore 4, 2) := by decide +kernel
theorem dX8_leadTogether_15 : decode cX8_leadTogether 15 = .ok (.iload 4, 2) := by decide +kernel
theorem dX8_leadTogether_17 : decode cX8_leadTogether 17 = .ok (.aload_n 0, 1) := by decide +kernel
theorem dX8_leadTogether_18 : decode cX8_leadTogether 18 = .ok (.getfield 42, 3) := by decide +kernel
theorem dX8_leadTogether_21 : decode cX8_leadTogether 21 = .ok (.if_icmp .ge 27, 3) := by decide +kernel
theorem dX8_leadTogether_24 : decode cX8_leadTogether 24 = .ok (.aload_n 0, 1) := by decide +kernel
theorem dX8_leadTogether_25 : decode cX8_leadTogether 25 = .ok (.aload_n 0, 1) := by decide +kernel
theorem dX8_leadTogether_26 : decode cX8_leadTogether 26 = .ok (.iload 4, 2) := by decide +kernel
theorem dX8_leadTogether_28 : decode cX8_leadTogether 28 = .ok (.iload_n 1, 1) := by decide +kernel
theorem dX8_leadTogether_29 : decode cX8_leadTogether 29 = .ok (.invokevirtual 82, 3) := by decide +kernel
theorem dX8_leadTogether_32 : decode cX8_leadTogether 32 = .ok (.iload_n 2, 1) := by decide +kernel
theorem dX8_leadTogether_33 : decode cX8_leadTogether 33 = .ok (.invokevirtual 82, 3) := by decide +kernel
theorem dX8_leadTogether_36 : decode cX8_leadTogether 36 = .ok (.iload_n 3, 1) := by decide +kernel
theorem dX8_leadTogether_37 : decode cX8_leadTogether 37 = .ok (.if_icmp .eq 5, 3) := by decide +kernel
theorem dX8_leadTogether_40 : decode cX8_leadTogether 40 = .ok (.iconst 0, 1) := by decide +kernel
theorem dX8_leadTogether_41 : decode cX8_leadTogether 41 = .ok (.ireturn, 1) := by decide +kernel
theorem dX8_leadTogether_42 : decode cX8_leadTogether 42 = .ok (.iinc 4 1, 3) := by decide +kernel
theorem dX8_leadTogether_45 : decode cX8_leadTogether 45 = .ok (.goto (-30), 3) := by decide +kernel
theorem dX8_leadTogether_48 : decode cX8_leadTogether 48 = .ok (.iconst 1, 1) := by decide +kernel
theorem dX8_leadTogether_49 : decode cX8_leadTogether 49 = .ok (.ireturn, 1) := by decide +kernel
theorem dX8_behind_0 : decode cX8_behind 0 = .ok (.aload_n 0, 1) := by decide +kernel
theorem dX8_behind_1 : decode cX8_behind 1 = .ok (.iload_n 1, 1) := by decide +kernel
theorem dX8_behind_2 : decode cX8_behind 2 = .ok (.iload_n 2, 1) := by decide +kernel
theorem dX8_behind_3 : decode cX8_behind 3 = .ok (.invokevirtual 85, 3) := by decide +kernel
theorem dX8_behind_6 : decode cX8_behind 6 = .ok (.istore_n 3, 1) := by decide +kernel
theorem dX8_behind_7 : decode cX8_behind 7 = .ok (.iload_n 3, 1) := by decide +kernel
theorem dX8_behind_8 : decode cX8_behind 8 = .ok (.iconst (-1), 1) := by decide +kernel
theorem dX8_behind_9 : decode cX8_behind 9 = .ok (.if_icmp .ne 12, 3) := by decide +kernel
theorem dX8_behind_12 : decode cX8_behind 12 = .ok (.aload_n 0, 1) := by decide +kernel
theorem dX8_behind_13 : decode cX8_behind 13 = .ok (.getfield 24, 3) := by decide +kernel
theorem dX8_behind_16 : decode cX8_behind 16 = .ok (.iload_n 2, 1) := by decide +kernel
theorem dX8_behind_17 : decode cX8_behind 17 = .ok (.iaload, 1) := by decide +kernel
theorem dX8_behind_18 : decode cX8_behind 18 = .ok (.goto 4, 3) := by decide +kernel
theorem dX8_behind_21 : decode cX8_behind 21 = .ok (.iload_n 3, 1) := by decide +kernel
theorem dX8_behind_22 : decode cX8_behind 22 = .ok (.ireturn, 1) := by decide +kernel
theorem dX8_within_0 : decode cX8_within 0 = .ok (.iload_n 1, 1) := by decide +kernel
theorem dX8_within_1 : decode cX8_within 1 = .ok (.ifCond .lt 32, 3) := by decide +kernel
theorem dX8_within_4 : decode cX8_within 4 = .ok (.iload_n 1, 1) := by decide +kernel
theorem dX8_within_5 : decode cX8_within 5 = .ok (.aload_n 0, 1) := by decide +kernel
theorem dX8_within_6 : decode cX8_within 6 = .ok (.getfield 42, 3) := by decide +kernel
theorem dX8_within_9 : decode cX8_within 9 = .ok (.if_icmp .ge 24, 3) := by decide +kernel
theorem dX8_within_12 : decode cX8_within 12 = .ok (.iload_n 2, 1) := by decide +kernel
theorem dX8_within_13 : decode cX8_within 13 = .ok (.invokestatic 88, 3) := by decide +kernel
theorem dX8_within_16 : decode cX8_within 16 = .ok (.ifCond .eq 17, 3) := by decide +kernel
theorem dX8_within_19 : decode cX8_within 19 = .ok (.aload_n 0, 1) := by decide +kernel
theorem dX8_within_20 : decode cX8_within 20 = .ok (.getfield 21, 3) := by decide +kernel
theorem dX8_within_23 : decode cX8_within 23 = .ok (.iload_n 1, 1) := by decide +kernel
theorem dX8_within_24 : decode cX8_within 24 = .ok (.bipush 6, 2) := by decide +kernel
theorem dX8_within_26 : decode cX8_within 26 = .ok (.imul, 1) := by decide +kernel
theorem dX8_within_27 : decode cX8_within 27 = .ok (.iload_n 2, 1) := by decide +kernel
theorem dX8_within_28 : decode cX8_within 28 = .ok (.iadd, 1) := by decide +kernel
theorem dX8_within_29 : decode cX8_within 29 = .ok (.iaload, 1) := by decide +kernel
theorem dX8_within_30 : decode cX8_within 30 = .ok (.goto 4, 3) := by decide +kernel
theorem dX8_within_33 : decode cX8_within 33 = .ok (.iconst (-1), 1) := by decide +kernel
theorem dX8_within_34 : decode cX8_within 34 = .ok (.ireturn, 1) := by decide +kernel
theorem dX8_number_0 : decode cX8_number 0 = .ok (.aload_n 0, 1) := by decide +kernel
theorem dX8_number_1 : decode cX8_number 1 = .ok (.getfield 42, 3) := by decide +kernel
theorem dX8_number_4 : decode cX8_number 4 = .ok (.ireturn, 1) := by decide +kernel
theorem dX8_unlikeNumber_0 : decode cX8_unlikeNumber 0 = .ok (.aload_n 0, 1) := by decide +kernel
theorem dX8_unlikeNumber_1 : decode cX8_unlikeNumber 1 = .ok (.getfield 69, 3) := by decide +kernel
theorem dX8_unlikeNumber_4 : decode cX8_unlikeNumber 4 = .ok (.ireturn, 1) := by decide +kernel
theorem dX8_knownNumber_0 : decode cX8_knownNumber 0 = .ok (.aload_n 0, 1) := by decide +kernel
theorem dX8_knownNumber_1 : decode cX8_knownNumber 1 = .ok (.getfield 75, 3) := by decide +kernel
theorem dX8_knownNumber_4 : decode cX8_knownNumber 4 = .ok (.ireturn, 1) := by decide +kernel
theorem dX8_isKnown_0 : decode cX8_isKnown 0 = .ok (.iload_n 1, 1) := by decide +kernel
theorem dX8_isKnown_1 : decode cX8_isKnown 1 = .ok (.invokestatic 88, 3) := by decide +kernel
theorem dX8_isKnown_4 : decode cX8_isKnown 4 = .ok (.ifCond .eq 28, 3) := by decide +kernel
theorem dX8_isKnown_7 : decode cX8_isKnown 7 = .ok (.iload_n 2, 1) := by decide +kernel
theorem dX8_isKnown_8 : decode cX8_isKnown 8 = .ok (.invokestatic 88, 3) := by decide +kernel
theorem dX8_isKnown_11 : decode cX8_isKnown 11 = .ok (.ifCond .eq 21, 3) := by decide +kernel
theorem dX8_isKnown_14 : decode cX8_isKnown 14 = .ok (.aload_n 0, 1) := by decide +kernel
theorem dX8_isKnown_15 : decode cX8_isKnown 15 = .ok (.getfield 27, 3) := by decide +kernel
theorem dX8_isKnown_18 : decode cX8_isKnown 18 = .ok (.iload_n 1, 1) := by decide +kernel
theorem dX8_isKnown_19 : decode cX8_isKnown 19 = .ok (.bipush 6, 2) := by decide +kernel
theorem dX8_isKnown_21 : decode cX8_isKnown 21 = .ok (.imul, 1) := by decide +kernel
theorem dX8_isKnown_22 : decode cX8_isKnown 22 = .ok (.iload_n 2, 1) := by decide +kernel
theorem dX8_isKnown_23 : decode cX8_isKnown 23 = .ok (.iadd, 1) := by decide +kernel
theorem dX8_isKnown_24 : decode cX8_isKnown 24 = .ok (.baload, 1) := by decide +kernel
theorem dX8_isKnown_25 : decode cX8_isKnown 25 = .ok (.ifCond .eq 7, 3) := by decide +kernel
theorem dX8_isKnown_28 : decode cX8_isKnown 28 = .ok (.iconst 1, 1) := by decide +kernel
theorem dX8_isKnown_29 : decode cX8_isKnown 29 = .ok (.goto 4, 3) := by decide +kernel
theorem dX8_isKnown_32 : decode cX8_isKnown 32 = .ok (.iconst 0, 1) := by decide +kernel
theorem dX8_isKnown_33 : decode cX8_isKnown 33 = .ok (.ireturn, 1) := by decide +kernel
theorem dX8_areAlike_0 : decode cX8_areAlike 0 = .ok (.iload_n 1, 1) := by decide +kernel
theorem dX8_areAlike_1 : decode cX8_areAlike 1 = .ok (.invokestatic 88, 3) := by decide +kernel
theorem dX8_areAlike_4 : decode cX8_areAlike 4 = .ok (.ifCond .eq 25, 3) := by decide +kernel
theorem dX8_areAlike_7 : decode cX8_areAlike 7 = .ok (.iload_n 2, 1) := by decide +kernel
theorem dX8_areAlike_8 : decode cX8_areAlike 8 = .ok (.invokestatic 88, 3) := by decide +kernel
theorem dX8_areAlike_11 : decode cX8_areAlike 11 = .ok (.ifCond .eq 18, 3) := by decide +kernel
theorem dX8_areAlike_14 : decode cX8_areAlike 14 = .ok (.aload_n 0, 1) := by decide +kernel
theorem dX8_areAlike_15 : decode cX8_areAlike 15 = .ok (.getfield 24, 3) := by decide +kernel
theorem dX8_areAlike_18 : decode cX8_areAlike 18 = .ok (.iload_n 1, 1) := by decide +kernel
theorem dX8_areAlike_19 : decode cX8_areAlike 19 = .ok (.iaload, 1) := by decide +kernel
theorem dX8_areAlike_20 : decode cX8_areAlike 20 = .ok (.aload_n 0, 1) := by decide +kernel
theorem dX8_areAlike_21 : decode cX8_areAlike 21 = .ok (.getfield 24, 3) := by decide +kernel
theorem dX8_areAlike_24 : decode cX8_areAlike 24 = .ok (.iload_n 2, 1) := by decide +kernel
theorem dX8_areAlike_25 : decode cX8_areAlike 25 = .ok (.iaload, 1) := by decide +kernel
theorem dX8_areAlike_26 : decode cX8_areAlike 26 = .ok (.if_icmp .eq 5, 3) := by decide +kernel
theorem dX8_areAlike_29 : decode cX8_areAlike 29 = .ok (.iconst 0, 1) := by decide +kernel
theorem dX8_areAlike_30 : decode cX8_areAlike 30 = .ok (.ireturn, 1) := by decide +kernel
theorem dX8_areAlike_31 : decode cX8_areAlike 31 = .ok (.iconst 0, 1) := by decide +kernel
theorem dX8_areAlike_32 : decode cX8_areAlike 32 = .ok (.istore_n 3, 1) := by decide +kernel
theorem dX8_areAlike_33 : decode cX8_areAlike 33 = .ok (.iload_n 3, 1) := by decide +kernel
theorem dX8_areAlike_34 : decode cX8_areAlike 34 = .ok (.aload_n 0, 1) := by decide +kernel
theorem dX8_areAlike_35 : decode cX8_areAlike 35 = .ok (.getfield 42, 3) := by decide +kernel
theorem dX8_areAlike_38 : decode cX8_areAlike 38 = .ok (.if_icmp .ge 26, 3) := by decide +kernel
theorem dX8_areAlike_41 : decode cX8_areAlike 41 = .ok (.aload_n 0, 1) := by decide +kernel
theorem dX8_areAlike_42 : decode cX8_areAlike 42 = .ok (.iload_n 3, 1) := by decide +kernel
theorem dX8_areAlike_43 : decode cX8_areAlike 43 = .ok (.iload_n 1, 1) := by decide +kernel
theorem dX8_areAlike_44 : decode cX8_areAlike 44 = .ok (.invokevirtual 85, 3) := by decide +kernel
theorem dX8_areAlike_47 : decode cX8_areAlike 47 = .ok (.aload_n 0, 1) := by decide +kernel
theorem dX8_areAlike_48 : decode cX8_areAlike 48 = .ok (.iload_n 3, 1) := by decide +kernel
theorem dX8_areAlike_49 : decode cX8_areAlike 49 = .ok (.iload_n 2, 1) := by decide +kernel
theorem dX8_areAlike_50 : decode cX8_areAlike 50 = .ok (.invokevirtual 85, 3) := by decide +kernel
theorem dX8_areAlike_53 : decode cX8_areAlike 53 = .ok (.if_icmp .eq 5, 3) := by decide +kernel
theorem dX8_areAlike_56 : decode cX8_areAlike 56 = .ok (.iconst 0, 1) := by decide +kernel
theorem dX8_areAlike_57 : decode cX8_areAlike 57 = .ok (.ireturn, 1) := by decide +kernel
theorem dX8_areAlike_58 : decode cX8_areAlike 58 = .ok (.iinc 3 1, 3) := by decide +kernel
theorem dX8_areAlike_61 : decode cX8_areAlike 61 = .ok (.goto (-28), 3) := by decide +kernel
theorem dX8_areAlike_64 : decode cX8_areAlike 64 = .ok (.iconst 1, 1) := by decide +kernel
theorem dX8_areAlike_65 : decode cX8_areAlike 65 = .ok (.ireturn, 1) := by decide +kernel
theorem dX8_fewestLettersTo_0 : decode cX8_fewestLettersTo 0 = .ok (.iconst 0, 1) := by decide +kernel
theorem dX8_fewestLettersTo_1 : decode cX8_fewestLettersTo 1 = .ok (.istore_n 2, 1) := by decide +kernel
theorem dX8_fewestLettersTo_2 : decode cX8_fewestLettersTo 2 = .ok (.iload_n 2, 1) := by decide +kernel
theorem dX8_fewestLettersTo_3 : decode cX8_fewestLettersTo 3 = .ok (.aload_n 0, 1) := by decide +kernel
theorem dX8_fewestLettersTo_4 : decode cX8_fewestLettersTo 4 = .ok (.getfield 42, 3) := by decide +kernel
theorem dX8_fewestLettersTo_7 : decode cX8_fewestLettersTo 7 = .ok (.if_icmp .ge 27, 3) := by decide +kernel
theorem dX8_fewestLettersTo_10 : decode cX8_fewestLettersTo 10 = .ok (.aload_n 0, 1) := by decide +kernel
theorem dX8_fewestLettersTo_11 : decode cX8_fewestLettersTo 11 = .ok (.getfield 9, 3) := by decide +kernel
theorem dX8_fewestLettersTo_14 : decode cX8_fewestLettersTo 14 = .ok (.iload_n 2, 1) := by decide +kernel
theorem dX8_fewestLettersTo_15 : decode cX8_fewestLettersTo 15 = .ok (.iaload, 1) := by decide +kernel
theorem dX8_fewestLettersTo_16 : decode cX8_fewestLettersTo 16 = .ok (.iload_n 1, 1) := by decide +kernel
theorem dX8_fewestLettersTo_17 : decode cX8_fewestLettersTo 17 = .ok (.iand, 1) := by decide +kernel
theorem dX8_fewestLettersTo_18 : decode cX8_fewestLettersTo 18 = .ok (.ifCond .eq 10, 3) := by decide +kernel
theorem dX8_fewestLettersTo_21 : decode cX8_fewestLettersTo 21 = .ok (.aload_n 0, 1) := by decide +kernel
theorem dX8_fewestLettersTo_22 : decode cX8_fewestLettersTo 22 = .ok (.getfield 15, 3) := by decide +kernel
theorem dX8_fewestLettersTo_25 : decode cX8_fewestLettersTo 25 = .ok (.iload_n 2, 1) := by decide +kernel
theorem dX8_fewestLettersTo_26 : decode cX8_fewestLettersTo 26 = .ok (.iaload, 1) := by decide +kernel
theorem dX8_fewestLettersTo_27 : decode cX8_fewestLettersTo 27 = .ok (.ireturn, 1) := by decide +kernel
theorem dX8_fewestLettersTo_28 : decode cX8_fewestLettersTo 28 = .ok (.iinc 2 1, 3) := by decide +kernel
theorem dX8_fewestLettersTo_31 : decode cX8_fewestLettersTo 31 = .ok (.goto (-29), 3) := by decide +kernel
theorem dX8_fewestLettersTo_34 : decode cX8_fewestLettersTo 34 = .ok (.bipush (-4), 2) := by decide +kernel
theorem dX8_fewestLettersTo_36 : decode cX8_fewestLettersTo 36 = .ok (.ireturn, 1) := by decide +kernel

theorem dX7_init_0 : decode cX7_init 0 = .ok (.aload_n 0, 1) := by decide +kernel
theorem dX7_init_1 : decode cX7_init 1 = .ok (.invokespecial 3, 3) := by decide +kernel
theorem dX7_init_4 : decode cX7_init 4 = .ok (.aload_n 0, 1) := by decide +kernel
theorem dX7_init_5 : decode cX7_init 5 = .ok (.sipush 200, 3) := by decide +kernel
theorem dX7_init_8 : decode cX7_init 8 = .ok (.newarray .int, 2) := by decide +kernel
theorem dX7_init_10 : decode cX7_init 10 = .ok (.putfield 9, 3) := by decide +kernel
theorem dX7_init_13 : decode cX7_init 13 = .ok (.return_, 1) := by decide +kernel
theorem dX7_length_0 : decode cX7_length 0 = .ok (.aload_n 0, 1) := by decide +kernel
theorem dX7_length_1 : decode cX7_length 1 = .ok (.getfield 15, 3) := by decide +kernel
theorem dX7_length_4 : decode cX7_length 4 = .ok (.ireturn, 1) := by decide +kernel
theorem dX7_rulesSeen_0 : decode cX7_rulesSeen 0 = .ok (.aload_n 0, 1) := by decide +kernel
theorem dX7_rulesSeen_1 : decode cX7_rulesSeen 1 = .ok (.getfield 19, 3) := by decide +kernel
theorem dX7_rulesSeen_4 : decode cX7_rulesSeen 4 = .ok (.ireturn, 1) := by decide +kernel
theorem dX7_add_0 : decode cX7_add 0 = .ok (.aload_n 0, 1) := by decide +kernel
theorem dX7_add_1 : decode cX7_add 1 = .ok (.getfield 15, 3) := by decide +kernel
theorem dX7_add_4 : decode cX7_add 4 = .ok (.sipush 200, 3) := by decide +kernel
theorem dX7_add_7 : decode cX7_add 7 = .ok (.if_icmp .ge 23, 3) := by decide +kernel
theorem dX7_add_10 : decode cX7_add 10 = .ok (.aload_n 0, 1) := by decide +kernel
theorem dX7_add_11 : decode cX7_add 11 = .ok (.getfield 9, 3) := by decide +kernel
theorem dX7_add_14 : decode cX7_add 14 = .ok (.aload_n 0, 1) := by decide +kernel
theorem dX7_add_15 : decode cX7_add 15 = .ok (.getfield 15, 3) := by decide +kernel
theorem dX7_add_18 : decode cX7_add 18 = .ok (.iload_n 1, 1) := by decide +kernel
theorem dX7_add_19 : decode cX7_add 19 = .ok (.iastore, 1) := by decide +kernel
theorem dX7_add_20 : decode cX7_add 20 = .ok (.aload_n 0, 1) := by decide +kernel
theorem dX7_add_21 : decode cX7_add 21 = .ok (.dup, 1) := by decide +kernel
theorem dX7_add_22 : decode cX7_add 22 = .ok (.getfield 15, 3) := by decide +kernel
theorem dX7_add_25 : decode cX7_add 25 = .ok (.iconst 1, 1) := by decide +kernel
theorem dX7_add_26 : decode cX7_add 26 = .ok (.iadd, 1) := by decide +kernel
theorem dX7_add_27 : decode cX7_add 27 = .ok (.putfield 15, 3) := by decide +kernel
theorem dX7_add_30 : decode cX7_add 30 = .ok (.return_, 1) := by decide +kernel
theorem dX7_clear_0 : decode cX7_clear 0 = .ok (.aload_n 0, 1) := by decide +kernel
theorem dX7_clear_1 : decode cX7_clear 1 = .ok (.iconst 0, 1) := by decide +kernel
theorem dX7_clear_2 : decode cX7_clear 2 = .ok (.putfield 15, 3) := by decide +kernel
theorem dX7_clear_5 : decode cX7_clear 5 = .ok (.return_, 1) := by decide +kernel
theorem dX7_firstFault_0 : decode cX7_firstFault 0 = .ok (.aload_n 0, 1) := by decide +kernel
theorem dX7_firstFault_1 : decode cX7_firstFault 1 = .ok (.iconst 0, 1) := by decide +kernel
theorem dX7_firstFault_2 : decode cX7_firstFault 2 = .ok (.putfield 19, 3) := by decide +kernel
theorem dX7_firstFault_5 : decode cX7_firstFault 5 = .ok (.aload_n 0, 1) := by decide +kernel
theorem dX7_firstFault_6 : decode cX7_firstFault 6 = .ok (.iconst 0, 1) := by decide +kernel
theorem dX7_firstFault_7 : decode cX7_firstFault 7 = .ok (.putfield 22, 3) := by decide +kernel
theorem dX7_firstFault_10 : decode cX7_firstFault 10 = .ok (.iconst 0, 1) := by decide +kernel
theorem dX7_firstFault_11 : decode cX7_firstFault 11 = .ok (.istore_n 1, 1) := by decide +kernel
theorem dX7_firstFault_12 : decode cX7_firstFault 12 = .ok (.iconst 0, 1) := by decide +kernel
theorem dX7_firstFault_13 : decode cX7_firstFault 13 = .ok (.istore_n 2, 1) := by decide +kernel
theorem dX7_firstFault_14 : decode cX7_firstFault 14 = .ok (.iload_n 2, 1) := by decide +kernel
theorem dX7_firstFault_15 : decode cX7_firstFault 15 = .ok (.sipush 200, 3) := by decide +kernel
theorem dX7_firstFault_18 : decode cX7_firstFault 18 = .ok (.if_icmp .ge 42, 3) := by decide +kernel
theorem dX7_firstFault_21 : decode cX7_firstFault 21 = .ok (.iload_n 1, 1) := by decide +kernel
theorem dX7_firstFault_22 : decode cX7_firstFault 22 = .ok (.aload_n 0, 1) := by decide +kernel
theorem dX7_firstFault_23 : decode cX7_firstFault 23 = .ok (.getfield 15, 3) := by decide +kernel
theorem dX7_firstFault_26 : decode cX7_firstFault 26 = .ok (.if_icmp .ge 34, 3) := by decide +kernel
theorem dX7_firstFault_29 : decode cX7_firstFault 29 = .ok (.aload_n 0, 1) := by decide +kernel
theorem dX7_firstFault_30 : decode cX7_firstFault 30 = .ok (.iload_n 1, 1) := by decide +kernel
theorem dX7_firstFault_31 : decode cX7_firstFault 31 = .ok (.invokevirtual 25, 3) := by decide +kernel
theorem dX7_firstFault_34 : decode cX7_firstFault 34 = .ok (.istore_n 3, 1) := by decide +kernel
theorem dX7_firstFault_35 : decode cX7_firstFault 35 = .ok (.iload_n 3, 1) := by decide +kernel
theorem dX7_firstFault_36 : decode cX7_firstFault 36 = .ok (.ifCond .lt 12, 3) := by decide +kernel
theorem dX7_firstFault_39 : decode cX7_firstFault 39 = .ok (.aload_n 0, 1) := by decide +kernel
theorem dX7_firstFault_40 : decode cX7_firstFault 40 = .ok (.iload_n 1, 1) := by decide +kernel
theorem dX7_firstFault_41 : decode cX7_firstFault 41 = .ok (.iload_n 3, 1) := by decide +kernel
theorem dX7_firstFault_42 : decode cX7_firstFault 42 = .ok (.invokevirtual 29, 3) := by decide +kernel
theorem dX7_firstFault_45 : decode cX7_firstFault 45 = .ok (.ifCond .ne 5, 3) := by decide +kernel
theorem dX7_firstFault_48 : decode cX7_firstFault 48 = .ok (.iload_n 1, 1) := by decide +kernel
theorem dX7_firstFault_49 : decode cX7_firstFault 49 = .ok (.ireturn, 1) := by decide +kernel
theorem dX7_firstFault_50 : decode cX7_firstFault 50 = .ok (.iload_n 3, 1) := by decide +kernel
theorem dX7_firstFault_51 : decode cX7_firstFault 51 = .ok (.iconst 1, 1) := by decide +kernel
theorem dX7_firstFault_52 : decode cX7_firstFault 52 = .ok (.iadd, 1) := by decide +kernel
theorem dX7_firstFault_53 : decode cX7_firstFault 53 = .ok (.istore_n 1, 1) := by decide +kernel
theorem dX7_firstFault_54 : decode cX7_firstFault 54 = .ok (.iinc 2 1, 3) := by decide +kernel
theorem dX7_firstFault_57 : decode cX7_firstFault 57 = .ok (.goto (-43), 3) := by decide +kernel
theorem dX7_firstFault_60 : decode cX7_firstFault 60 = .ok (.bipush (-4), 2) := by decide +kernel
theorem dX7_firstFault_62 : decode cX7_firstFault 62 = .ok (.ireturn, 1) := by decide +kernel
theorem dX7_tellItem_0 : decode cX7_tellItem 0 = .ok (.aload_n 0, 1) := by decide +kernel
theorem dX7_tellItem_1 : decode cX7_tellItem 1 = .ok (.iload_n 1, 1) := by decide +kernel
theorem dX7_tellItem_2 : decode cX7_tellItem 2 = .ok (.invokevirtual 25, 3) := by decide +kernel
theorem dX7_tellItem_5 : decode cX7_tellItem 5 = .ok (.istore 4, 2) := by decide +kernel
theorem dX7_tellItem_7 : decode cX7_tellItem 7 = .ok (.iload 4, 2) := by decide +kernel
theorem dX7_tellItem_9 : decode cX7_tellItem 9 = .ok (.ifCond .ge 8, 3) := by decide +kernel
theorem dX7_tellItem_12 : decode cX7_tellItem 12 = .ok (.aload_n 0, 1) := by decide +kernel
theorem dX7_tellItem_13 : decode cX7_tellItem 13 = .ok (.getfield 15, 3) := by decide +kernel
theorem dX7_tellItem_16 : decode cX7_tellItem 16 = .ok (.ireturn, 1) := by decide +kernel
theorem dX7_tellItem_17 : decode cX7_tellItem 17 = .ok (.aload_n 0, 1) := by decide +kernel
theorem dX7_tellItem_18 : decode cX7_tellItem 18 = .ok (.iload_n 1, 1) := by decide +kernel
theorem dX7_tellItem_19 : decode cX7_tellItem 19 = .ok (.invokevirtual 33, 3) := by decide +kernel
theorem dX7_tellItem_22 : decode cX7_tellItem 22 = .ok (.lookupswitch 101 #[(99, 26), (114, 70)], 26) := by decide +kernel
theorem dX7_tellItem_48 : decode cX7_tellItem 48 = .ok (.iload_n 1, 1) := by decide +kernel
theorem dX7_tellItem_49 : decode cX7_tellItem 49 = .ok (.iconst 3, 1) := by decide +kernel
theorem dX7_tellItem_50 : decode cX7_tellItem 50 = .ok (.iadd, 1) := by decide +kernel
theorem dX7_tellItem_51 : decode cX7_tellItem 51 = .ok (.istore 5, 2) := by decide +kernel
theorem dX7_tellItem_53 : decode cX7_tellItem 53 = .ok (.iload 5, 2) := by decide +kernel
theorem dX7_tellItem_55 : decode cX7_tellItem 55 = .ok (.iload 4, 2) := by decide +kernel
theorem dX7_tellItem_57 : decode cX7_tellItem 57 = .ok (.if_icmp .ge 32, 3) := by decide +kernel
theorem dX7_tellItem_60 : decode cX7_tellItem 60 = .ok (.aload_n 3, 1) := by decide +kernel
theorem dX7_tellItem_61 : decode cX7_tellItem 61 = .ok (.aload_n 0, 1) := by decide +kernel
theorem dX7_tellItem_62 : decode cX7_tellItem 62 = .ok (.iload 5, 2) := by decide +kernel
theorem dX7_tellItem_64 : decode cX7_tellItem 64 = .ok (.invokevirtual 33, 3) := by decide +kernel
theorem dX7_tellItem_67 : decode cX7_tellItem 67 = .ok (.bipush 97, 2) := by decide +kernel
theorem dX7_tellItem_69 : decode cX7_tellItem 69 = .ok (.isub, 1) := by decide +kernel
theorem dX7_tellItem_70 : decode cX7_tellItem 70 = .ok (.aload_n 0, 1) := by decide +kernel
theorem dX7_tellItem_71 : decode cX7_tellItem 71 = .ok (.iload_n 1, 1) := by decide +kernel
theorem dX7_tellItem_72 : decode cX7_tellItem 72 = .ok (.iconst 1, 1) := by decide +kernel
theorem dX7_tellItem_73 : decode cX7_tellItem 73 = .ok (.iadd, 1) := by decide +kernel
theorem dX7_tellItem_74 : decode cX7_tellItem 74 = .ok (.invokevirtual 33, 3) := by decide +kernel
theorem dX7_tellItem_77 : decode cX7_tellItem 77 = .ok (.bipush 48, 2) := by decide +kernel
theorem dX7_tellItem_79 : decode cX7_tellItem 79 = .ok (.isub, 1) := by decide +kernel
theorem dX7_tellItem_80 : decode cX7_tellItem 80 = .ok (.invokevirtual 36, 3) := by decide +kernel
theorem dX7_tellItem_83 : decode cX7_tellItem 83 = .ok (.iinc 5 1, 3) := by decide +kernel
theorem dX7_tellItem_86 : decode cX7_tellItem 86 = .ok (.goto (-33), 3) := by decide +kernel
theorem dX7_tellItem_89 : decode cX7_tellItem 89 = .ok (.goto 73, 3) := by decide +kernel
theorem dX7_tellItem_92 : decode cX7_tellItem 92 = .ok (.aload_n 3, 1) := by decide +kernel
theorem dX7_tellItem_93 : decode cX7_tellItem 93 = .ok (.aload_n 2, 1) := by decide +kernel
theorem dX7_tellItem_94 : decode cX7_tellItem 94 = .ok (.invokevirtual 42, 3) := by decide +kernel
theorem dX7_tellItem_97 : decode cX7_tellItem 97 = .ok (.aload_n 0, 1) := by decide +kernel
theorem dX7_tellItem_98 : decode cX7_tellItem 98 = .ok (.iload_n 1, 1) := by decide +kernel
theorem dX7_tellItem_99 : decode cX7_tellItem 99 = .ok (.iconst 1, 1) := by decide +kernel
theorem dX7_tellItem_100 : decode cX7_tellItem 100 = .ok (.iadd, 1) := by decide +kernel
theorem dX7_tellItem_101 : decode cX7_tellItem 101 = .ok (.invokevirtual 33, 3) := by decide +kernel
theorem dX7_tellItem_104 : decode cX7_tellItem 104 = .ok (.bipush 48, 2) := by decide +kernel
theorem dX7_tellItem_106 : decode cX7_tellItem 106 = .ok (.isub, 1) := by decide +kernel
theorem dX7_tellItem_107 : decode cX7_tellItem 107 = .ok (.invokevirtual 48, 3) := by decide +kernel
theorem dX7_tellItem_110 : decode cX7_tellItem 110 = .ok (.aload_n 2, 1) := by decide +kernel
theorem dX7_tellItem_111 : decode cX7_tellItem 111 = .ok (.aload_n 0, 1) := by decide +kernel
theorem dX7_tellItem_112 : decode cX7_tellItem 112 = .ok (.iload_n 1, 1) := by decide +kernel
theorem dX7_tellItem_113 : decode cX7_tellItem 113 = .ok (.iconst 3, 1) := by decide +kernel
theorem dX7_tellItem_114 : decode cX7_tellItem 114 = .ok (.iadd, 1) := by decide +kernel
theorem dX7_tellItem_115 : decode cX7_tellItem 115 = .ok (.iload 4, 2) := by decide +kernel
theorem dX7_tellItem_117 : decode cX7_tellItem 117 = .ok (.invokevirtual 51, 3) := by decide +kernel
theorem dX7_tellItem_120 : decode cX7_tellItem 120 = .ok (.goto 42, 3) := by decide +kernel
theorem dX7_tellItem_123 : decode cX7_tellItem 123 = .ok (.aload_n 3, 1) := by decide +kernel
theorem dX7_tellItem_124 : decode cX7_tellItem 124 = .ok (.invokevirtual 55, 3) := by decide +kernel
theorem dX7_tellItem_127 : decode cX7_tellItem 127 = .ok (.iload_n 1, 1) := by decide +kernel
theorem dX7_tellItem_128 : decode cX7_tellItem 128 = .ok (.iconst 1, 1) := by decide +kernel
theorem dX7_tellItem_129 : decode cX7_tellItem 129 = .ok (.iadd, 1) := by decide +kernel
theorem dX7_tellItem_130 : decode cX7_tellItem 130 = .ok (.istore 5, 2) := by decide +kernel
theorem dX7_tellItem_132 : decode cX7_tellItem 132 = .ok (.iload 5, 2) := by decide +kernel
theorem dX7_tellItem_134 : decode cX7_tellItem 134 = .ok (.iload 4, 2) := by decide +kernel
theorem dX7_tellItem_136 : decode cX7_tellItem 136 = .ok (.if_icmp .ge 26, 3) := by decide +kernel
theorem dX7_tellItem_139 : decode cX7_tellItem 139 = .ok (.aload_n 3, 1) := by decide +kernel
theorem dX7_tellItem_140 : decode cX7_tellItem 140 = .ok (.aload_n 3, 1) := by decide +kernel
theorem dX7_tellItem_141 : decode cX7_tellItem 141 = .ok (.invokevirtual 58, 3) := by decide +kernel
theorem dX7_tellItem_144 : decode cX7_tellItem 144 = .ok (.aload_n 0, 1) := by decide +kernel
theorem dX7_tellItem_145 : decode cX7_tellItem 145 = .ok (.iload 5, 2) := by decide +kernel
theorem dX7_tellItem_147 : decode cX7_tellItem 147 = .ok (.invokevirtual 33, 3) := by decide +kernel
theorem dX7_tellItem_150 : decode cX7_tellItem 150 = .ok (.bipush 97, 2) := by decide +kernel
theorem dX7_tellItem_152 : decode cX7_tellItem 152 = .ok (.isub, 1) := by decide +kernel
theorem dX7_tellItem_153 : decode cX7_tellItem 153 = .ok (.invokevirtual 60, 3) := by decide +kernel
theorem dX7_tellItem_156 : decode cX7_tellItem 156 = .ok (.iinc 5 1, 3) := by decide +kernel
theorem dX7_tellItem_159 : decode cX7_tellItem 159 = .ok (.goto (-27), 3) := by decide +kernel
theorem dX7_tellItem_162 : decode cX7_tellItem 162 = .ok (.iload 4, 2) := by decide +kernel
theorem dX7_tellItem_164 : decode cX7_tellItem 164 = .ok (.iconst 1, 1) := by decide +kernel
theorem dX7_tellItem_165 : decode cX7_tellItem 165 = .ok (.iadd, 1) := by decide +kernel
theorem dX7_tellItem_166 : decode cX7_tellItem 166 = .ok (.ireturn, 1) := by decide +kernel
theorem dX7_signAt_0 : decode cX7_signAt 0 = .ok (.iload_n 1, 1) := by decide +kernel
theorem dX7_signAt_1 : decode cX7_signAt 1 = .ok (.ifCond .lt 20, 3) := by decide +kernel
theorem dX7_signAt_4 : decode cX7_signAt 4 = .ok (.iload_n 1, 1) := by decide +kernel
theorem dX7_signAt_5 : decode cX7_signAt 5 = .ok (.aload_n 0, 1) := by decide +kernel
theorem dX7_signAt_6 : decode cX7_signAt 6 = .ok (.getfield 15, 3) := by decide +kernel
theorem dX7_signAt_9 : decode cX7_signAt 9 = .ok (.if_icmp .ge 12, 3) := by decide +kernel
theorem dX7_signAt_12 : decode cX7_signAt 12 = .ok (.aload_n 0, 1) := by decide +kernel
theorem dX7_signAt_13 : decode cX7_signAt 13 = .ok (.getfield 9, 3) := by decide +kernel
theorem dX7_signAt_16 : decode cX7_signAt 16 = .ok (.iload_n 1, 1) := by decide +kernel
theorem dX7_signAt_17 : decode cX7_signAt 17 = .ok (.iaload, 1) := by decide +kernel
theorem dX7_signAt_18 : decode cX7_signAt 18 = .ok (.goto 4, 3) := by decide +kernel
theorem dX7_signAt_21 : decode cX7_signAt 21 = .ok (.iconst 0, 1) := by decide +kernel
theorem dX7_signAt_22 : decode cX7_signAt 22 = .ok (.ireturn, 1) := by decide +kernel
theorem dX7_endOfItem_0 : decode cX7_endOfItem 0 = .ok (.iload_n 1, 1) := by decide +kernel
theorem dX7_endOfItem_1 : decode cX7_endOfItem 1 = .ok (.istore_n 2, 1) := by decide +kernel
theorem dX7_endOfItem_2 : decode cX7_endOfItem 2 = .ok (.iload_n 2, 1) := by decide +kernel
theorem dX7_endOfItem_3 : decode cX7_endOfItem 3 = .ok (.aload_n 0, 1) := by decide +kernel
theorem dX7_endOfItem_4 : decode cX7_endOfItem 4 = .ok (.getfield 15, 3) := by decide +kernel
theorem dX7_endOfItem_7 : decode cX7_endOfItem 7 = .ok (.if_icmp .ge 21, 3) := by decide +kernel
theorem dX7_endOfItem_10 : decode cX7_endOfItem 10 = .ok (.aload_n 0, 1) := by decide +kernel
theorem dX7_endOfItem_11 : decode cX7_endOfItem 11 = .ok (.iload_n 2, 1) := by decide +kernel
theorem dX7_endOfItem_12 : decode cX7_endOfItem 12 = .ok (.invokevirtual 33, 3) := by decide +kernel
theorem dX7_endOfItem_15 : decode cX7_endOfItem 15 = .ok (.bipush 59, 2) := by decide +kernel
theorem dX7_endOfItem_17 : decode cX7_endOfItem 17 = .ok (.if_icmp .ne 5, 3) := by decide +kernel
theorem dX7_endOfItem_20 : decode cX7_endOfItem 20 = .ok (.iload_n 2, 1) := by decide +kernel
theorem dX7_endOfItem_21 : decode cX7_endOfItem 21 = .ok (.ireturn, 1) := by decide +kernel
theorem dX7_endOfItem_22 : decode cX7_endOfItem 22 = .ok (.iinc 2 1, 3) := by decide +kernel
theorem dX7_endOfItem_25 : decode cX7_endOfItem 25 = .ok (.goto (-23), 3) := by decide +kernel
theorem dX7_endOfItem_28 : decode cX7_endOfItem 28 = .ok (.iconst (-1), 1) := by decide +kernel
theorem dX7_endOfItem_29 : decode cX7_endOfItem 29 = .ok (.ireturn, 1) := by decide +kernel
theorem dX7_isItem_0 : decode cX7_isItem 0 = .ok (.aload_n 0, 1) := by decide +kernel
theorem dX7_isItem_1 : decode cX7_isItem 1 = .ok (.iload_n 1, 1) := by decide +kernel
theorem dX7_isItem_2 : decode cX7_isItem 2 = .ok (.invokevirtual 33, 3) := by decide +kernel
theorem dX7_isItem_5 : decode cX7_isItem 5 = .ok (.lookupswitch 105 #[(99, 35), (114, 66), (115, 93)], 35) := by decide +kernel
theorem dX7_isItem_40 : decode cX7_isItem 40 = .ok (.aload_n 0, 1) := by decide +kernel
theorem dX7_isItem_41 : decode cX7_isItem 41 = .ok (.iload_n 1, 1) := by decide +kernel
theorem dX7_isItem_42 : decode cX7_isItem 42 = .ok (.iload_n 2, 1) := by decide +kernel
theorem dX7_isItem_43 : decode cX7_isItem 43 = .ok (.bipush 6, 2) := by decide +kernel
theorem dX7_isItem_45 : decode cX7_isItem 45 = .ok (.invokevirtual 63, 3) := by decide +kernel
theorem dX7_isItem_48 : decode cX7_isItem 48 = .ok (.ifCond .eq 21, 3) := by decide +kernel
theorem dX7_isItem_51 : decode cX7_isItem 51 = .ok (.aload_n 0, 1) := by decide +kernel
theorem dX7_isItem_52 : decode cX7_isItem 52 = .ok (.iload_n 1, 1) := by decide +kernel
theorem dX7_isItem_53 : decode cX7_isItem 53 = .ok (.iconst 3, 1) := by decide +kernel
theorem dX7_isItem_54 : decode cX7_isItem 54 = .ok (.iadd, 1) := by decide +kernel
theorem dX7_isItem_55 : decode cX7_isItem 55 = .ok (.iload_n 2, 1) := by decide +kernel
theorem dX7_isItem_56 : decode cX7_isItem 56 = .ok (.iconst 1, 1) := by decide +kernel
theorem dX7_isItem_57 : decode cX7_isItem 57 = .ok (.bipush 26, 2) := by decide +kernel
theorem dX7_isItem_59 : decode cX7_isItem 59 = .ok (.invokevirtual 67, 3) := by decide +kernel
theorem dX7_isItem_62 : decode cX7_isItem 62 = .ok (.ifCond .eq 7, 3) := by decide +kernel
theorem dX7_isItem_65 : decode cX7_isItem 65 = .ok (.iconst 1, 1) := by decide +kernel
theorem dX7_isItem_66 : decode cX7_isItem 66 = .ok (.goto 4, 3) := by decide +kernel
theorem dX7_isItem_69 : decode cX7_isItem 69 = .ok (.iconst 0, 1) := by decide +kernel
theorem dX7_isItem_70 : decode cX7_isItem 70 = .ok (.ireturn, 1) := by decide +kernel
theorem dX7_isItem_71 : decode cX7_isItem 71 = .ok (.aload_n 0, 1) := by decide +kernel
theorem dX7_isItem_72 : decode cX7_isItem 72 = .ok (.iload_n 1, 1) := by decide +kernel
theorem dX7_isItem_73 : decode cX7_isItem 73 = .ok (.iload_n 2, 1) := by decide +kernel
theorem dX7_isItem_74 : decode cX7_isItem 74 = .ok (.iconst 4, 1) := by decide +kernel
theorem dX7_isItem_75 : decode cX7_isItem 75 = .ok (.invokevirtual 63, 3) := by decide +kernel
theorem dX7_isItem_78 : decode cX7_isItem 78 = .ok (.ifCond .eq 18, 3) := by decide +kernel
theorem dX7_isItem_81 : decode cX7_isItem 81 = .ok (.aload_n 0, 1) := by decide +kernel
theorem dX7_isItem_82 : decode cX7_isItem 82 = .ok (.iload_n 1, 1) := by decide +kernel
theorem dX7_isItem_83 : decode cX7_isItem 83 = .ok (.iconst 3, 1) := by decide +kernel
theorem dX7_isItem_84 : decode cX7_isItem 84 = .ok (.iadd, 1) := by decide +kernel
theorem dX7_isItem_85 : decode cX7_isItem 85 = .ok (.iload_n 2, 1) := by decide +kernel
theorem dX7_isItem_86 : decode cX7_isItem 86 = .ok (.invokevirtual 71, 3) := by decide +kernel
theorem dX7_isItem_89 : decode cX7_isItem 89 = .ok (.ifCond .eq 7, 3) := by decide +kernel
theorem dX7_isItem_92 : decode cX7_isItem 92 = .ok (.iconst 1, 1) := by decide +kernel
theorem dX7_isItem_93 : decode cX7_isItem 93 = .ok (.goto 4, 3) := by decide +kernel
theorem dX7_isItem_96 : decode cX7_isItem 96 = .ok (.iconst 0, 1) := by decide +kernel
theorem dX7_isItem_97 : decode cX7_isItem 97 = .ok (.ireturn, 1) := by decide +kernel
theorem dX7_isItem_98 : decode cX7_isItem 98 = .ok (.aload_n 0, 1) := by decide +kernel
theorem dX7_isItem_99 : decode cX7_isItem 99 = .ok (.iload_n 1, 1) := by decide +kernel
theorem dX7_isItem_100 : decode cX7_isItem 100 = .ok (.iconst 1, 1) := by decide +kernel
theorem dX7_isItem_101 : decode cX7_isItem 101 = .ok (.iadd, 1) := by decide +kernel
theorem dX7_isItem_102 : decode cX7_isItem 102 = .ok (.iload_n 2, 1) := by decide +kernel
theorem dX7_isItem_103 : decode cX7_isItem 103 = .ok (.iconst 0, 1) := by decide +kernel
theorem dX7_isItem_104 : decode cX7_isItem 104 = .ok (.bipush 30, 2) := by decide +kernel
theorem dX7_isItem_106 : decode cX7_isItem 106 = .ok (.invokevirtual 67, 3) := by decide +kernel
theorem dX7_isItem_109 : decode cX7_isItem 109 = .ok (.ireturn, 1) := by decide +kernel
theorem dX7_isItem_110 : decode cX7_isItem 110 = .ok (.iconst 0, 1) := by decide +kernel
theorem dX7_isItem_111 : decode cX7_isItem 111 = .ok (.ireturn, 1) := by decide +kernel
theorem dX7_hasFigure_0 : decode cX7_hasFigure 0 = .ok (.aload_n 0, 1) := by decide +kernel
theorem dX7_hasFigure_1 : decode cX7_hasFigure 1 = .ok (.iload_n 1, 1) := by decide +kernel
theorem dX7_hasFigure_2 : decode cX7_hasFigure 2 = .ok (.iconst 1, 1) := by decide +kernel
theorem dX7_hasFigure_3 : decode cX7_hasFigure 3 = .ok (.iadd, 1) := by decide +kernel
theorem dX7_hasFigure_4 : decode cX7_hasFigure 4 = .ok (.invokevirtual 33, 3) := by decide +kernel
theorem dX7_hasFigure_7 : decode cX7_hasFigure 7 = .ok (.bipush 48, 2) := by decide +kernel
theorem dX7_hasFigure_9 : decode cX7_hasFigure 9 = .ok (.isub, 1) := by decide +kernel
theorem dX7_hasFigure_10 : decode cX7_hasFigure 10 = .ok (.istore 4, 2) := by decide +kernel
theorem dX7_hasFigure_12 : decode cX7_hasFigure 12 = .ok (.iload_n 1, 1) := by decide +kernel
theorem dX7_hasFigure_13 : decode cX7_hasFigure 13 = .ok (.iconst 2, 1) := by decide +kernel
theorem dX7_hasFigure_14 : decode cX7_hasFigure 14 = .ok (.iadd, 1) := by decide +kernel
theorem dX7_hasFigure_15 : decode cX7_hasFigure 15 = .ok (.iload_n 2, 1) := by decide +kernel
theorem dX7_hasFigure_16 : decode cX7_hasFigure 16 = .ok (.if_icmp .ge 30, 3) := by decide +kernel
theorem dX7_hasFigure_19 : decode cX7_hasFigure 19 = .ok (.iload 4, 2) := by decide +kernel
theorem dX7_hasFigure_21 : decode cX7_hasFigure 21 = .ok (.ifCond .lt 25, 3) := by decide +kernel
theorem dX7_hasFigure_24 : decode cX7_hasFigure 24 = .ok (.iload 4, 2) := by decide +kernel
theorem dX7_hasFigure_26 : decode cX7_hasFigure 26 = .ok (.iload_n 3, 1) := by decide +kernel
theorem dX7_hasFigure_27 : decode cX7_hasFigure 27 = .ok (.if_icmp .ge 19, 3) := by decide +kernel
theorem dX7_hasFigure_30 : decode cX7_hasFigure 30 = .ok (.aload_n 0, 1) := by decide +kernel
theorem dX7_hasFigure_31 : decode cX7_hasFigure 31 = .ok (.iload_n 1, 1) := by decide +kernel
theorem dX7_hasFigure_32 : decode cX7_hasFigure 32 = .ok (.iconst 2, 1) := by decide +kernel
theorem dX7_hasFigure_33 : decode cX7_hasFigure 33 = .ok (.iadd, 1) := by decide +kernel
theorem dX7_hasFigure_34 : decode cX7_hasFigure 34 = .ok (.invokevirtual 33, 3) := by decide +kernel
theorem dX7_hasFigure_37 : decode cX7_hasFigure 37 = .ok (.bipush 44, 2) := by decide +kernel
theorem dX7_hasFigure_39 : decode cX7_hasFigure 39 = .ok (.if_icmp .ne 7, 3) := by decide +kernel
theorem dX7_hasFigure_42 : decode cX7_hasFigure 42 = .ok (.iconst 1, 1) := by decide +kernel
theorem dX7_hasFigure_43 : decode cX7_hasFigure 43 = .ok (.goto 4, 3) := by decide +kernel
theorem dX7_hasFigure_46 : decode cX7_hasFigure 46 = .ok (.iconst 0, 1) := by decide +kernel
theorem dX7_hasFigure_47 : decode cX7_hasFigure 47 = .ok (.ireturn, 1) := by decide +kernel
theorem dX7_areLetters_0 : decode cX7_areLetters 0 = .ok (.iload_n 1, 1) := by decide +kernel
theorem dX7_areLetters_1 : decode cX7_areLetters 1 = .ok (.istore 5, 2) := by decide +kernel
theorem dX7_areLetters_3 : decode cX7_areLetters 3 = .ok (.iload 5, 2) := by decide +kernel
theorem dX7_areLetters_5 : decode cX7_areLetters 5 = .ok (.iload_n 2, 1) := by decide +kernel
theorem dX7_areLetters_6 : decode cX7_areLetters 6 = .ok (.if_icmp .ge 26, 3) := by decide +kernel
theorem dX7_areLetters_9 : decode cX7_areLetters 9 = .ok (.aload_n 0, 1) := by decide +kernel
theorem dX7_areLetters_10 : decode cX7_areLetters 10 = .ok (.iload 5, 2) := by decide +kernel
theorem dX7_areLetters_12 : decode cX7_areLetters 12 = .ok (.invokevirtual 33, 3) := by decide +kernel
theorem dX7_areLetters_15 : decode cX7_areLetters 15 = .ok (.bipush 97, 2) := by decide +kernel
theorem dX7_areLetters_17 : decode cX7_areLetters 17 = .ok (.isub, 1) := by decide +kernel
theorem dX7_areLetters_18 : decode cX7_areLetters 18 = .ok (.invokestatic 74, 3) := by decide +kernel
theorem dX7_areLetters_21 : decode cX7_areLetters 21 = .ok (.ifCond .ne 5, 3) := by decide +kernel
theorem dX7_areLetters_24 : decode cX7_areLetters 24 = .ok (.iconst 0, 1) := by decide +kernel
theorem dX7_areLetters_25 : decode cX7_areLetters 25 = .ok (.ireturn, 1) := by decide +kernel
theorem dX7_areLetters_26 : decode cX7_areLetters 26 = .ok (.iinc 5 1, 3) := by decide +kernel
theorem dX7_areLetters_29 : decode cX7_areLetters 29 = .ok (.goto (-26), 3) := by decide +kernel
theorem dX7_areLetters_32 : decode cX7_areLetters 32 = .ok (.iload_n 2, 1) := by decide +kernel
theorem dX7_areLetters_33 : decode cX7_areLetters 33 = .ok (.iload_n 1, 1) := by decide +kernel
theorem dX7_areLetters_34 : decode cX7_areLetters 34 = .ok (.isub, 1) := by decide +kernel
theorem dX7_areLetters_35 : decode cX7_areLetters 35 = .ok (.iload_n 3, 1) := by decide +kernel
theorem dX7_areLetters_36 : decode cX7_areLetters 36 = .ok (.if_icmp .lt 15, 3) := by decide +kernel
theorem dX7_areLetters_39 : decode cX7_areLetters 39 = .ok (.iload_n 2, 1) := by decide +kernel
theorem dX7_areLetters_40 : decode cX7_areLetters 40 = .ok (.iload_n 1, 1) := by decide +kernel
theorem dX7_areLetters_41 : decode cX7_areLetters 41 = .ok (.isub, 1) := by decide +kernel
theorem dX7_areLetters_42 : decode cX7_areLetters 42 = .ok (.iload 4, 2) := by decide +kernel
theorem dX7_areLetters_44 : decode cX7_areLetters 44 = .ok (.if_icmp .gt 7, 3) := by decide +kernel
theorem dX7_areLetters_47 : decode cX7_areLetters 47 = .ok (.iconst 1, 1) := by decide +kernel
theorem dX7_areLetters_48 : decode cX7_areLetters 48 = .ok (.goto 4, 3) := by decide +kernel
theorem dX7_areLetters_51 : decode cX7_areLetters 51 = .ok (.iconst 0, 1) := by decide +kernel
theorem dX7_areLetters_52 : decode cX7_areLetters 52 = .ok (.ireturn, 1) := by decide +kernel
theorem dX7_isNextRule_0 : decode cX7_isNextRule 0 = .ok (.aload_n 0, 1) := by decide +kernel
theorem dX7_isNextRule_1 : decode cX7_isNextRule 1 = .ok (.iload_n 1, 1) := by decide +kernel
theorem dX7_isNextRule_2 : decode cX7_isNextRule 2 = .ok (.iload_n 2, 1) := by decide +kernel
theorem dX7_isNextRule_3 : decode cX7_isNextRule 3 = .ok (.invokevirtual 78, 3) := by decide +kernel
theorem dX7_isNextRule_6 : decode cX7_isNextRule 6 = .ok (.ifCond .eq 11, 3) := by decide +kernel
theorem dX7_isNextRule_9 : decode cX7_isNextRule 9 = .ok (.aload_n 0, 1) := by decide +kernel
theorem dX7_isNextRule_10 : decode cX7_isNextRule 10 = .ok (.getfield 19, 3) := by decide +kernel
theorem dX7_isNextRule_13 : decode cX7_isNextRule 13 = .ok (.iconst 4, 1) := by decide +kernel
theorem dX7_isNextRule_14 : decode cX7_isNextRule 14 = .ok (.if_icmp .lt 5, 3) := by decide +kernel
theorem dX7_isNextRule_17 : decode cX7_isNextRule 17 = .ok (.iconst 0, 1) := by decide +kernel
theorem dX7_isNextRule_18 : decode cX7_isNextRule 18 = .ok (.ireturn, 1) := by decide +kernel
theorem dX7_isNextRule_19 : decode cX7_isNextRule 19 = .ok (.aload_n 0, 1) := by decide +kernel
theorem dX7_isNextRule_20 : decode cX7_isNextRule 20 = .ok (.iload_n 1, 1) := by decide +kernel
theorem dX7_isNextRule_21 : decode cX7_isNextRule 21 = .ok (.iload_n 2, 1) := by decide +kernel
theorem dX7_isNextRule_22 : decode cX7_isNextRule 22 = .ok (.invokevirtual 81, 3) := by decide +kernel
theorem dX7_isNextRule_25 : decode cX7_isNextRule 25 = .ok (.istore_n 3, 1) := by decide +kernel
theorem dX7_isNextRule_26 : decode cX7_isNextRule 26 = .ok (.aload_n 0, 1) := by decide +kernel
theorem dX7_isNextRule_27 : decode cX7_isNextRule 27 = .ok (.getfield 22, 3) := by decide +kernel
theorem dX7_isNextRule_30 : decode cX7_isNextRule 30 = .ok (.iload_n 3, 1) := by decide +kernel
theorem dX7_isNextRule_31 : decode cX7_isNextRule 31 = .ok (.iadd, 1) := by decide +kernel
theorem dX7_isNextRule_32 : decode cX7_isNextRule 32 = .ok (.bipush 10, 2) := by decide +kernel
theorem dX7_isNextRule_34 : decode cX7_isNextRule 34 = .ok (.if_icmp .le 5, 3) := by decide +kernel
theorem dX7_isNextRule_37 : decode cX7_isNextRule 37 = .ok (.iconst 0, 1) := by decide +kernel
theorem dX7_isNextRule_38 : decode cX7_isNextRule 38 = .ok (.ireturn, 1) := by decide +kernel
theorem dX7_isNextRule_39 : decode cX7_isNextRule 39 = .ok (.aload_n 0, 1) := by decide +kernel
theorem dX7_isNextRule_40 : decode cX7_isNextRule 40 = .ok (.dup, 1) := by decide +kernel
theorem dX7_isNextRule_41 : decode cX7_isNextRule 41 = .ok (.getfield 19, 3) := by decide +kernel
theorem dX7_isNextRule_44 : decode cX7_isNextRule 44 = .ok (.iconst 1, 1) := by decide +kernel
theorem dX7_isNextRule_45 : decode cX7_isNextRule 45 = .ok (.iadd, 1) := by decide +kernel
theorem dX7_isNextRule_46 : decode cX7_isNextRule 46 = .ok (.putfield 19, 3) := by decide +kernel
theorem dX7_isNextRule_49 : decode cX7_isNextRule 49 = .ok (.aload_n 0, 1) := by decide +kernel
theorem dX7_isNextRule_50 : decode cX7_isNextRule 50 = .ok (.dup, 1) := by decide +kernel
theorem dX7_isNextRule_51 : decode cX7_isNextRule 51 = .ok (.getfield 22, 3) := by decide +kernel
theorem dX7_isNextRule_54 : decode cX7_isNextRule 54 = .ok (.iload_n 3, 1) := by decide +kernel
theorem dX7_isNextRule_55 : decode cX7_isNextRule 55 = .ok (.iadd, 1) := by decide +kernel
theorem dX7_isNextRule_56 : decode cX7_isNextRule 56 = .ok (.putfield 22, 3) := by decide +kernel
theorem dX7_isNextRule_59 : decode cX7_isNextRule 59 = .ok (.iconst 1, 1) := by decide +kernel
theorem dX7_isNextRule_60 : decode cX7_isNextRule 60 = .ok (.ireturn, 1) := by decide +kernel
theorem dX7_isRow_0 : decode cX7_isRow 0 = .ok (.iconst 1, 1) := by decide +kernel
theorem dX7_isRow_1 : decode cX7_isRow 1 = .ok (.istore_n 3, 1) := by decide +kernel
theorem dX7_isRow_2 : decode cX7_isRow 2 = .ok (.iload_n 1, 1) := by decide +kernel
theorem dX7_isRow_3 : decode cX7_isRow 3 = .ok (.istore 4, 2) := by decide +kernel
theorem dX7_isRow_5 : decode cX7_isRow 5 = .ok (.iload 4, 2) := by decide +kernel
theorem dX7_isRow_7 : decode cX7_isRow 7 = .ok (.iload_n 2, 1) := by decide +kernel
theorem dX7_isRow_8 : decode cX7_isRow 8 = .ok (.if_icmp .ge 38, 3) := by decide +kernel
theorem dX7_isRow_11 : decode cX7_isRow 11 = .ok (.aload_n 0, 1) := by decide +kernel
theorem dX7_isRow_12 : decode cX7_isRow 12 = .ok (.iload 4, 2) := by decide +kernel
theorem dX7_isRow_14 : decode cX7_isRow 14 = .ok (.invokevirtual 33, 3) := by decide +kernel
theorem dX7_isRow_17 : decode cX7_isRow 17 = .ok (.invokestatic 85, 3) := by decide +kernel
theorem dX7_isRow_20 : decode cX7_isRow 20 = .ok (.istore 5, 2) := by decide +kernel
theorem dX7_isRow_22 : decode cX7_isRow 22 = .ok (.iload 5, 2) := by decide +kernel
theorem dX7_isRow_24 : decode cX7_isRow 24 = .ok (.ifCond .lt 7, 3) := by decide +kernel
theorem dX7_isRow_27 : decode cX7_isRow 27 = .ok (.iload_n 3, 1) := by decide +kernel
theorem dX7_isRow_28 : decode cX7_isRow 28 = .ok (.ifCond .ne 5, 3) := by decide +kernel
theorem dX7_isRow_31 : decode cX7_isRow 31 = .ok (.iconst 0, 1) := by decide +kernel
theorem dX7_isRow_32 : decode cX7_isRow 32 = .ok (.ireturn, 1) := by decide +kernel
theorem dX7_isRow_33 : decode cX7_isRow 33 = .ok (.iload_n 3, 1) := by decide +kernel
theorem dX7_isRow_34 : decode cX7_isRow 34 = .ok (.iload 5, 2) := by decide +kernel
theorem dX7_isRow_36 : decode cX7_isRow 36 = .ok (.iconst 1, 1) := by decide +kernel
theorem dX7_isRow_37 : decode cX7_isRow 37 = .ok (.isub, 1) := by decide +kernel
theorem dX7_isRow_38 : decode cX7_isRow 38 = .ok (.iadd, 1) := by decide +kernel
theorem dX7_isRow_39 : decode cX7_isRow 39 = .ok (.istore_n 3, 1) := by decide +kernel
theorem dX7_isRow_40 : decode cX7_isRow 40 = .ok (.iinc 4 1, 3) := by decide +kernel
theorem dX7_isRow_43 : decode cX7_isRow 43 = .ok (.goto (-38), 3) := by decide +kernel
theorem dX7_isRow_46 : decode cX7_isRow 46 = .ok (.iload_n 3, 1) := by decide +kernel
theorem dX7_isRow_47 : decode cX7_isRow 47 = .ok (.ifCond .ne 15, 3) := by decide +kernel
theorem dX7_isRow_50 : decode cX7_isRow 50 = .ok (.iload_n 2, 1) := by decide +kernel
theorem dX7_isRow_51 : decode cX7_isRow 51 = .ok (.iload_n 1, 1) := by decide +kernel
theorem dX7_isRow_52 : decode cX7_isRow 52 = .ok (.isub, 1) := by decide +kernel
theorem dX7_isRow_53 : decode cX7_isRow 53 = .ok (.bipush 16, 2) := by decide +kernel
theorem dX7_isRow_55 : decode cX7_isRow 55 = .ok (.if_icmp .gt 7, 3) := by decide +kernel
theorem dX7_isRow_58 : decode cX7_isRow 58 = .ok (.iconst 1, 1) := by decide +kernel
theorem dX7_isRow_59 : decode cX7_isRow 59 = .ok (.goto 4, 3) := by decide +kernel
theorem dX7_isRow_62 : decode cX7_isRow 62 = .ok (.iconst 0, 1) := by decide +kernel
theorem dX7_isRow_63 : decode cX7_isRow 63 = .ok (.ireturn, 1) := by decide +kernel
theorem dX7_placesIn_0 : decode cX7_placesIn 0 = .ok (.iconst 0, 1) := by decide +kernel
theorem dX7_placesIn_1 : decode cX7_placesIn 1 = .ok (.istore_n 3, 1) := by decide +kernel
theorem dX7_placesIn_2 : decode cX7_placesIn 2 = .ok (.iload_n 1, 1) := by decide +kernel
theorem dX7_placesIn_3 : decode cX7_placesIn 3 = .ok (.istore 4, 2) := by decide +kernel
theorem dX7_placesIn_5 : decode cX7_placesIn 5 = .ok (.iload 4, 2) := by decide +kernel
theorem dX7_placesIn_7 : decode cX7_placesIn 7 = .ok (.iload_n 2, 1) := by decide +kernel
theorem dX7_placesIn_8 : decode cX7_placesIn 8 = .ok (.if_icmp .ge 24, 3) := by decide +kernel
theorem dX7_placesIn_11 : decode cX7_placesIn 11 = .ok (.aload_n 0, 1) := by decide +kernel
theorem dX7_placesIn_12 : decode cX7_placesIn 12 = .ok (.iload 4, 2) := by decide +kernel
theorem dX7_placesIn_14 : decode cX7_placesIn 14 = .ok (.invokevirtual 33, 3) := by decide +kernel
theorem dX7_placesIn_17 : decode cX7_placesIn 17 = .ok (.invokestatic 85, 3) := by decide +kernel
theorem dX7_placesIn_20 : decode cX7_placesIn 20 = .ok (.ifCond .ne 6, 3) := by decide +kernel
theorem dX7_placesIn_23 : decode cX7_placesIn 23 = .ok (.iinc 3 1, 3) := by decide +kernel
theorem dX7_placesIn_26 : decode cX7_placesIn 26 = .ok (.iinc 4 1, 3) := by decide +kernel
theorem dX7_placesIn_29 : decode cX7_placesIn 29 = .ok (.goto (-24), 3) := by decide +kernel
theorem dX7_placesIn_32 : decode cX7_placesIn 32 = .ok (.iload_n 3, 1) := by decide +kernel
theorem dX7_placesIn_33 : decode cX7_placesIn 33 = .ok (.ireturn, 1) := by decide +kernel
theorem dX7_partsOf_0 : decode cX7_partsOf 0 = .ok (.iload_n 0, 1) := by decide +kernel
theorem dX7_partsOf_1 : decode cX7_partsOf 1 = .ok (.lookupswitch 65 #[(38, 59), (42, 61), (43, 61), (46, 63), (63, 61), (124, 59)], 59) := by decide +kernel
theorem dX7_partsOf_60 : decode cX7_partsOf 60 = .ok (.iconst 2, 1) := by decide +kernel
theorem dX7_partsOf_61 : decode cX7_partsOf 61 = .ok (.ireturn, 1) := by decide +kernel
theorem dX7_partsOf_62 : decode cX7_partsOf 62 = .ok (.iconst 1, 1) := by decide +kernel
theorem dX7_partsOf_63 : decode cX7_partsOf 63 = .ok (.ireturn, 1) := by decide +kernel
theorem dX7_partsOf_64 : decode cX7_partsOf 64 = .ok (.iconst 0, 1) := by decide +kernel
theorem dX7_partsOf_65 : decode cX7_partsOf 65 = .ok (.ireturn, 1) := by decide +kernel
theorem dX7_partsOf_66 : decode cX7_partsOf 66 = .ok (.iload_n 0, 1) := by decide +kernel
theorem dX7_partsOf_67 : decode cX7_partsOf 67 = .ok (.bipush 48, 2) := by decide +kernel
theorem dX7_partsOf_69 : decode cX7_partsOf 69 = .ok (.isub, 1) := by decide +kernel
theorem dX7_partsOf_70 : decode cX7_partsOf 70 = .ok (.invokestatic 88, 3) := by decide +kernel
theorem dX7_partsOf_73 : decode cX7_partsOf 73 = .ok (.ifCond .eq 7, 3) := by decide +kernel
theorem dX7_partsOf_76 : decode cX7_partsOf 76 = .ok (.iconst 0, 1) := by decide +kernel
theorem dX7_partsOf_77 : decode cX7_partsOf 77 = .ok (.goto 4, 3) := by decide +kernel
theorem dX7_partsOf_80 : decode cX7_partsOf 80 = .ok (.iconst (-1), 1) := by decide +kernel
theorem dX7_partsOf_81 : decode cX7_partsOf 81 = .ok (.ireturn, 1) := by decide +kernel

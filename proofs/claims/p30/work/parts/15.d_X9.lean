theorem dX9_init_0 : decode cX9_init 0 = .ok (.aload_n 0, 1) := by decide +kernel
theorem dX9_init_1 : decode cX9_init 1 = .ok (.invokespecial 3, 3) := by decide +kernel
theorem dX9_init_4 : decode cX9_init 4 = .ok (.aload_n 0, 1) := by decide +kernel
theorem dX9_init_5 : decode cX9_init 5 = .ok (.new 9, 3) := by decide +kernel
theorem dX9_init_8 : decode cX9_init 8 = .ok (.dup, 1) := by decide +kernel
theorem dX9_init_9 : decode cX9_init 9 = .ok (.invokespecial 11, 3) := by decide +kernel
theorem dX9_init_12 : decode cX9_init 12 = .ok (.putfield 12, 3) := by decide +kernel
theorem dX9_init_15 : decode cX9_init 15 = .ok (.aload_n 0, 1) := by decide +kernel
theorem dX9_init_16 : decode cX9_init 16 = .ok (.new 16, 3) := by decide +kernel
theorem dX9_init_19 : decode cX9_init 19 = .ok (.dup, 1) := by decide +kernel
theorem dX9_init_20 : decode cX9_init 20 = .ok (.invokespecial 18, 3) := by decide +kernel
theorem dX9_init_23 : decode cX9_init 23 = .ok (.putfield 19, 3) := by decide +kernel
theorem dX9_init_26 : decode cX9_init 26 = .ok (.aload_n 0, 1) := by decide +kernel
theorem dX9_init_27 : decode cX9_init 27 = .ok (.new 23, 3) := by decide +kernel
theorem dX9_init_30 : decode cX9_init 30 = .ok (.dup, 1) := by decide +kernel
theorem dX9_init_31 : decode cX9_init 31 = .ok (.invokespecial 25, 3) := by decide +kernel
theorem dX9_init_34 : decode cX9_init 34 = .ok (.putfield 26, 3) := by decide +kernel
theorem dX9_init_37 : decode cX9_init 37 = .ok (.aload_n 0, 1) := by decide +kernel
theorem dX9_init_38 : decode cX9_init 38 = .ok (.new 23, 3) := by decide +kernel
theorem dX9_init_41 : decode cX9_init 41 = .ok (.dup, 1) := by decide +kernel
theorem dX9_init_42 : decode cX9_init 42 = .ok (.invokespecial 25, 3) := by decide +kernel
theorem dX9_init_45 : decode cX9_init 45 = .ok (.putfield 30, 3) := by decide +kernel
theorem dX9_init_48 : decode cX9_init 48 = .ok (.aload_n 0, 1) := by decide +kernel
theorem dX9_init_49 : decode cX9_init 49 = .ok (.new 23, 3) := by decide +kernel
theorem dX9_init_52 : decode cX9_init 52 = .ok (.dup, 1) := by decide +kernel
theorem dX9_init_53 : decode cX9_init 53 = .ok (.invokespecial 25, 3) := by decide +kernel
theorem dX9_init_56 : decode cX9_init 56 = .ok (.putfield 33, 3) := by decide +kernel
theorem dX9_init_59 : decode cX9_init 59 = .ok (.aload_n 0, 1) := by decide +kernel
theorem dX9_init_60 : decode cX9_init 60 = .ok (.new 36, 3) := by decide +kernel
theorem dX9_init_63 : decode cX9_init 63 = .ok (.dup, 1) := by decide +kernel
theorem dX9_init_64 : decode cX9_init 64 = .ok (.invokespecial 38, 3) := by decide +kernel
theorem dX9_init_67 : decode cX9_init 67 = .ok (.putfield 39, 3) := by decide +kernel
theorem dX9_init_70 : decode cX9_init 70 = .ok (.aload_n 0, 1) := by decide +kernel
theorem dX9_init_71 : decode cX9_init 71 = .ok (.new 43, 3) := by decide +kernel
theorem dX9_init_74 : decode cX9_init 74 = .ok (.dup, 1) := by decide +kernel
theorem dX9_init_75 : decode cX9_init 75 = .ok (.invokespecial 45, 3) := by decide +kernel
theorem dX9_init_78 : decode cX9_init 78 = .ok (.putfield 46, 3) := by decide +kernel
theorem dX9_init_81 : decode cX9_init 81 = .ok (.aload_n 0, 1) := by decide +kernel
theorem dX9_init_82 : decode cX9_init 82 = .ok (.new 50, 3) := by decide +kernel
theorem dX9_init_85 : decode cX9_init 85 = .ok (.dup, 1) := by decide +kernel
theorem dX9_init_86 : decode cX9_init 86 = .ok (.invokespecial 52, 3) := by decide +kernel
theorem dX9_init_89 : decode cX9_init 89 = .ok (.putfield 53, 3) := by decide +kernel
theorem dX9_init_92 : decode cX9_init 92 = .ok (.aload_n 0, 1) := by decide +kernel
theorem dX9_init_93 : decode cX9_init 93 = .ok (.new 57, 3) := by decide +kernel
theorem dX9_init_96 : decode cX9_init 96 = .ok (.dup, 1) := by decide +kernel
theorem dX9_init_97 : decode cX9_init 97 = .ok (.invokespecial 59, 3) := by decide +kernel
theorem dX9_init_100 : decode cX9_init 100 = .ok (.putfield 60, 3) := by decide +kernel
theorem dX9_init_103 : decode cX9_init 103 = .ok (.aload_n 0, 1) := by decide +kernel
theorem dX9_init_104 : decode cX9_init 104 = .ok (.new 23, 3) := by decide +kernel
theorem dX9_init_107 : decode cX9_init 107 = .ok (.dup, 1) := by decide +kernel
theorem dX9_init_108 : decode cX9_init 108 = .ok (.invokespecial 25, 3) := by decide +kernel
theorem dX9_init_111 : decode cX9_init 111 = .ok (.putfield 64, 3) := by decide +kernel
theorem dX9_init_114 : decode cX9_init 114 = .ok (.aload_n 0, 1) := by decide +kernel
theorem dX9_init_115 : decode cX9_init 115 = .ok (.new 50, 3) := by decide +kernel
theorem dX9_init_118 : decode cX9_init 118 = .ok (.dup, 1) := by decide +kernel
theorem dX9_init_119 : decode cX9_init 119 = .ok (.invokespecial 52, 3) := by decide +kernel
theorem dX9_init_122 : decode cX9_init 122 = .ok (.putfield 67, 3) := by decide +kernel
theorem dX9_init_125 : decode cX9_init 125 = .ok (.iconst 0, 1) := by decide +kernel
theorem dX9_init_126 : decode cX9_init 126 = .ok (.istore_n 1, 1) := by decide +kernel
theorem dX9_init_127 : decode cX9_init 127 = .ok (.iload_n 1, 1) := by decide +kernel
theorem dX9_init_128 : decode cX9_init 128 = .ok (.ldc 70, 2) := by decide +kernel
theorem dX9_init_130 : decode cX9_init 130 = .ok (.invokevirtual 72, 3) := by decide +kernel
theorem dX9_init_133 : decode cX9_init 133 = .ok (.if_icmp .ge 22, 3) := by decide +kernel
theorem dX9_init_136 : decode cX9_init 136 = .ok (.aload_n 0, 1) := by decide +kernel
theorem dX9_init_137 : decode cX9_init 137 = .ok (.getfield 12, 3) := by decide +kernel
theorem dX9_init_140 : decode cX9_init 140 = .ok (.ldc 70, 2) := by decide +kernel
theorem dX9_init_142 : decode cX9_init 142 = .ok (.iload_n 1, 1) := by decide +kernel
theorem dX9_init_143 : decode cX9_init 143 = .ok (.invokevirtual 78, 3) := by decide +kernel
theorem dX9_init_146 : decode cX9_init 146 = .ok (.invokevirtual 82, 3) := by decide +kernel
theorem dX9_init_149 : decode cX9_init 149 = .ok (.iinc 1 1, 3) := by decide +kernel
theorem dX9_init_152 : decode cX9_init 152 = .ok (.goto (-25), 3) := by decide +kernel
theorem dX9_init_155 : decode cX9_init 155 = .ok (.aload_n 0, 1) := by decide +kernel
theorem dX9_init_156 : decode cX9_init 156 = .ok (.invokevirtual 86, 3) := by decide +kernel
theorem dX9_init_159 : decode cX9_init 159 = .ok (.aload_n 0, 1) := by decide +kernel
theorem dX9_init_160 : decode cX9_init 160 = .ok (.getfield 12, 3) := by decide +kernel
theorem dX9_init_163 : decode cX9_init 163 = .ok (.invokevirtual 89, 3) := by decide +kernel
theorem dX9_init_166 : decode cX9_init 166 = .ok (.return_, 1) := by decide +kernel
theorem dX9_write_0 : decode cX9_write 0 = .ok (.iload_n 1, 1) := by decide +kernel
theorem dX9_write_1 : decode cX9_write 1 = .ok (.bipush 32, 2) := by decide +kernel
theorem dX9_write_3 : decode cX9_write 3 = .ok (.if_icmp .lt 9, 3) := by decide +kernel
theorem dX9_write_6 : decode cX9_write 6 = .ok (.iload_n 1, 1) := by decide +kernel
theorem dX9_write_7 : decode cX9_write 7 = .ok (.bipush 126, 2) := by decide +kernel
theorem dX9_write_9 : decode cX9_write 9 = .ok (.if_icmp .le 5, 3) := by decide +kernel
theorem dX9_write_12 : decode cX9_write 12 = .ok (.iconst (-1), 1) := by decide +kernel
theorem dX9_write_13 : decode cX9_write 13 = .ok (.ireturn, 1) := by decide +kernel
theorem dX9_write_14 : decode cX9_write 14 = .ok (.aload_n 0, 1) := by decide +kernel
theorem dX9_write_15 : decode cX9_write 15 = .ok (.getfield 12, 3) := by decide +kernel
theorem dX9_write_18 : decode cX9_write 18 = .ok (.invokevirtual 92, 3) := by decide +kernel
theorem dX9_write_21 : decode cX9_write 21 = .ok (.sipush 200, 3) := by decide +kernel
theorem dX9_write_24 : decode cX9_write 24 = .ok (.if_icmp .lt 6, 3) := by decide +kernel
theorem dX9_write_27 : decode cX9_write 27 = .ok (.bipush (-3), 2) := by decide +kernel
theorem dX9_write_29 : decode cX9_write 29 = .ok (.ireturn, 1) := by decide +kernel
theorem dX9_write_30 : decode cX9_write 30 = .ok (.aload_n 0, 1) := by decide +kernel
theorem dX9_write_31 : decode cX9_write 31 = .ok (.getfield 12, 3) := by decide +kernel
theorem dX9_write_34 : decode cX9_write 34 = .ok (.iload_n 1, 1) := by decide +kernel
theorem dX9_write_35 : decode cX9_write 35 = .ok (.invokevirtual 82, 3) := by decide +kernel
theorem dX9_write_38 : decode cX9_write 38 = .ok (.aload_n 0, 1) := by decide +kernel
theorem dX9_write_39 : decode cX9_write 39 = .ok (.getfield 12, 3) := by decide +kernel
theorem dX9_write_42 : decode cX9_write 42 = .ok (.invokevirtual 92, 3) := by decide +kernel
theorem dX9_write_45 : decode cX9_write 45 = .ok (.ireturn, 1) := by decide +kernel
theorem dX9_wipe_0 : decode cX9_wipe 0 = .ok (.aload_n 0, 1) := by decide +kernel
theorem dX9_wipe_1 : decode cX9_wipe 1 = .ok (.getfield 12, 3) := by decide +kernel
theorem dX9_wipe_4 : decode cX9_wipe 4 = .ok (.invokevirtual 92, 3) := by decide +kernel
theorem dX9_wipe_7 : decode cX9_wipe 7 = .ok (.istore_n 1, 1) := by decide +kernel
theorem dX9_wipe_8 : decode cX9_wipe 8 = .ok (.aload_n 0, 1) := by decide +kernel
theorem dX9_wipe_9 : decode cX9_wipe 9 = .ok (.getfield 12, 3) := by decide +kernel
theorem dX9_wipe_12 : decode cX9_wipe 12 = .ok (.invokevirtual 89, 3) := by decide +kernel
theorem dX9_wipe_15 : decode cX9_wipe 15 = .ok (.iload_n 1, 1) := by decide +kernel
theorem dX9_wipe_16 : decode cX9_wipe 16 = .ok (.ireturn, 1) := by decide +kernel
theorem dX9_lay_0 : decode cX9_lay 0 = .ok (.aload_n 0, 1) := by decide +kernel
theorem dX9_lay_1 : decode cX9_lay 1 = .ok (.getfield 12, 3) := by decide +kernel
theorem dX9_lay_4 : decode cX9_lay 4 = .ok (.invokevirtual 93, 3) := by decide +kernel
theorem dX9_lay_7 : decode cX9_lay 7 = .ok (.bipush (-4), 2) := by decide +kernel
theorem dX9_lay_9 : decode cX9_lay 9 = .ok (.if_icmp .ne 13, 3) := by decide +kernel
theorem dX9_lay_12 : decode cX9_lay 12 = .ok (.aload_n 0, 1) := by decide +kernel
theorem dX9_lay_13 : decode cX9_lay 13 = .ok (.getfield 12, 3) := by decide +kernel
theorem dX9_lay_16 : decode cX9_lay 16 = .ok (.invokevirtual 96, 3) := by decide +kernel
theorem dX9_lay_19 : decode cX9_lay 19 = .ok (.ifCond .ne 6, 3) := by decide +kernel
theorem dX9_lay_22 : decode cX9_lay 22 = .ok (.bipush (-2), 2) := by decide +kernel
theorem dX9_lay_24 : decode cX9_lay 24 = .ok (.ireturn, 1) := by decide +kernel
theorem dX9_lay_25 : decode cX9_lay 25 = .ok (.aload_n 0, 1) := by decide +kernel
theorem dX9_lay_26 : decode cX9_lay 26 = .ok (.invokevirtual 86, 3) := by decide +kernel
theorem dX9_lay_29 : decode cX9_lay 29 = .ok (.aload_n 0, 1) := by decide +kernel
theorem dX9_lay_30 : decode cX9_lay 30 = .ok (.getfield 19, 3) := by decide +kernel
theorem dX9_lay_33 : decode cX9_lay 33 = .ok (.invokevirtual 99, 3) := by decide +kernel
theorem dX9_lay_36 : decode cX9_lay 36 = .ok (.ireturn, 1) := by decide +kernel
theorem dX9_rule_0 : decode cX9_rule 0 = .ok (.aload_n 0, 1) := by decide +kernel
theorem dX9_rule_1 : decode cX9_rule 1 = .ok (.iload_n 1, 1) := by decide +kernel
theorem dX9_rule_2 : decode cX9_rule 2 = .ok (.invokevirtual 102, 3) := by decide +kernel
theorem dX9_rule_5 : decode cX9_rule 5 = .ok (.ifCond .eq 12, 3) := by decide +kernel
theorem dX9_rule_8 : decode cX9_rule 8 = .ok (.iload_n 2, 1) := by decide +kernel
theorem dX9_rule_9 : decode cX9_rule 9 = .ok (.ifCond .lt 8, 3) := by decide +kernel
theorem dX9_rule_12 : decode cX9_rule 12 = .ok (.iload_n 2, 1) := by decide +kernel
theorem dX9_rule_13 : decode cX9_rule 13 = .ok (.iconst 3, 1) := by decide +kernel
theorem dX9_rule_14 : decode cX9_rule 14 = .ok (.if_icmp .le 5, 3) := by decide +kernel
theorem dX9_rule_17 : decode cX9_rule 17 = .ok (.iconst (-1), 1) := by decide +kernel
theorem dX9_rule_18 : decode cX9_rule 18 = .ok (.ireturn, 1) := by decide +kernel
theorem dX9_rule_19 : decode cX9_rule 19 = .ok (.iload_n 2, 1) := by decide +kernel
theorem dX9_rule_20 : decode cX9_rule 20 = .ok (.tableswitch 55 0 2 #[28, 37, 46], 28) := by decide +kernel
theorem dX9_rule_48 : decode cX9_rule 48 = .ok (.aload_n 0, 1) := by decide +kernel
theorem dX9_rule_49 : decode cX9_rule 49 = .ok (.getfield 26, 3) := by decide +kernel
theorem dX9_rule_52 : decode cX9_rule 52 = .ok (.iload_n 1, 1) := by decide +kernel
theorem dX9_rule_53 : decode cX9_rule 53 = .ok (.invokevirtual 106, 3) := by decide +kernel
theorem dX9_rule_56 : decode cX9_rule 56 = .ok (.ireturn, 1) := by decide +kernel
theorem dX9_rule_57 : decode cX9_rule 57 = .ok (.aload_n 0, 1) := by decide +kernel
theorem dX9_rule_58 : decode cX9_rule 58 = .ok (.getfield 19, 3) := by decide +kernel
theorem dX9_rule_61 : decode cX9_rule 61 = .ok (.iload_n 1, 1) := by decide +kernel
theorem dX9_rule_62 : decode cX9_rule 62 = .ok (.invokevirtual 110, 3) := by decide +kernel
theorem dX9_rule_65 : decode cX9_rule 65 = .ok (.ireturn, 1) := by decide +kernel
theorem dX9_rule_66 : decode cX9_rule 66 = .ok (.aload_n 0, 1) := by decide +kernel
theorem dX9_rule_67 : decode cX9_rule 67 = .ok (.getfield 19, 3) := by decide +kernel
theorem dX9_rule_70 : decode cX9_rule 70 = .ok (.iload_n 1, 1) := by decide +kernel
theorem dX9_rule_71 : decode cX9_rule 71 = .ok (.invokevirtual 113, 3) := by decide +kernel
theorem dX9_rule_74 : decode cX9_rule 74 = .ok (.ireturn, 1) := by decide +kernel
theorem dX9_rule_75 : decode cX9_rule 75 = .ok (.aload_n 0, 1) := by decide +kernel
theorem dX9_rule_76 : decode cX9_rule 76 = .ok (.getfield 19, 3) := by decide +kernel
theorem dX9_rule_79 : decode cX9_rule 79 = .ok (.iload_n 1, 1) := by decide +kernel
theorem dX9_rule_80 : decode cX9_rule 80 = .ok (.invokevirtual 116, 3) := by decide +kernel
theorem dX9_rule_83 : decode cX9_rule 83 = .ok (.ireturn, 1) := by decide +kernel
theorem dX9_kind_0 : decode cX9_kind 0 = .ok (.iload_n 1, 1) := by decide +kernel
theorem dX9_kind_1 : decode cX9_kind 1 = .ok (.invokestatic 128, 3) := by decide +kernel
theorem dX9_kind_4 : decode cX9_kind 4 = .ok (.ifCond .eq 14, 3) := by decide +kernel
theorem dX9_kind_7 : decode cX9_kind 7 = .ok (.aload_n 0, 1) := by decide +kernel
theorem dX9_kind_8 : decode cX9_kind 8 = .ok (.getfield 26, 3) := by decide +kernel
theorem dX9_kind_11 : decode cX9_kind 11 = .ok (.iload_n 1, 1) := by decide +kernel
theorem dX9_kind_12 : decode cX9_kind 12 = .ok (.invokevirtual 131, 3) := by decide +kernel
theorem dX9_kind_15 : decode cX9_kind 15 = .ok (.goto 4, 3) := by decide +kernel
theorem dX9_kind_18 : decode cX9_kind 18 = .ok (.iconst (-1), 1) := by decide +kernel
theorem dX9_kind_19 : decode cX9_kind 19 = .ok (.ireturn, 1) := by decide +kernel
theorem dX9_letter_0 : decode cX9_letter 0 = .ok (.aload_n 0, 1) := by decide +kernel
theorem dX9_letter_1 : decode cX9_letter 1 = .ok (.iload_n 1, 1) := by decide +kernel
theorem dX9_letter_2 : decode cX9_letter 2 = .ok (.invokevirtual 134, 3) := by decide +kernel
theorem dX9_letter_5 : decode cX9_letter 5 = .ok (.ifCond .ne 5, 3) := by decide +kernel
theorem dX9_letter_8 : decode cX9_letter 8 = .ok (.iconst (-1), 1) := by decide +kernel
theorem dX9_letter_9 : decode cX9_letter 9 = .ok (.ireturn, 1) := by decide +kernel
theorem dX9_letter_10 : decode cX9_letter 10 = .ok (.iload_n 1, 1) := by decide +kernel
theorem dX9_letter_11 : decode cX9_letter 11 = .ok (.aload_n 0, 1) := by decide +kernel
theorem dX9_letter_12 : decode cX9_letter 12 = .ok (.getfield 26, 3) := by decide +kernel
theorem dX9_letter_15 : decode cX9_letter 15 = .ok (.invokevirtual 137, 3) := by decide +kernel
theorem dX9_letter_18 : decode cX9_letter 18 = .ok (.if_icmp .ne 8, 3) := by decide +kernel
theorem dX9_letter_21 : decode cX9_letter 21 = .ok (.bipush (-4), 2) := by decide +kernel
theorem dX9_letter_23 : decode cX9_letter 23 = .ok (.goto 11, 3) := by decide +kernel
theorem dX9_letter_26 : decode cX9_letter 26 = .ok (.aload_n 0, 1) := by decide +kernel
theorem dX9_letter_27 : decode cX9_letter 27 = .ok (.getfield 26, 3) := by decide +kernel
theorem dX9_letter_30 : decode cX9_letter 30 = .ok (.iload_n 1, 1) := by decide +kernel
theorem dX9_letter_31 : decode cX9_letter 31 = .ok (.invokevirtual 138, 3) := by decide +kernel
theorem dX9_letter_34 : decode cX9_letter 34 = .ok (.ireturn, 1) := by decide +kernel
theorem dX9_insert_0 : decode cX9_insert 0 = .ok (.aload_n 0, 1) := by decide +kernel
theorem dX9_insert_1 : decode cX9_insert 1 = .ok (.iload_n 1, 1) := by decide +kernel
theorem dX9_insert_2 : decode cX9_insert 2 = .ok (.invokevirtual 134, 3) := by decide +kernel
theorem dX9_insert_5 : decode cX9_insert 5 = .ok (.ifCond .eq 10, 3) := by decide +kernel
theorem dX9_insert_8 : decode cX9_insert 8 = .ok (.iload_n 2, 1) := by decide +kernel
theorem dX9_insert_9 : decode cX9_insert 9 = .ok (.invokestatic 128, 3) := by decide +kernel
theorem dX9_insert_12 : decode cX9_insert 12 = .ok (.ifCond .ne 5, 3) := by decide +kernel
theorem dX9_insert_15 : decode cX9_insert 15 = .ok (.iconst (-1), 1) := by decide +kernel
theorem dX9_insert_16 : decode cX9_insert 16 = .ok (.ireturn, 1) := by decide +kernel
theorem dX9_insert_17 : decode cX9_insert 17 = .ok (.aload_n 0, 1) := by decide +kernel
theorem dX9_insert_18 : decode cX9_insert 18 = .ok (.getfield 26, 3) := by decide +kernel
theorem dX9_insert_21 : decode cX9_insert 21 = .ok (.invokevirtual 137, 3) := by decide +kernel
theorem dX9_insert_24 : decode cX9_insert 24 = .ok (.bipush 30, 2) := by decide +kernel
theorem dX9_insert_26 : decode cX9_insert 26 = .ok (.if_icmp .lt 6, 3) := by decide +kernel
theorem dX9_insert_29 : decode cX9_insert 29 = .ok (.bipush (-3), 2) := by decide +kernel
theorem dX9_insert_31 : decode cX9_insert 31 = .ok (.ireturn, 1) := by decide +kernel
theorem dX9_insert_32 : decode cX9_insert 32 = .ok (.aload_n 0, 1) := by decide +kernel
theorem dX9_insert_33 : decode cX9_insert 33 = .ok (.getfield 26, 3) := by decide +kernel
theorem dX9_insert_36 : decode cX9_insert 36 = .ok (.iload_n 1, 1) := by decide +kernel
theorem dX9_insert_37 : decode cX9_insert 37 = .ok (.iload_n 2, 1) := by decide +kernel
theorem dX9_insert_38 : decode cX9_insert 38 = .ok (.invokevirtual 141, 3) := by decide +kernel
theorem dX9_insert_41 : decode cX9_insert 41 = .ok (.aload_n 0, 1) := by decide +kernel
theorem dX9_insert_42 : decode cX9_insert 42 = .ok (.getfield 39, 3) := by decide +kernel
theorem dX9_insert_45 : decode cX9_insert 45 = .ok (.iconst 0, 1) := by decide +kernel
theorem dX9_insert_46 : decode cX9_insert 46 = .ok (.iload_n 1, 1) := by decide +kernel
theorem dX9_insert_47 : decode cX9_insert 47 = .ok (.iload_n 2, 1) := by decide +kernel
theorem dX9_insert_48 : decode cX9_insert 48 = .ok (.invokevirtual 145, 3) := by decide +kernel
theorem dX9_insert_51 : decode cX9_insert 51 = .ok (.aload_n 0, 1) := by decide +kernel
theorem dX9_insert_52 : decode cX9_insert 52 = .ok (.invokevirtual 149, 3) := by decide +kernel
theorem dX9_insert_55 : decode cX9_insert 55 = .ok (.aload_n 0, 1) := by decide +kernel
theorem dX9_insert_56 : decode cX9_insert 56 = .ok (.getfield 26, 3) := by decide +kernel
theorem dX9_insert_59 : decode cX9_insert 59 = .ok (.invokevirtual 137, 3) := by decide +kernel
theorem dX9_insert_62 : decode cX9_insert 62 = .ok (.ireturn, 1) := by decide +kernel
theorem dX9_erase_0 : decode cX9_erase 0 = .ok (.iload_n 1, 1) := by decide +kernel
theorem dX9_erase_1 : decode cX9_erase 1 = .ok (.ifCond .lt 14, 3) := by decide +kernel
theorem dX9_erase_4 : decode cX9_erase 4 = .ok (.iload_n 1, 1) := by decide +kernel
theorem dX9_erase_5 : decode cX9_erase 5 = .ok (.aload_n 0, 1) := by decide +kernel
theorem dX9_erase_6 : decode cX9_erase 6 = .ok (.getfield 26, 3) := by decide +kernel
theorem dX9_erase_9 : decode cX9_erase 9 = .ok (.invokevirtual 137, 3) := by decide +kernel
theorem dX9_erase_12 : decode cX9_erase 12 = .ok (.if_icmp .lt 5, 3) := by decide +kernel
theorem dX9_erase_15 : decode cX9_erase 15 = .ok (.iconst (-1), 1) := by decide +kernel
theorem dX9_erase_16 : decode cX9_erase 16 = .ok (.ireturn, 1) := by decide +kernel
theorem dX9_erase_17 : decode cX9_erase 17 = .ok (.aload_n 0, 1) := by decide +kernel
theorem dX9_erase_18 : decode cX9_erase 18 = .ok (.getfield 26, 3) := by decide +kernel
theorem dX9_erase_21 : decode cX9_erase 21 = .ok (.iload_n 1, 1) := by decide +kernel
theorem dX9_erase_22 : decode cX9_erase 22 = .ok (.invokevirtual 138, 3) := by decide +kernel
theorem dX9_erase_25 : decode cX9_erase 25 = .ok (.istore_n 2, 1) := by decide +kernel
theorem dX9_erase_26 : decode cX9_erase 26 = .ok (.aload_n 0, 1) := by decide +kernel
theorem dX9_erase_27 : decode cX9_erase 27 = .ok (.getfield 26, 3) := by decide +kernel
theorem dX9_erase_30 : decode cX9_erase 30 = .ok (.iload_n 1, 1) := by decide +kernel
theorem dX9_erase_31 : decode cX9_erase 31 = .ok (.invokevirtual 152, 3) := by decide +kernel
theorem dX9_erase_34 : decode cX9_erase 34 = .ok (.aload_n 0, 1) := by decide +kernel
theorem dX9_erase_35 : decode cX9_erase 35 = .ok (.getfield 39, 3) := by decide +kernel
theorem dX9_erase_38 : decode cX9_erase 38 = .ok (.iconst 1, 1) := by decide +kernel
theorem dX9_erase_39 : decode cX9_erase 39 = .ok (.iload_n 1, 1) := by decide +kernel
theorem dX9_erase_40 : decode cX9_erase 40 = .ok (.iload_n 2, 1) := by decide +kernel
theorem dX9_erase_41 : decode cX9_erase 41 = .ok (.invokevirtual 145, 3) := by decide +kernel
theorem dX9_erase_44 : decode cX9_erase 44 = .ok (.aload_n 0, 1) := by decide +kernel
theorem dX9_erase_45 : decode cX9_erase 45 = .ok (.invokevirtual 149, 3) := by decide +kernel
theorem dX9_erase_48 : decode cX9_erase 48 = .ok (.iload_n 2, 1) := by decide +kernel
theorem dX9_erase_49 : decode cX9_erase 49 = .ok (.ireturn, 1) := by decide +kernel
theorem dX9_tell_0 : decode cX9_tell 0 = .ok (.iload_n 1, 1) := by decide +kernel
theorem dX9_tell_1 : decode cX9_tell 1 = .ok (.invokestatic 128, 3) := by decide +kernel
theorem dX9_tell_4 : decode cX9_tell 4 = .ok (.ifCond .eq 10, 3) := by decide +kernel
theorem dX9_tell_7 : decode cX9_tell 7 = .ok (.iload_n 2, 1) := by decide +kernel
theorem dX9_tell_8 : decode cX9_tell 8 = .ok (.invokestatic 155, 3) := by decide +kernel
theorem dX9_tell_11 : decode cX9_tell 11 = .ok (.ifCond .ne 5, 3) := by decide +kernel
theorem dX9_tell_14 : decode cX9_tell 14 = .ok (.iconst (-1), 1) := by decide +kernel
theorem dX9_tell_15 : decode cX9_tell 15 = .ok (.ireturn, 1) := by decide +kernel
theorem dX9_tell_16 : decode cX9_tell 16 = .ok (.aload_n 0, 1) := by decide +kernel
theorem dX9_tell_17 : decode cX9_tell 17 = .ok (.getfield 26, 3) := by decide +kernel
theorem dX9_tell_20 : decode cX9_tell 20 = .ok (.iload_n 1, 1) := by decide +kernel
theorem dX9_tell_21 : decode cX9_tell 21 = .ok (.invokevirtual 131, 3) := by decide +kernel
theorem dX9_tell_24 : decode cX9_tell 24 = .ok (.istore_n 3, 1) := by decide +kernel
theorem dX9_tell_25 : decode cX9_tell 25 = .ok (.iload_n 3, 1) := by decide +kernel
theorem dX9_tell_26 : decode cX9_tell 26 = .ok (.iload_n 2, 1) := by decide +kernel
theorem dX9_tell_27 : decode cX9_tell 27 = .ok (.if_icmp .ne 6, 3) := by decide +kernel
theorem dX9_tell_30 : decode cX9_tell 30 = .ok (.bipush (-2), 2) := by decide +kernel
theorem dX9_tell_32 : decode cX9_tell 32 = .ok (.ireturn, 1) := by decide +kernel
theorem dX9_tell_33 : decode cX9_tell 33 = .ok (.aload_n 0, 1) := by decide +kernel
theorem dX9_tell_34 : decode cX9_tell 34 = .ok (.getfield 26, 3) := by decide +kernel
theorem dX9_tell_37 : decode cX9_tell 37 = .ok (.iload_n 1, 1) := by decide +kernel
theorem dX9_tell_38 : decode cX9_tell 38 = .ok (.iload_n 2, 1) := by decide +kernel
theorem dX9_tell_39 : decode cX9_tell 39 = .ok (.invokevirtual 158, 3) := by decide +kernel
theorem dX9_tell_42 : decode cX9_tell 42 = .ok (.aload_n 0, 1) := by decide +kernel
theorem dX9_tell_43 : decode cX9_tell 43 = .ok (.getfield 39, 3) := by decide +kernel
theorem dX9_tell_46 : decode cX9_tell 46 = .ok (.iconst 2, 1) := by decide +kernel
theorem dX9_tell_47 : decode cX9_tell 47 = .ok (.iload_n 1, 1) := by decide +kernel
theorem dX9_tell_48 : decode cX9_tell 48 = .ok (.iload_n 3, 1) := by decide +kernel
theorem dX9_tell_49 : decode cX9_tell 49 = .ok (.invokevirtual 145, 3) := by decide +kernel
theorem dX9_tell_52 : decode cX9_tell 52 = .ok (.aload_n 0, 1) := by decide +kernel
theorem dX9_tell_53 : decode cX9_tell 53 = .ok (.invokevirtual 149, 3) := by decide +kernel
theorem dX9_tell_56 : decode cX9_tell 56 = .ok (.iload_n 3, 1) := by decide +kernel
theorem dX9_tell_57 : decode cX9_tell 57 = .ok (.ireturn, 1) := by decide +kernel
theorem dX9_rename_0 : decode cX9_rename 0 = .ok (.aload_n 0, 1) := by decide +kernel
theorem dX9_rename_1 : decode cX9_rename 1 = .ok (.iload_n 1, 1) := by decide +kernel
theorem dX9_rename_2 : decode cX9_rename 2 = .ok (.invokevirtual 102, 3) := by decide +kernel
theorem dX9_rename_5 : decode cX9_rename 5 = .ok (.ifCond .eq 12, 3) := by decide +kernel
theorem dX9_rename_8 : decode cX9_rename 8 = .ok (.iload_n 2, 1) := by decide +kernel
theorem dX9_rename_9 : decode cX9_rename 9 = .ok (.ifCond .lt 8, 3) := by decide +kernel
theorem dX9_rename_12 : decode cX9_rename 12 = .ok (.iload_n 2, 1) := by decide +kernel
theorem dX9_rename_13 : decode cX9_rename 13 = .ok (.iconst 4, 1) := by decide +kernel
theorem dX9_rename_14 : decode cX9_rename 14 = .ok (.if_icmp .lt 5, 3) := by decide +kernel
theorem dX9_rename_17 : decode cX9_rename 17 = .ok (.iconst (-1), 1) := by decide +kernel
theorem dX9_rename_18 : decode cX9_rename 18 = .ok (.ireturn, 1) := by decide +kernel
theorem dX9_rename_19 : decode cX9_rename 19 = .ok (.aload_n 0, 1) := by decide +kernel
theorem dX9_rename_20 : decode cX9_rename 20 = .ok (.getfield 26, 3) := by decide +kernel
theorem dX9_rename_23 : decode cX9_rename 23 = .ok (.iload_n 1, 1) := by decide +kernel
theorem dX9_rename_24 : decode cX9_rename 24 = .ok (.invokevirtual 106, 3) := by decide +kernel
theorem dX9_rename_27 : decode cX9_rename 27 = .ok (.istore_n 3, 1) := by decide +kernel
theorem dX9_rename_28 : decode cX9_rename 28 = .ok (.iload_n 3, 1) := by decide +kernel
theorem dX9_rename_29 : decode cX9_rename 29 = .ok (.iload_n 2, 1) := by decide +kernel
theorem dX9_rename_30 : decode cX9_rename 30 = .ok (.if_icmp .ne 6, 3) := by decide +kernel
theorem dX9_rename_33 : decode cX9_rename 33 = .ok (.bipush (-2), 2) := by decide +kernel
theorem dX9_rename_35 : decode cX9_rename 35 = .ok (.ireturn, 1) := by decide +kernel
theorem dX9_rename_36 : decode cX9_rename 36 = .ok (.aload_n 0, 1) := by decide +kernel
theorem dX9_rename_37 : decode cX9_rename 37 = .ok (.getfield 26, 3) := by decide +kernel
theorem dX9_rename_40 : decode cX9_rename 40 = .ok (.iload_n 1, 1) := by decide +kernel
theorem dX9_rename_41 : decode cX9_rename 41 = .ok (.iload_n 2, 1) := by decide +kernel
theorem dX9_rename_42 : decode cX9_rename 42 = .ok (.invokevirtual 161, 3) := by decide +kernel
theorem dX9_rename_45 : decode cX9_rename 45 = .ok (.aload_n 0, 1) := by decide +kernel
theorem dX9_rename_46 : decode cX9_rename 46 = .ok (.getfield 39, 3) := by decide +kernel
theorem dX9_rename_49 : decode cX9_rename 49 = .ok (.iconst 3, 1) := by decide +kernel
theorem dX9_rename_50 : decode cX9_rename 50 = .ok (.iload_n 1, 1) := by decide +kernel
theorem dX9_rename_51 : decode cX9_rename 51 = .ok (.iload_n 3, 1) := by decide +kernel
theorem dX9_rename_52 : decode cX9_rename 52 = .ok (.invokevirtual 145, 3) := by decide +kernel
theorem dX9_rename_55 : decode cX9_rename 55 = .ok (.aload_n 0, 1) := by decide +kernel
theorem dX9_rename_56 : decode cX9_rename 56 = .ok (.invokevirtual 164, 3) := by decide +kernel
theorem dX9_rename_59 : decode cX9_rename 59 = .ok (.iload_n 3, 1) := by decide +kernel
theorem dX9_rename_60 : decode cX9_rename 60 = .ok (.ireturn, 1) := by decide +kernel
theorem dX9_undo_0 : decode cX9_undo 0 = .ok (.aload_n 0, 1) := by decide +kernel
theorem dX9_undo_1 : decode cX9_undo 1 = .ok (.getfield 39, 3) := by decide +kernel
theorem dX9_undo_4 : decode cX9_undo 4 = .ok (.invokevirtual 167, 3) := by decide +kernel
theorem dX9_undo_7 : decode cX9_undo 7 = .ok (.ifCond .ne 6, 3) := by decide +kernel
theorem dX9_undo_10 : decode cX9_undo 10 = .ok (.bipush (-2), 2) := by decide +kernel
theorem dX9_undo_12 : decode cX9_undo 12 = .ok (.ireturn, 1) := by decide +kernel
theorem dX9_undo_13 : decode cX9_undo 13 = .ok (.aload_n 0, 1) := by decide +kernel
theorem dX9_undo_14 : decode cX9_undo 14 = .ok (.getfield 39, 3) := by decide +kernel
theorem dX9_undo_17 : decode cX9_undo 17 = .ok (.aload_n 0, 1) := by decide +kernel
theorem dX9_undo_18 : decode cX9_undo 18 = .ok (.getfield 26, 3) := by decide +kernel
theorem dX9_undo_21 : decode cX9_undo 21 = .ok (.invokevirtual 168, 3) := by decide +kernel
theorem dX9_undo_24 : decode cX9_undo 24 = .ok (.ifCond .eq 10, 3) := by decide +kernel
theorem dX9_undo_27 : decode cX9_undo 27 = .ok (.aload_n 0, 1) := by decide +kernel
theorem dX9_undo_28 : decode cX9_undo 28 = .ok (.invokevirtual 164, 3) := by decide +kernel
theorem dX9_undo_31 : decode cX9_undo 31 = .ok (.goto 7, 3) := by decide +kernel
theorem dX9_undo_34 : decode cX9_undo 34 = .ok (.aload_n 0, 1) := by decide +kernel
theorem dX9_undo_35 : decode cX9_undo 35 = .ok (.invokevirtual 149, 3) := by decide +kernel
theorem dX9_undo_38 : decode cX9_undo 38 = .ok (.aload_n 0, 1) := by decide +kernel
theorem dX9_undo_39 : decode cX9_undo 39 = .ok (.getfield 39, 3) := by decide +kernel
theorem dX9_undo_42 : decode cX9_undo 42 = .ok (.invokevirtual 167, 3) := by decide +kernel
theorem dX9_undo_45 : decode cX9_undo 45 = .ok (.ireturn, 1) := by decide +kernel
theorem dX9_isBoundary_0 : decode cX9_isBoundary 0 = .ok (.aload_n 0, 1) := by decide +kernel
theorem dX9_isBoundary_1 : decode cX9_isBoundary 1 = .ok (.iload_n 1, 1) := by decide +kernel
theorem dX9_isBoundary_2 : decode cX9_isBoundary 2 = .ok (.invokevirtual 134, 3) := by decide +kernel
theorem dX9_isBoundary_5 : decode cX9_isBoundary 5 = .ok (.ifCond .ne 5, 3) := by decide +kernel
theorem dX9_isBoundary_8 : decode cX9_isBoundary 8 = .ok (.iconst (-1), 1) := by decide +kernel
theorem dX9_isBoundary_9 : decode cX9_isBoundary 9 = .ok (.ireturn, 1) := by decide +kernel
theorem dX9_isBoundary_10 : decode cX9_isBoundary 10 = .ok (.aload_n 0, 1) := by decide +kernel
theorem dX9_isBoundary_11 : decode cX9_isBoundary 11 = .ok (.getfield 53, 3) := by decide +kernel
theorem dX9_isBoundary_14 : decode cX9_isBoundary 14 = .ok (.iload_n 1, 1) := by decide +kernel
theorem dX9_isBoundary_15 : decode cX9_isBoundary 15 = .ok (.invokevirtual 172, 3) := by decide +kernel
theorem dX9_isBoundary_18 : decode cX9_isBoundary 18 = .ok (.ifCond .eq 7, 3) := by decide +kernel
theorem dX9_isBoundary_21 : decode cX9_isBoundary 21 = .ok (.iconst 1, 1) := by decide +kernel
theorem dX9_isBoundary_22 : decode cX9_isBoundary 22 = .ok (.goto 4, 3) := by decide +kernel
theorem dX9_isBoundary_25 : decode cX9_isBoundary 25 = .ok (.iconst 0, 1) := by decide +kernel
theorem dX9_isBoundary_26 : decode cX9_isBoundary 26 = .ok (.ireturn, 1) := by decide +kernel
theorem dX9_stand_0 : decode cX9_stand 0 = .ok (.aload_n 0, 1) := by decide +kernel
theorem dX9_stand_1 : decode cX9_stand 1 = .ok (.iload_n 1, 1) := by decide +kernel
theorem dX9_stand_2 : decode cX9_stand 2 = .ok (.invokevirtual 134, 3) := by decide +kernel
theorem dX9_stand_5 : decode cX9_stand 5 = .ok (.ifCond .ne 5, 3) := by decide +kernel
theorem dX9_stand_8 : decode cX9_stand 8 = .ok (.iconst (-1), 1) := by decide +kernel
theorem dX9_stand_9 : decode cX9_stand 9 = .ok (.ireturn, 1) := by decide +kernel
theorem dX9_stand_10 : decode cX9_stand 10 = .ok (.iload_n 1, 1) := by decide +kernel
theorem dX9_stand_11 : decode cX9_stand 11 = .ok (.ifCond .ne 8, 3) := by decide +kernel
theorem dX9_stand_14 : decode cX9_stand 14 = .ok (.bipush (-4), 2) := by decide +kernel
theorem dX9_stand_16 : decode cX9_stand 16 = .ok (.goto 11, 3) := by decide +kernel
theorem dX9_stand_19 : decode cX9_stand 19 = .ok (.aload_n 0, 1) := by decide +kernel
theorem dX9_stand_20 : decode cX9_stand 20 = .ok (.getfield 53, 3) := by decide +kernel
theorem dX9_stand_23 : decode cX9_stand 23 = .ok (.iload_n 1, 1) := by decide +kernel
theorem dX9_stand_24 : decode cX9_stand 24 = .ok (.invokevirtual 181, 3) := by decide +kernel
theorem dX9_stand_27 : decode cX9_stand 27 = .ok (.ireturn, 1) := by decide +kernel
theorem dX9_count_0 : decode cX9_count 0 = .ok (.iload_n 1, 1) := by decide +kernel
theorem dX9_count_1 : decode cX9_count 1 = .ok (.tableswitch 96 0 6 #[43, 51, 59, 67, 75, 83, 88], 43) := by decide +kernel
theorem dX9_count_44 : decode cX9_count 44 = .ok (.aload_n 0, 1) := by decide +kernel
theorem dX9_count_45 : decode cX9_count 45 = .ok (.getfield 19, 3) := by decide +kernel
theorem dX9_count_48 : decode cX9_count 48 = .ok (.invokevirtual 99, 3) := by decide +kernel
theorem dX9_count_51 : decode cX9_count 51 = .ok (.ireturn, 1) := by decide +kernel
theorem dX9_count_52 : decode cX9_count 52 = .ok (.aload_n 0, 1) := by decide +kernel
theorem dX9_count_53 : decode cX9_count 53 = .ok (.getfield 19, 3) := by decide +kernel
theorem dX9_count_56 : decode cX9_count 56 = .ok (.invokevirtual 119, 3) := by decide +kernel
theorem dX9_count_59 : decode cX9_count 59 = .ok (.ireturn, 1) := by decide +kernel
theorem dX9_count_60 : decode cX9_count 60 = .ok (.aload_n 0, 1) := by decide +kernel
theorem dX9_count_61 : decode cX9_count 61 = .ok (.getfield 26, 3) := by decide +kernel
theorem dX9_count_64 : decode cX9_count 64 = .ok (.invokevirtual 137, 3) := by decide +kernel
theorem dX9_count_67 : decode cX9_count 67 = .ok (.ireturn, 1) := by decide +kernel
theorem dX9_count_68 : decode cX9_count 68 = .ok (.aload_n 0, 1) := by decide +kernel
theorem dX9_count_69 : decode cX9_count 69 = .ok (.getfield 53, 3) := by decide +kernel
theorem dX9_count_72 : decode cX9_count 72 = .ok (.invokevirtual 184, 3) := by decide +kernel
theorem dX9_count_75 : decode cX9_count 75 = .ok (.ireturn, 1) := by decide +kernel
theorem dX9_count_76 : decode cX9_count 76 = .ok (.aload_n 0, 1) := by decide +kernel
theorem dX9_count_77 : decode cX9_count 77 = .ok (.getfield 39, 3) := by decide +kernel
theorem dX9_count_80 : decode cX9_count 80 = .ok (.invokevirtual 167, 3) := by decide +kernel
theorem dX9_count_83 : decode cX9_count 83 = .ok (.ireturn, 1) := by decide +kernel
theorem dX9_count_84 : decode cX9_count 84 = .ok (.aload_n 0, 1) := by decide +kernel
theorem dX9_count_85 : decode cX9_count 85 = .ok (.getfield 245, 3) := by decide +kernel
theorem dX9_count_88 : decode cX9_count 88 = .ok (.ireturn, 1) := by decide +kernel
theorem dX9_count_89 : decode cX9_count 89 = .ok (.aload_n 0, 1) := by decide +kernel
theorem dX9_count_90 : decode cX9_count 90 = .ok (.getfield 12, 3) := by decide +kernel
theorem dX9_count_93 : decode cX9_count 93 = .ok (.invokevirtual 92, 3) := by decide +kernel
theorem dX9_count_96 : decode cX9_count 96 = .ok (.ireturn, 1) := by decide +kernel
theorem dX9_count_97 : decode cX9_count 97 = .ok (.iconst (-1), 1) := by decide +kernel
theorem dX9_count_98 : decode cX9_count 98 = .ok (.ireturn, 1) := by decide +kernel
theorem dX9_isRule_0 : decode cX9_isRule 0 = .ok (.iload_n 1, 1) := by decide +kernel
theorem dX9_isRule_1 : decode cX9_isRule 1 = .ok (.ifCond .lt 18, 3) := by decide +kernel
theorem dX9_isRule_4 : decode cX9_isRule 4 = .ok (.iload_n 1, 1) := by decide +kernel
theorem dX9_isRule_5 : decode cX9_isRule 5 = .ok (.aload_n 0, 1) := by decide +kernel
theorem dX9_isRule_6 : decode cX9_isRule 6 = .ok (.getfield 19, 3) := by decide +kernel
theorem dX9_isRule_9 : decode cX9_isRule 9 = .ok (.invokevirtual 99, 3) := by decide +kernel
theorem dX9_isRule_12 : decode cX9_isRule 12 = .ok (.if_icmp .ge 7, 3) := by decide +kernel
theorem dX9_isRule_15 : decode cX9_isRule 15 = .ok (.iconst 1, 1) := by decide +kernel
theorem dX9_isRule_16 : decode cX9_isRule 16 = .ok (.goto 4, 3) := by decide +kernel
theorem dX9_isRule_19 : decode cX9_isRule 19 = .ok (.iconst 0, 1) := by decide +kernel
theorem dX9_isRule_20 : decode cX9_isRule 20 = .ok (.ireturn, 1) := by decide +kernel
theorem dX9_isPlaceOfLine_0 : decode cX9_isPlaceOfLine 0 = .ok (.iload_n 1, 1) := by decide +kernel
theorem dX9_isPlaceOfLine_1 : decode cX9_isPlaceOfLine 1 = .ok (.ifCond .lt 18, 3) := by decide +kernel
theorem dX9_isPlaceOfLine_4 : decode cX9_isPlaceOfLine 4 = .ok (.iload_n 1, 1) := by decide +kernel
theorem dX9_isPlaceOfLine_5 : decode cX9_isPlaceOfLine 5 = .ok (.aload_n 0, 1) := by decide +kernel
theorem dX9_isPlaceOfLine_6 : decode cX9_isPlaceOfLine 6 = .ok (.getfield 26, 3) := by decide +kernel
theorem dX9_isPlaceOfLine_9 : decode cX9_isPlaceOfLine 9 = .ok (.invokevirtual 137, 3) := by decide +kernel
theorem dX9_isPlaceOfLine_12 : decode cX9_isPlaceOfLine 12 = .ok (.if_icmp .gt 7, 3) := by decide +kernel
theorem dX9_isPlaceOfLine_15 : decode cX9_isPlaceOfLine 15 = .ok (.iconst 1, 1) := by decide +kernel
theorem dX9_isPlaceOfLine_16 : decode cX9_isPlaceOfLine 16 = .ok (.goto 4, 3) := by decide +kernel
theorem dX9_isPlaceOfLine_19 : decode cX9_isPlaceOfLine 19 = .ok (.iconst 0, 1) := by decide +kernel
theorem dX9_isPlaceOfLine_20 : decode cX9_isPlaceOfLine 20 = .ok (.ireturn, 1) := by decide +kernel
theorem dX9_isLetter_0 : decode cX9_isLetter 0 = .ok (.iload_n 0, 1) := by decide +kernel
theorem dX9_isLetter_1 : decode cX9_isLetter 1 = .ok (.ifCond .lt 13, 3) := by decide +kernel
theorem dX9_isLetter_4 : decode cX9_isLetter 4 = .ok (.iload_n 0, 1) := by decide +kernel
theorem dX9_isLetter_5 : decode cX9_isLetter 5 = .ok (.bipush 26, 2) := by decide +kernel
theorem dX9_isLetter_7 : decode cX9_isLetter 7 = .ok (.if_icmp .ge 7, 3) := by decide +kernel
theorem dX9_isLetter_10 : decode cX9_isLetter 10 = .ok (.iconst 1, 1) := by decide +kernel
theorem dX9_isLetter_11 : decode cX9_isLetter 11 = .ok (.goto 4, 3) := by decide +kernel
theorem dX9_isLetter_14 : decode cX9_isLetter 14 = .ok (.iconst 0, 1) := by decide +kernel
theorem dX9_isLetter_15 : decode cX9_isLetter 15 = .ok (.ireturn, 1) := by decide +kernel
theorem dX9_isClass_0 : decode cX9_isClass 0 = .ok (.iload_n 0, 1) := by decide +kernel
theorem dX9_isClass_1 : decode cX9_isClass 1 = .ok (.ifCond .lt 13, 3) := by decide +kernel
theorem dX9_isClass_4 : decode cX9_isClass 4 = .ok (.iload_n 0, 1) := by decide +kernel
theorem dX9_isClass_5 : decode cX9_isClass 5 = .ok (.bipush 6, 2) := by decide +kernel
theorem dX9_isClass_7 : decode cX9_isClass 7 = .ok (.if_icmp .ge 7, 3) := by decide +kernel
theorem dX9_isClass_10 : decode cX9_isClass 10 = .ok (.iconst 1, 1) := by decide +kernel
theorem dX9_isClass_11 : decode cX9_isClass 11 = .ok (.goto 4, 3) := by decide +kernel
theorem dX9_isClass_14 : decode cX9_isClass 14 = .ok (.iconst 0, 1) := by decide +kernel
theorem dX9_isClass_15 : decode cX9_isClass 15 = .ok (.ireturn, 1) := by decide +kernel
theorem dX9_layText_0 : decode cX9_layText 0 = .ok (.aload_n 0, 1) := by decide +kernel
theorem dX9_layText_1 : decode cX9_layText 1 = .ok (.getfield 19, 3) := by decide +kernel
theorem dX9_layText_4 : decode cX9_layText 4 = .ok (.invokevirtual 262, 3) := by decide +kernel
theorem dX9_layText_7 : decode cX9_layText 7 = .ok (.aload_n 0, 1) := by decide +kernel
theorem dX9_layText_8 : decode cX9_layText 8 = .ok (.getfield 26, 3) := by decide +kernel
theorem dX9_layText_11 : decode cX9_layText 11 = .ok (.invokevirtual 263, 3) := by decide +kernel
theorem dX9_layText_14 : decode cX9_layText 14 = .ok (.iconst 0, 1) := by decide +kernel
theorem dX9_layText_15 : decode cX9_layText 15 = .ok (.istore_n 1, 1) := by decide +kernel
theorem dX9_layText_16 : decode cX9_layText 16 = .ok (.iconst 0, 1) := by decide +kernel
theorem dX9_layText_17 : decode cX9_layText 17 = .ok (.istore_n 2, 1) := by decide +kernel
theorem dX9_layText_18 : decode cX9_layText 18 = .ok (.iload_n 2, 1) := by decide +kernel
theorem dX9_layText_19 : decode cX9_layText 19 = .ok (.sipush 200, 3) := by decide +kernel
theorem dX9_layText_22 : decode cX9_layText 22 = .ok (.if_icmp .ge 37, 3) := by decide +kernel
theorem dX9_layText_25 : decode cX9_layText 25 = .ok (.iload_n 1, 1) := by decide +kernel
theorem dX9_layText_26 : decode cX9_layText 26 = .ok (.aload_n 0, 1) := by decide +kernel
theorem dX9_layText_27 : decode cX9_layText 27 = .ok (.getfield 12, 3) := by decide +kernel
theorem dX9_layText_30 : decode cX9_layText 30 = .ok (.invokevirtual 92, 3) := by decide +kernel
theorem dX9_layText_33 : decode cX9_layText 33 = .ok (.if_icmp .ge 26, 3) := by decide +kernel
theorem dX9_layText_36 : decode cX9_layText 36 = .ok (.aload_n 0, 1) := by decide +kernel
theorem dX9_layText_37 : decode cX9_layText 37 = .ok (.getfield 12, 3) := by decide +kernel
theorem dX9_layText_40 : decode cX9_layText 40 = .ok (.iload_n 1, 1) := by decide +kernel
theorem dX9_layText_41 : decode cX9_layText 41 = .ok (.aload_n 0, 1) := by decide +kernel
theorem dX9_layText_42 : decode cX9_layText 42 = .ok (.getfield 19, 3) := by decide +kernel
theorem dX9_layText_45 : decode cX9_layText 45 = .ok (.aload_n 0, 1) := by decide +kernel
theorem dX9_layText_46 : decode cX9_layText 46 = .ok (.getfield 26, 3) := by decide +kernel
theorem dX9_layText_49 : decode cX9_layText 49 = .ok (.invokevirtual 264, 3) := by decide +kernel
theorem dX9_layText_52 : decode cX9_layText 52 = .ok (.istore_n 1, 1) := by decide +kernel
theorem dX9_layText_53 : decode cX9_layText 53 = .ok (.iinc 2 1, 3) := by decide +kernel
theorem dX9_layText_56 : decode cX9_layText 56 = .ok (.goto (-38), 3) := by decide +kernel
theorem dX9_layText_59 : decode cX9_layText 59 = .ok (.aload_n 0, 1) := by decide +kernel
theorem dX9_layText_60 : decode cX9_layText 60 = .ok (.getfield 39, 3) := by decide +kernel
theorem dX9_layText_63 : decode cX9_layText 63 = .ok (.invokevirtual 253, 3) := by decide +kernel
theorem dX9_layText_66 : decode cX9_layText 66 = .ok (.aload_n 0, 1) := by decide +kernel
theorem dX9_layText_67 : decode cX9_layText 67 = .ok (.iconst 0, 1) := by decide +kernel
theorem dX9_layText_68 : decode cX9_layText 68 = .ok (.putfield 245, 3) := by decide +kernel
theorem dX9_layText_71 : decode cX9_layText 71 = .ok (.aload_n 0, 1) := by decide +kernel
theorem dX9_layText_72 : decode cX9_layText 72 = .ok (.invokevirtual 164, 3) := by decide +kernel
theorem dX9_layText_75 : decode cX9_layText 75 = .ok (.return_, 1) := by decide +kernel
theorem dX9_rulesHaveChanged_0 : decode cX9_rulesHaveChanged 0 = .ok (.aload_n 0, 1) := by decide +kernel
theorem dX9_rulesHaveChanged_1 : decode cX9_rulesHaveChanged 1 = .ok (.getfield 46, 3) := by decide +kernel
theorem dX9_rulesHaveChanged_4 : decode cX9_rulesHaveChanged 4 = .ok (.aload_n 0, 1) := by decide +kernel
theorem dX9_rulesHaveChanged_5 : decode cX9_rulesHaveChanged 5 = .ok (.getfield 19, 3) := by decide +kernel
theorem dX9_rulesHaveChanged_8 : decode cX9_rulesHaveChanged 8 = .ok (.aload_n 0, 1) := by decide +kernel
theorem dX9_rulesHaveChanged_9 : decode cX9_rulesHaveChanged 9 = .ok (.getfield 26, 3) := by decide +kernel
theorem dX9_rulesHaveChanged_12 : decode cX9_rulesHaveChanged 12 = .ok (.invokevirtual 268, 3) := by decide +kernel
theorem dX9_rulesHaveChanged_15 : decode cX9_rulesHaveChanged 15 = .ok (.aload_n 0, 1) := by decide +kernel
theorem dX9_rulesHaveChanged_16 : decode cX9_rulesHaveChanged 16 = .ok (.getfield 60, 3) := by decide +kernel
theorem dX9_rulesHaveChanged_19 : decode cX9_rulesHaveChanged 19 = .ok (.invokevirtual 272, 3) := by decide +kernel
theorem dX9_rulesHaveChanged_22 : decode cX9_rulesHaveChanged 22 = .ok (.aload_n 0, 1) := by decide +kernel
theorem dX9_rulesHaveChanged_23 : decode cX9_rulesHaveChanged 23 = .ok (.invokevirtual 149, 3) := by decide +kernel
theorem dX9_rulesHaveChanged_26 : decode cX9_rulesHaveChanged 26 = .ok (.return_, 1) := by decide +kernel
theorem dX9_lineHasChanged_0 : decode cX9_lineHasChanged 0 = .ok (.aload_n 0, 1) := by decide +kernel
theorem dX9_lineHasChanged_1 : decode cX9_lineHasChanged 1 = .ok (.getfield 53, 3) := by decide +kernel
theorem dX9_lineHasChanged_4 : decode cX9_lineHasChanged 4 = .ok (.aload_n 0, 1) := by decide +kernel
theorem dX9_lineHasChanged_5 : decode cX9_lineHasChanged 5 = .ok (.getfield 26, 3) := by decide +kernel
theorem dX9_lineHasChanged_8 : decode cX9_lineHasChanged 8 = .ok (.aload_n 0, 1) := by decide +kernel
theorem dX9_lineHasChanged_9 : decode cX9_lineHasChanged 9 = .ok (.getfield 46, 3) := by decide +kernel
theorem dX9_lineHasChanged_12 : decode cX9_lineHasChanged 12 = .ok (.iconst 0, 1) := by decide +kernel
theorem dX9_lineHasChanged_13 : decode cX9_lineHasChanged 13 = .ok (.invokevirtual 221, 3) := by decide +kernel
theorem dX9_lineHasChanged_16 : decode cX9_lineHasChanged 16 = .ok (.return_, 1) := by decide +kernel

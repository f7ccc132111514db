theorem dX9_init_0 : decode cX9_init 0 = .ok (.aload_n 0, 1) := by decide +kernel
theorem dX9_init_1 : decode cX9_init 1 = .ok (.invokespecial 3, 3) := by decide +kernel
theorem dX9_init_4 : decode cX9_init 4 = .ok (.aload_n 0, 1) := by decide +kernel
theorem dX9_init_5 : decode cX9_init 5 = .ok (.new 9, 3) := by decide +kernel
theorem dX9_init_8 : decode cX9_init 8 = .ok (.dup, 1) := by decide +kernel
theorem dX9_init_9 : decode cX9_init 9 = .ok (.invokespecial 11, 3) := by decide +kernel
theorem dX9_init_12 : decode cX9_init 12 = .ok (.putfield 12, 3) := by decide +kernel
theorem dX9_init_15 : decode cX9_init 15 = .ok (.aload_n 0, 1) := by decide +kernel
theorem dX9_init_16 : decode cX9_init 16 = .ok (.new 16, 3) := by decide +kernel
theorem dX9_init_19 : decode cX9_init 19 = .ok (.dup, 1) := by decide +kernel
theorem dX9_init_20 : decode cX9_init 20 = .ok (.invokespecial 18, 3) := by decide +kernel
theorem dX9_init_23 : decode cX9_init 23 = .ok (.putfield 19, 3) := by decide +kernel
theorem dX9_init_26 : decode cX9_init 26 = .ok (.aload_n 0, 1) := by decide +kernel
theorem dX9_init_27 : decode cX9_init 27 = .ok (.new 23, 3) := by decide +kernel
theorem dX9_init_30 : decode cX9_init 30 = .ok (.dup, 1) := by decide +kernel
theorem dX9_init_31 : decode cX9_init 31 = .ok (.invokespecial 25, 3) := by decide +kernel
theorem dX9_init_34 : decode cX9_init 34 = .ok (.putfield 26, 3) := by decide +kernel
theorem dX9_init_37 : decode cX9_init 37 = .ok (.aload_n 0, 1) := by decide +kernel
theorem dX9_init_38 : decode cX9_init 38 = .ok (.new 23, 3) := by decide +kernel
theorem dX9_init_41 : decode cX9_init 41 = .ok (.dup, 1) := by decide +kernel
theorem dX9_init_42 : decode cX9_init 42 = .ok (.invokespecial 25, 3) := by decide +kernel
theorem dX9_init_45 : decode cX9_init 45 = .ok (.putfield 30, 3) := by decide +kernel
theorem dX9_init_48 : decode cX9_init 48 = .ok (.aload_n 0, 1) := by decide +kernel
theorem dX9_init_49 : decode cX9_init 49 = .ok (.new 23, 3) := by decide +kernel
theorem dX9_init_52 : decode cX9_init 52 = .ok (.dup, 1) := by decide +kernel
theorem dX9_init_53 : decode cX9_init 53 = .ok (.invokespecial 25, 3) := by decide +kernel
theorem dX9_init_56 : decode cX9_init 56 = .ok (.putfield 33, 3) := by decide +kernel
theorem dX9_init_59 : decode cX9_init 59 = .ok (.aload_n 0, 1) := by decide +kernel
theorem dX9_init_60 : decode cX9_init 60 = .ok (.new 36, 3) := by decide +kernel
theorem dX9_init_63 : decode cX9_init 63 = .ok (.dup, 1) := by decide +kernel
theorem dX9_init_64 : decode cX9_init 64 = .ok (.invokespecial 38, 3) := by decide +kernel
theorem dX9_init_67 : decode cX9_init 67 = .ok (.putfield 39, 3) := by decide +kernel
theorem dX9_init_70 : decode cX9_init 70 = .ok (.aload_n 0, 1) := by decide +kernel
theorem dX9_init_71 : decode cX9_init 71 = .ok (.new 43, 3) := by decide +kernel
theorem dX9_init_74 : decode cX9_init 74 = .ok (.dup, 1) := by decide +kernel
theorem dX9_init_75 : decode cX9_init 75 = .ok (.invokespecial 45, 3) := by decide +kernel
theorem dX9_init_78 : decode cX9_init 78 = .ok (.putfield 46, 3) := by decide +kernel
theorem dX9_init_81 : decode cX9_init 81 = .ok (.aload_n 0, 1) := by decide +kernel
theorem dX9_init_82 : decode cX9_init 82 = .ok (.new 50, 3) := by decide +kernel
theorem dX9_init_85 : decode cX9_init 85 = .ok (.dup, 1) := by decide +kernel
theorem dX9_init_86 : decode cX9_init 86 = .ok (.invokespecial 52, 3) := by decide +kernel
theorem dX9_init_89 : decode cX9_init 89 = .ok (.putfield 53, 3) := by decide +kernel
theorem dX9_init_92 : decode cX9_init 92 = .ok (.aload_n 0, 1) := by decide +kernel
theorem dX9_init_93 : decode cX9_init 93 = .ok (.new 57, 3) := by decide +kernel
theorem dX9_init_96 : decode cX9_init 96 = .ok (.dup, 1) := by decide +kernel
theorem dX9_init_97 : decode cX9_init 97 = .ok (.invokespecial 59, 3) := by decide +kernel
theorem dX9_init_100 : decode cX9_init 100 = .ok (.putfield 60, 3) := by decide +kernel
theorem dX9_init_103 : decode cX9_init 103 = .ok (.aload_n 0, 1) := by decide +kernel
theorem dX9_init_104 : decode cX9_init 104 = .ok (.new 23, 3) := by decide +kernel
theorem dX9_init_107 : decode cX9_init 107 = .ok (.dup, 1) := by decide +kernel
theorem dX9_init_108 : decode cX9_init 108 = .ok (.invokespecial 25, 3) := by decide +kernel
theorem dX9_init_111 : decode cX9_init 111 = .ok (.putfield 64, 3) := by decide +kernel
theorem dX9_init_114 : decode cX9_init 114 = .ok (.aload_n 0, 1) := by decide +kernel
theorem dX9_init_115 : decode cX9_init 115 = .ok (.new 50, 3) := by decide +kernel
theorem dX9_init_118 : decode cX9_init 118 = .ok (.dup, 1) := by decide +kernel
theorem dX9_init_119 : decode cX9_init 119 = .ok (.invokespecial 52, 3) := by decide +kernel
theorem dX9_init_122 : decode cX9_init 122 = .ok (.putfield 67, 3) := by decide +kernel
theorem dX9_init_125 : decode cX9_init 125 = .ok (.iconst 0, 1) := by decide +kernel
theorem dX9_init_126 : decode cX9_init 126 = .ok (.istore_n 1, 1) := by decide +kernel
theorem dX9_init_127 : decode cX9_init 127 = .ok (.iload_n 1, 1) := by decide +kernel
theorem dX9_init_128 : decode cX9_init 128 = .ok (.ldc 70, 2) := by decide +kernel
theorem dX9_init_130 : decode cX9_init 130 = .ok (.invokevirtual 72, 3) := by decide +kernel
theorem dX9_init_133 : decode cX9_init 133 = .ok (.if_icmp .ge 22, 3) := by decide +kernel
theorem dX9_init_136 : decode cX9_init 136 = .ok (.aload_n 0, 1) := by decide +kernel
theorem dX9_init_137 : decode cX9_init 137 = .ok (.getfield 12, 3) := by decide +kernel
theorem dX9_init_140 : decode cX9_init 140 = .ok (.ldc 70, 2) := by decide +kernel
theorem dX9_init_142 : decode cX9_init 142 = .ok (.iload_n 1, 1) := by decide +kernel
theorem dX9_init_143 : decode cX9_init 143 = .ok (.invokevirtual 78, 3) := by decide +kernel
theorem dX9_init_146 : decode cX9_init 146 = .ok (.invokevirtual 82, 3) := by decide +kernel
theorem dX9_init_149 : decode cX9_init 149 = .ok (.iinc 1 1, 3) := by decide +kernel
theorem dX9_init_152 : decode cX9_init 152 = .ok (.goto (-25), 3) := by decide +kernel
theorem dX9_init_155 : decode cX9_init 155 = .ok (.aload_n 0, 1) := by decide +kernel
theorem dX9_init_156 : decode cX9_init 156 = .ok (.invokevirtual 86, 3) := by decide +kernel
theorem dX9_init_159 : decode cX9_init 159 = .ok (.aload_n 0, 1) := by decide +kernel
theorem dX9_init_160 : decode cX9_init 160 = .ok (.getfield 12, 3) := by decide +kernel
theorem dX9_init_163 : decode cX9_init 163 = .ok (.invokevirtual 89, 3) := by decide +kernel
theorem dX9_init_166 : decode cX9_init 166 = .ok (.return_, 1) := by decide +kernel
theorem dX9_write_0 : decode cX9_write 0 = .ok (.iload_n 1, 1) := by decide +kernel
theorem dX9_write_1 : decode cX9_write 1 = .ok (.bipush 32, 2) := by decide +kernel
theorem dX9_write_3 : decode cX9_write 3 = .ok (.if_icmp .lt 9, 3) := by decide +kernel
theorem dX9_write_6 : decode cX9_write 6 = .ok (.iload_n 1, 1) := by decide +kernel
theorem dX9_write_7 : decode cX9_write 7 = .ok (.bipush 126, 2) := by decide +kernel
theorem dX9_write_9 : decode cX9_write 9 = .ok (.if_icmp .le 5, 3) := by decide +kernel
theorem dX9_write_12 : decode cX9_write 12 = .ok (.iconst (-1), 1) := by decide +kernel
theorem dX9_write_13 : decode cX9_write 13 = .ok (.ireturn, 1) := by decide +kernel
theorem dX9_write_14 : decode cX9_write 14 = .ok (.aload_n 0, 1) := by decide +kernel
theorem dX9_write_15 : decode cX9_write 15 = .ok (.getfield 12, 3) := by decide +kernel
theorem dX9_write_18 : decode cX9_write 18 = .ok (.invokevirtual 92, 3) := by decide +kernel
theorem dX9_write_21 : decode cX9_write 21 = .ok (.sipush 200, 3) := by decide +kernel
theorem dX9_write_24 : decode cX9_write 24 = .ok (.if_icmp .lt 6, 3) := by decide +kernel
theorem dX9_write_27 : decode cX9_write 27 = .ok (.bipush (-3), 2) := by decide +kernel
theorem dX9_write_29 : decode cX9_write 29 = .ok (.ireturn, 1) := by decide +kernel
theorem dX9_write_30 : decode cX9_write 30 = .ok (.aload_n 0, 1) := by decide +kernel
theorem dX9_write_31 : decode cX9_write 31 = .ok (.getfield 12, 3) := by decide +kernel
theorem dX9_write_34 : decode cX9_write 34 = .ok (.iload_n 1, 1) := by decide +kernel
theorem dX9_write_35 : decode cX9_write 35 = .ok (.invokevirtual 82, 3) := by decide +kernel
theorem dX9_write_38 : decode cX9_write 38 = .ok (.aload_n 0, 1) := by decide +kernel
theorem dX9_write_39 : decode cX9_write 39 = .ok (.getfield 12, 3) := by decide +kernel
theorem dX9_write_42 : decode cX9_write 42 = .ok (.invokevirtual 92, 3) := by decide +kernel
theorem dX9_write_45 : decode cX9_write 45 = .ok (.ireturn, 1) := by decide +kernel
theorem dX9_wipe_0 : decode cX9_wipe 0 = .ok (.aload_n 0, 1) := by decide +kernel
theorem dX9_wipe_1 : decode cX9_wipe 1 = .ok (.getfield 12, 3) := by decide +kernel
theorem dX9_wipe_4 : decode cX9_wipe 4 = .ok (.invokevirtual 92, 3) := by decide +kernel
theorem dX9_wipe_7 : decode cX9_wipe 7 = .ok (.istore_n 1, 1) := by decide +kernel
theorem dX9_wipe_8 : decode cX9_wipe 8 = .ok (.aload_n 0, 1) := by decide +kernel
theorem dX9_wipe_9 : decode cX9_wipe 9 = .ok (.getfield 12, 3) := by decide +kernel
theorem dX9_wipe_12 : decode cX9_wipe 12 = .ok (.invokevirtual 89, 3) := by decide +kernel
theorem dX9_wipe_15 : decode cX9_wipe 15 = .ok (.iload_n 1, 1) := by decide +kernel
theorem dX9_wipe_16 : decode cX9_wipe 16 = .ok (.ireturn, 1) := by decide +kernel
theorem dX9_fault_0 : decode cX9_fault 0 = .ok (.aload_n 0, 1) := by decide +kernel
theorem dX9_fault_1 : decode cX9_fault 1 = .ok (.getfield 12, 3) := by decide +kernel
theorem dX9_fault_4 : decode cX9_fault 4 = .ok (.invokevirtual 93, 3) := by decide +kernel
theorem dX9_fault_7 : decode cX9_fault 7 = .ok (.ireturn, 1) := by decide +kernel
theorem dX9_lay_0 : decode cX9_lay 0 = .ok (.aload_n 0, 1) := by decide +kernel
theorem dX9_lay_1 : decode cX9_lay 1 = .ok (.getfield 12, 3) := by decide +kernel
theorem dX9_lay_4 : decode cX9_lay 4 = .ok (.invokevirtual 93, 3) := by decide +kernel
theorem dX9_lay_7 : decode cX9_lay 7 = .ok (.bipush (-4), 2) := by decide +kernel
theorem dX9_lay_9 : decode cX9_lay 9 = .ok (.if_icmp .ne 13, 3) := by decide +kernel
theorem dX9_lay_12 : decode cX9_lay 12 = .ok (.aload_n 0, 1) := by decide +kernel
theorem dX9_lay_13 : decode cX9_lay 13 = .ok (.getfield 12, 3) := by decide +kernel
theorem dX9_lay_16 : decode cX9_lay 16 = .ok (.invokevirtual 96, 3) := by decide +kernel
theorem dX9_lay_19 : decode cX9_lay 19 = .ok (.ifCond .ne 6, 3) := by decide +kernel
theorem dX9_lay_22 : decode cX9_lay 22 = .ok (.bipush (-2), 2) := by decide +kernel
theorem dX9_lay_24 : decode cX9_lay 24 = .ok (.ireturn, 1) := by decide +kernel
theorem dX9_lay_25 : decode cX9_lay 25 = .ok (.aload_n 0, 1) := by decide +kernel
theorem dX9_lay_26 : decode cX9_lay 26 = .ok (.invokevirtual 86, 3) := by decide +kernel
theorem dX9_lay_29 : decode cX9_lay 29 = .ok (.aload_n 0, 1) := by decide +kernel
theorem dX9_lay_30 : decode cX9_lay 30 = .ok (.getfield 19, 3) := by decide +kernel
theorem dX9_lay_33 : decode cX9_lay 33 = .ok (.invokevirtual 99, 3) := by decide +kernel
theorem dX9_lay_36 : decode cX9_lay 36 = .ok (.ireturn, 1) := by decide +kernel
theorem dX9_rule_0 : decode cX9_rule 0 = .ok (.aload_n 0, 1) := by decide +kernel
theorem dX9_rule_1 : decode cX9_rule 1 = .ok (.iload_n 1, 1) := by decide +kernel
theorem dX9_rule_2 : decode cX9_rule 2 = .ok (.invokevirtual 102, 3) := by decide +kernel
theorem dX9_rule_5 : decode cX9_rule 5 = .ok (.ifCond .eq 12, 3) := by decide +kernel
theorem dX9_rule_8 : decode cX9_rule 8 = .ok (.iload_n 2, 1) := by decide +kernel
theorem dX9_rule_9 : decode cX9_rule 9 = .ok (.ifCond .lt 8, 3) := by decide +kernel
theorem dX9_rule_12 : decode cX9_rule 12 = .ok (.iload_n 2, 1) := by decide +kernel
theorem dX9_rule_13 : decode cX9_rule 13 = .ok (.iconst 3, 1) := by decide +kernel
theorem dX9_rule_14 : decode cX9_rule 14 = .ok (.if_icmp .le 5, 3) := by decide +kernel
theorem dX9_rule_17 : decode cX9_rule 17 = .ok (.iconst (-1), 1) := by decide +kernel
theorem dX9_rule_18 : decode cX9_rule 18 = .ok (.ireturn, 1) := by decide +kernel
theorem dX9_rule_19 : decode cX9_rule 19 = .ok (.iload_n 2, 1) := by decide +kernel
theorem dX9_rule_20 : decode cX9_rule 20 = .ok (.tableswitch 55 0 2 #[28, 37, 46], 28) := by decide +kernel
theorem dX9_rule_48 : decode cX9_rule 48 = .ok (.aload_n 0, 1) := by decide +kernel
theorem dX9_rule_49 : decode cX9_rule 49 = .ok (.getfield 26, 3) := by decide +kernel
theorem dX9_rule_52 : decode cX9_rule 52 = .ok (.iload_n 1, 1) := by decide +kernel
theorem dX9_rule_53 : decode cX9_rule 53 = .ok (.invokevirtual 106, 3) := by decide +kernel
theorem dX9_rule_56 : decode cX9_rule 56 = .ok (.ireturn, 1) := by decide +kernel
theorem dX9_rule_57 : decode cX9_rule 57 = .ok (.aload_n 0, 1) := by decide +kernel
theorem dX9_rule_58 : decode cX9_rule 58 = .ok (.getfield 19, 3) := by decide +kernel
theorem dX9_rule_61 : decode cX9_rule 61 = .ok (.iload_n 1, 1) := by decide +kernel
theorem dX9_rule_62 : decode cX9_rule 62 = .ok (.invokevirtual 110, 3) := by decide +kernel
theorem dX9_rule_65 : decode cX9_rule 65 = .ok (.ireturn, 1) := by decide +kernel
theorem dX9_rule_66 : decode cX9_rule 66 = .ok (.aload_n 0, 1) := by decide +kernel
theorem dX9_rule_67 : decode cX9_rule 67 = .ok (.getfield 19, 3) := by decide +kernel
theorem dX9_rule_70 : decode cX9_rule 70 = .ok (.iload_n 1, 1) := by decide +kernel
theorem dX9_rule_71 : decode cX9_rule 71 = .ok (.invokevirtual 113, 3) := by decide +kernel
theorem dX9_rule_74 : decode cX9_rule 74 = .ok (.ireturn, 1) := by decide +kernel
theorem dX9_rule_75 : decode cX9_rule 75 = .ok (.aload_n 0, 1) := by decide +kernel
theorem dX9_rule_76 : decode cX9_rule 76 = .ok (.getfield 19, 3) := by decide +kernel
theorem dX9_rule_79 : decode cX9_rule 79 = .ok (.iload_n 1, 1) := by decide +kernel
theorem dX9_rule_80 : decode cX9_rule 80 = .ok (.invokevirtual 116, 3) := by decide +kernel
theorem dX9_rule_83 : decode cX9_rule 83 = .ok (.ireturn, 1) := by decide +kernel
theorem dX9_place_0 : decode cX9_place 0 = .ok (.iload_n 1, 1) := by decide +kernel
theorem dX9_place_1 : decode cX9_place 1 = .ok (.ifCond .lt 23, 3) := by decide +kernel
theorem dX9_place_4 : decode cX9_place 4 = .ok (.iload_n 1, 1) := by decide +kernel
theorem dX9_place_5 : decode cX9_place 5 = .ok (.aload_n 0, 1) := by decide +kernel
theorem dX9_place_6 : decode cX9_place 6 = .ok (.getfield 19, 3) := by decide +kernel
theorem dX9_place_9 : decode cX9_place 9 = .ok (.invokevirtual 119, 3) := by decide +kernel
theorem dX9_place_12 : decode cX9_place 12 = .ok (.if_icmp .ge 12, 3) := by decide +kernel
theorem dX9_place_15 : decode cX9_place 15 = .ok (.iload_n 2, 1) := by decide +kernel
theorem dX9_place_16 : decode cX9_place 16 = .ok (.ifCond .lt 8, 3) := by decide +kernel
theorem dX9_place_19 : decode cX9_place 19 = .ok (.iload_n 2, 1) := by decide +kernel
theorem dX9_place_20 : decode cX9_place 20 = .ok (.iconst 1, 1) := by decide +kernel
theorem dX9_place_21 : decode cX9_place 21 = .ok (.if_icmp .le 5, 3) := by decide +kernel
theorem dX9_place_24 : decode cX9_place 24 = .ok (.iconst (-1), 1) := by decide +kernel
theorem dX9_place_25 : decode cX9_place 25 = .ok (.ireturn, 1) := by decide +kernel
theorem dX9_place_26 : decode cX9_place 26 = .ok (.iload_n 2, 1) := by decide +kernel
theorem dX9_place_27 : decode cX9_place 27 = .ok (.ifCond .ne 14, 3) := by decide +kernel
theorem dX9_place_30 : decode cX9_place 30 = .ok (.aload_n 0, 1) := by decide +kernel
theorem dX9_place_31 : decode cX9_place 31 = .ok (.getfield 19, 3) := by decide +kernel
theorem dX9_place_34 : decode cX9_place 34 = .ok (.iload_n 1, 1) := by decide +kernel
theorem dX9_place_35 : decode cX9_place 35 = .ok (.invokevirtual 122, 3) := by decide +kernel
theorem dX9_place_38 : decode cX9_place 38 = .ok (.goto 11, 3) := by decide +kernel
theorem dX9_place_41 : decode cX9_place 41 = .ok (.aload_n 0, 1) := by decide +kernel
theorem dX9_place_42 : decode cX9_place 42 = .ok (.getfield 19, 3) := by decide +kernel
theorem dX9_place_45 : decode cX9_place 45 = .ok (.iload_n 1, 1) := by decide +kernel
theorem dX9_place_46 : decode cX9_place 46 = .ok (.invokevirtual 125, 3) := by decide +kernel
theorem dX9_place_49 : decode cX9_place 49 = .ok (.ireturn, 1) := by decide +kernel
theorem dX9_kind_0 : decode cX9_kind 0 = .ok (.iload_n 1, 1) := by decide +kernel
theorem dX9_kind_1 : decode cX9_kind 1 = .ok (.invokestatic 128, 3) := by decide +kernel
theorem dX9_kind_4 : decode cX9_kind 4 = .ok (.ifCond .eq 14, 3) := by decide +kernel
theorem dX9_kind_7 : decode cX9_kind 7 = .ok (.aload_n 0, 1) := by decide +kernel
theorem dX9_kind_8 : decode cX9_kind 8 = .ok (.getfield 26, 3) := by decide +kernel
theorem dX9_kind_11 : decode cX9_kind 11 = .ok (.iload_n 1, 1) := by decide +kernel
theorem dX9_kind_12 : decode cX9_kind 12 = .ok (.invokevirtual 131, 3) := by decide +kernel
theorem dX9_kind_15 : decode cX9_kind 15 = .ok (.goto 4, 3) := by decide +kernel
theorem dX9_kind_18 : decode cX9_kind 18 = .ok (.iconst (-1), 1) := by decide +kernel
theorem dX9_kind_19 : decode cX9_kind 19 = .ok (.ireturn, 1) := by decide +kernel
theorem dX9_letter_0 : decode cX9_letter 0 = .ok (.aload_n 0, 1) := by decide +kernel
theorem dX9_letter_1 : decode cX9_letter 1 = .ok (.iload_n 1, 1) := by decide +kernel
theorem dX9_letter_2 : decode cX9_letter 2 = .ok (.invokevirtual 134, 3) := by decide +kernel
theorem dX9_letter_5 : decode cX9_letter 5 = .ok (.ifCond .ne 5, 3) := by decide +kernel
theorem dX9_letter_8 : decode cX9_letter 8 = .ok (.iconst (-1), 1) := by decide +kernel
theorem dX9_letter_9 : decode cX9_letter 9 = .ok (.ireturn, 1) := by decide +kernel
theorem dX9_letter_10 : decode cX9_letter 10 = .ok (.iload_n 1, 1) := by decide +kernel
theorem dX9_letter_11 : decode cX9_letter 11 = .ok (.aload_n 0, 1) := by decide +kernel
theorem dX9_letter_12 : decode cX9_letter 12 = .ok (.getfield 26, 3) := by decide +kernel
theorem dX9_letter_15 : decode cX9_letter 15 = .ok (.invokevirtual 137, 3) := by decide +kernel
theorem dX9_letter_18 : decode cX9_letter 18 = .ok (.if_icmp .ne 8, 3) := by decide +kernel
theorem dX9_letter_21 : decode cX9_letter 21 = .ok (.bipush (-4), 2) := by decide +kernel
theorem dX9_letter_23 : decode cX9_letter 23 = .ok (.goto 11, 3) := by decide +kernel
theorem dX9_letter_26 : decode cX9_letter 26 = .ok (.aload_n 0, 1) := by decide +kernel
theorem dX9_letter_27 : decode cX9_letter 27 = .ok (.getfield 26, 3) := by decide +kernel
theorem dX9_letter_30 : decode cX9_letter 30 = .ok (.iload_n 1, 1) := by decide +kernel
theorem dX9_letter_31 : decode cX9_letter 31 = .ok (.invokevirtual 138, 3) := by decide +kernel
theorem dX9_letter_34 : decode cX9_letter 34 = .ok (.ireturn, 1) := by decide +kernel
theorem dX9_insert_0 : decode cX9_insert 0 = .ok (.aload_n 0, 1) := by decide +kernel
theorem dX9_insert_1 : decode cX9_insert 1 = .ok (.iload_n 1, 1) := by decide +kernel
theorem dX9_insert_2 : decode cX9_insert 2 = .ok (.invokevirtual 134, 3) := by decide +kernel
theorem dX9_insert_5 : decode cX9_insert 5 = .ok (.ifCond .eq 10, 3) := by decide +kernel
theorem dX9_insert_8 : decode cX9_insert 8 = .ok (.iload_n 2, 1) := by decide +kernel
theorem dX9_insert_9 : decode cX9_insert 9 = .ok (.invokestatic 128, 3) := by decide +kernel
theorem dX9_insert_12 : decode cX9_insert 12 = .ok (.ifCond .ne 5, 3) := by decide +kernel
theorem dX9_insert_15 : decode cX9_insert 15 = .ok (.iconst (-1), 1) := by decide +kernel
theorem dX9_insert_16 : decode cX9_insert 16 = .ok (.ireturn, 1) := by decide +kernel
theorem dX9_insert_17 : decode cX9_insert 17 = .ok (.aload_n 0, 1) := by decide +kernel
theorem dX9_insert_18 : decode cX9_insert 18 = .ok (.getfield 26, 3) := by decide +kernel
theorem dX9_insert_21 : decode cX9_insert 21 = .ok (.invokevirtual 137, 3) := by decide +kernel
theorem dX9_insert_24 : decode cX9_insert 24 = .ok (.bipush 30, 2) := by decide +kernel
theorem dX9_insert_26 : decode cX9_insert 26 = .ok (.if_icmp .lt 6, 3) := by decide +kernel
theorem dX9_insert_29 : decode cX9_insert 29 = .ok (.bipush (-3), 2) := by decide +kernel
theorem dX9_insert_31 : decode cX9_insert 31 = .ok (.ireturn, 1) := by decide +kernel
theorem dX9_insert_32 : decode cX9_insert 32 = .ok (.aload_n 0, 1) := by decide +kernel
theorem dX9_insert_33 : decode cX9_insert 33 = .ok (.getfield 26, 3) := by decide +kernel
theorem dX9_insert_36 : decode cX9_insert 36 = .ok (.iload_n 1, 1) := by decide +kernel
theorem dX9_insert_37 : decode cX9_insert 37 = .ok (.iload_n 2, 1) := by decide +kernel
theorem dX9_insert_38 : decode cX9_insert 38 = .ok (.invokevirtual 141, 3) := by decide +kernel
theorem dX9_insert_41 : decode cX9_insert 41 = .ok (.aload_n 0, 1) := by decide +kernel
theorem dX9_insert_42 : decode cX9_insert 42 = .ok (.getfield 39, 3) := by decide +kernel
theorem dX9_insert_45 : decode cX9_insert 45 = .ok (.iconst 0, 1) := by decide +kernel
theorem dX9_insert_46 : decode cX9_insert 46 = .ok (.iload_n 1, 1) := by decide +kernel
theorem dX9_insert_47 : decode cX9_insert 47 = .ok (.iload_n 2, 1) := by decide +kernel
theorem dX9_insert_48 : decode cX9_insert 48 = .ok (.invokevirtual 145, 3) := by decide +kernel
theorem dX9_insert_51 : decode cX9_insert 51 = .ok (.aload_n 0, 1) := by decide +kernel
theorem dX9_insert_52 : decode cX9_insert 52 = .ok (.invokevirtual 149, 3) := by decide +kernel
theorem dX9_insert_55 : decode cX9_insert 55 = .ok (.aload_n 0, 1) := by decide +kernel
theorem dX9_insert_56 : decode cX9_insert 56 = .ok (.getfield 26, 3) := by decide +kernel
theorem dX9_insert_59 : decode cX9_insert 59 = .ok (.invokevirtual 137, 3) := by decide +kernel
theorem dX9_insert_62 : decode cX9_insert 62 = .ok (.ireturn, 1) := by decide +kernel
theorem dX9_erase_0 : decode cX9_erase 0 = .ok (.iload_n 1, 1) := by decide +kernel
theorem dX9_erase_1 : decode cX9_erase 1 = .ok (.ifCond .lt 14, 3) := by decide +kernel
theorem dX9_erase_4 : decode cX9_erase 4 = .ok (.iload_n 1, 1) := by decide +kernel
theorem dX9_erase_5 : decode cX9_erase 5 = .ok (.aload_n 0, 1) := by decide +kernel
theorem dX9_erase_6 : decode cX9_erase 6 = .ok (.getfield 26, 3) := by decide +kernel
theorem dX9_erase_9 : decode cX9_erase 9 = .ok (.invokevirtual 137, 3) := by decide +kernel
theorem dX9_erase_12 : decode cX9_erase 12 = .ok (.if_icmp .lt 5, 3) := by decide +kernel
theorem dX9_erase_15 : decode cX9_erase 15 = .ok (.iconst (-1), 1) := by decide +kernel
theorem dX9_erase_16 : decode cX9_erase 16 = .ok (.ireturn, 1) := by decide +kernel
theorem dX9_erase_17 : decode cX9_erase 17 = .ok (.aload_n 0, 1) := by decide +kernel
theorem dX9_erase_18 : decode cX9_erase 18 = .ok (.getfield 26, 3) := by decide +kernel
theorem dX9_erase_21 : decode cX9_erase 21 = .ok (.iload_n 1, 1) := by decide +kernel
theorem dX9_erase_22 : decode cX9_erase 22 = .ok (.invokevirtual 138, 3) := by decide +kernel
theorem dX9_erase_25 : decode cX9_erase 25 = .ok (.istore_n 2, 1) := by decide +kernel
theorem dX9_erase_26 : decode cX9_erase 26 = .ok (.aload_n 0, 1) := by decide +kernel
theorem dX9_erase_27 : decode cX9_erase 27 = .ok (.getfield 26, 3) := by decide +kernel
theorem dX9_erase_30 : decode cX9_erase 30 = .ok (.iload_n 1, 1) := by decide +kernel
theorem dX9_erase_31 : decode cX9_erase 31 = .ok (.invokevirtual 152, 3) := by decide +kernel
theorem dX9_erase_34 : decode cX9_erase 34 = .ok (.aload_n 0, 1) := by decide +kernel
theorem dX9_erase_35 : decode cX9_erase 35 = .ok (.getfield 39, 3) := by decide +kernel
theorem dX9_erase_38 : decode cX9_erase 38 = .ok (.iconst 1, 1) := by decide +kernel
theorem dX9_erase_39 : decode cX9_erase 39 = .ok (.iload_n 1, 1) := by decide +kernel
theorem dX9_erase_40 : decode cX9_erase 40 = .ok (.iload_n 2, 1) := by decide +kernel
theorem dX9_erase_41 : decode cX9_erase 41 = .ok (.invokevirtual 145, 3) := by decide +kernel
theorem dX9_erase_44 : decode cX9_erase 44 = .ok (.aload_n 0, 1) := by decide +kernel
theorem dX9_erase_45 : decode cX9_erase 45 = .ok (.invokevirtual 149, 3) := by decide +kernel
theorem dX9_erase_48 : decode cX9_erase 48 = .ok (.iload_n 2, 1) := by decide +kernel
theorem dX9_erase_49 : decode cX9_erase 49 = .ok (.ireturn, 1) := by decide +kernel
theorem dX9_tell_0 : decode cX9_tell 0 = .ok (.iload_n 1, 1) := by decide +kernel
theorem dX9_tell_1 : decode cX9_tell 1 = .ok (.invokestatic 128, 3) := by decide +kernel
theorem dX9_tell_4 : decode cX9_tell 4 = .ok (.ifCond .eq 10, 3) := by decide +kernel
theorem dX9_tell_7 : decode cX9_tell 7 = .ok (.iload_n 2, 1) := by decide +kernel
theorem dX9_tell_8 : decode cX9_tell 8 = .ok (.invokestatic 155, 3) := by decide +kernel
theorem dX9_tell_11 : decode cX9_tell 11 = .ok (.ifCond .ne 5, 3) := by decide +kernel
theorem dX9_tell_14 : decode cX9_tell 14 = .ok (.iconst (-1), 1) := by decide +kernel
theorem dX9_tell_15 : decode cX9_tell 15 = .ok (.ireturn, 1) := by decide +kernel
theorem dX9_tell_16 : decode cX9_tell 16 = .ok (.aload_n 0, 1) := by decide +kernel
theorem dX9_tell_17 : decode cX9_tell 17 = .ok (.getfield 26, 3) := by decide +kernel
theorem dX9_tell_20 : decode cX9_tell 20 = .ok (.iload_n 1, 1) := by decide +kernel
theorem dX9_tell_21 : decode cX9_tell 21 = .ok (.invokevirtual 131, 3) := by decide +kernel
theorem dX9_tell_24 : decode cX9_tell 24 = .ok (.istore_n 3, 1) := by decide +kernel
theorem dX9_tell_25 : decode cX9_tell 25 = .ok (.iload_n 3, 1) := by decide +kernel
theorem dX9_tell_26 : decode cX9_tell 26 = .ok (.iload_n 2, 1) := by decide +kernel
theorem dX9_tell_27 : decode cX9_tell 27 = .ok (.if_icmp .ne 6, 3) := by decide +kernel
theorem dX9_tell_30 : decode cX9_tell 30 = .ok (.bipush (-2), 2) := by decide +kernel
theorem dX9_tell_32 : decode cX9_tell 32 = .ok (.ireturn, 1) := by decide +kernel
theorem dX9_tell_33 : decode cX9_tell 33 = .ok (.aload_n 0, 1) := by decide +kernel
theorem dX9_tell_34 : decode cX9_tell 34 = .ok (.getfield 26, 3) := by decide +kernel
theorem dX9_tell_37 : decode cX9_tell 37 = .ok (.iload_n 1, 1) := by decide +kernel
theorem dX9_tell_38 : decode cX9_tell 38 = .ok (.iload_n 2, 1) := by decide +kernel
theorem dX9_tell_39 : decode cX9_tell 39 = .ok (.invokevirtual 158, 3) := by decide +kernel
theorem dX9_tell_42 : decode cX9_tell 42 = .ok (.aload_n 0, 1) := by decide +kernel
theorem dX9_tell_43 : decode cX9_tell 43 = .ok (.getfield 39, 3) := by decide +kernel
theorem dX9_tell_46 : decode cX9_tell 46 = .ok (.iconst 2, 1) := by decide +kernel
theorem dX9_tell_47 : decode cX9_tell 47 = .ok (.iload_n 1, 1) := by decide +kernel
theorem dX9_tell_48 : decode cX9_tell 48 = .ok (.iload_n 3, 1) := by decide +kernel
theorem dX9_tell_49 : decode cX9_tell 49 = .ok (.invokevirtual 145, 3) := by decide +kernel
theorem dX9_tell_52 : decode cX9_tell 52 = .ok (.aload_n 0, 1) := by decide +kernel
theorem dX9_tell_53 : decode cX9_tell 53 = .ok (.invokevirtual 149, 3) := by decide +kernel
theorem dX9_tell_56 : decode cX9_tell 56 = .ok (.iload_n 3, 1) := by decide +kernel
theorem dX9_tell_57 : decode cX9_tell 57 = .ok (.ireturn, 1) := by decide +kernel
theorem dX9_rename_0 : decode cX9_rename 0 = .ok (.aload_n 0, 1) := by decide +kernel
theorem dX9_rename_1 : decode cX9_rename 1 = .ok (.iload_n 1, 1) := by decide +kernel
theorem dX9_rename_2 : decode cX9_rename 2 = .ok (.invokevirtual 102, 3) := by decide +kernel
theorem dX9_rename_5 : decode cX9_rename 5 = .ok (.ifCond .eq 12, 3) := by decide +kernel
theorem dX9_rename_8 : decode cX9_rename 8 = .ok (.iload_n 2, 1) := by decide +kernel
theorem dX9_rename_9 : decode cX9_rename 9 = .ok (.ifCond .lt 8, 3) := by decide +kernel
theorem dX9_rename_12 : decode cX9_rename 12 = .ok (.iload_n 2, 1) := by decide +kernel
theorem dX9_rename_13 : decode cX9_rename 13 = .ok (.iconst 4, 1) := by decide +kernel
theorem dX9_rename_14 : decode cX9_rename 14 = .ok (.if_icmp .lt 5, 3) := by decide +kernel
theorem dX9_rename_17 : decode cX9_rename 17 = .ok (.iconst (-1), 1) := by decide +kernel
theorem dX9_rename_18 : decode cX9_rename 18 = .ok (.ireturn, 1) := by decide +kernel
theorem dX9_rename_19 : decode cX9_rename 19 = .ok (.aload_n 0, 1) := by decide +kernel
theorem dX9_rename_20 : decode cX9_rename 20 = .ok (.getfield 26, 3) := by decide +kernel
theorem dX9_rename_23 : decode cX9_rename 23 = .ok (.iload_n 1, 1) := by decide +kernel
theorem dX9_rename_24 : decode cX9_rename 24 = .ok (.invokevirtual 106, 3) := by decide +kernel
theorem dX9_rename_27 : decode cX9_rename 27 = .ok (.istore_n 3, 1) := by decide +kernel
theorem dX9_rename_28 : decode cX9_rename 28 = .ok (.iload_n 3, 1) := by decide +kernel
theorem dX9_rename_29 : decode cX9_rename 29 = .ok (.iload_n 2, 1) := by decide +kernel
theorem dX9_rename_30 : decode cX9_rename 30 = .ok (.if_icmp .ne 6, 3) := by decide +kernel
theorem dX9_rename_33 : decode cX9_rename 33 = .ok (.bipush (-2), 2) := by decide +kernel
theorem dX9_rename_35 : decode cX9_rename 35 = .ok (.ireturn, 1) := by decide +kernel
theorem dX9_rename_36 : decode cX9_rename 36 = .ok (.aload_n 0, 1) := by decide +kernel
theorem dX9_rename_37 : decode cX9_rename 37 = .ok (.getfield 26, 3) := by decide +kernel
theorem dX9_rename_40 : decode cX9_rename 40 = .ok (.iload_n 1, 1) := by decide +kernel
theorem dX9_rename_41 : decode cX9_rename 41 = .ok (.iload_n 2, 1) := by decide +kernel
theorem dX9_rename_42 : decode cX9_rename 42 = .ok (.invokevirtual 161, 3) := by decide +kernel
theorem dX9_rename_45 : decode cX9_rename 45 = .ok (.aload_n 0, 1) := by decide +kernel
theorem dX9_rename_46 : decode cX9_rename 46 = .ok (.getfield 39, 3) := by decide +kernel
theorem dX9_rename_49 : decode cX9_rename 49 = .ok (.iconst 3, 1) := by decide +kernel
theorem dX9_rename_50 : decode cX9_rename 50 = .ok (.iload_n 1, 1) := by decide +kernel
theorem dX9_rename_51 : decode cX9_rename 51 = .ok (.iload_n 3, 1) := by decide +kernel
theorem dX9_rename_52 : decode cX9_rename 52 = .ok (.invokevirtual 145, 3) := by decide +kernel
theorem dX9_rename_55 : decode cX9_rename 55 = .ok (.aload_n 0, 1) := by decide +kernel
theorem dX9_rename_56 : decode cX9_rename 56 = .ok (.invokevirtual 164, 3) := by decide +kernel
theorem dX9_rename_59 : decode cX9_rename 59 = .ok (.iload_n 3, 1) := by decide +kernel
theorem dX9_rename_60 : decode cX9_rename 60 = .ok (.ireturn, 1) := by decide +kernel
theorem dX9_undo_0 : decode cX9_undo 0 = .ok (.aload_n 0, 1) := by decide +kernel
theorem dX9_undo_1 : decode cX9_undo 1 = .ok (.getfield 39, 3) := by decide +kernel
theorem dX9_undo_4 : decode cX9_undo 4 = .ok (.invokevirtual 167, 3) := by decide +kernel
theorem dX9_undo_7 : decode cX9_undo 7 = .ok (.ifCond .ne 6, 3) := by decide +kernel
theorem dX9_undo_10 : decode cX9_undo 10 = .ok (.bipush (-2), 2) := by decide +kernel
theorem dX9_undo_12 : decode cX9_undo 12 = .ok (.ireturn, 1) := by decide +kernel
theorem dX9_undo_13 : decode cX9_undo 13 = .ok (.aload_n 0, 1) := by decide +kernel
theorem dX9_undo_14 : decode cX9_undo 14 = .ok (.getfield 39, 3) := by decide +kernel
theorem dX9_undo_17 : decode cX9_undo 17 = .ok (.aload_n 0, 1) := by decide +kernel
theorem dX9_undo_18 : decode cX9_undo 18 = .ok (.getfield 26, 3) := by decide +kernel
theorem dX9_undo_21 : decode cX9_undo 21 = .ok (.invokevirtual 168, 3) := by decide +kernel
theorem dX9_undo_24 : decode cX9_undo 24 = .ok (.ifCond .eq 10, 3) := by decide +kernel
theorem dX9_undo_27 : decode cX9_undo 27 = .ok (.aload_n 0, 1) := by decide +kernel
theorem dX9_undo_28 : decode cX9_undo 28 = .ok (.invokevirtual 164, 3) := by decide +kernel
theorem dX9_undo_31 : decode cX9_undo 31 = .ok (.goto 7, 3) := by decide +kernel
theorem dX9_undo_34 : decode cX9_undo 34 = .ok (.aload_n 0, 1) := by decide +kernel
theorem dX9_undo_35 : decode cX9_undo 35 = .ok (.invokevirtual 149, 3) := by decide +kernel
theorem dX9_undo_38 : decode cX9_undo 38 = .ok (.aload_n 0, 1) := by decide +kernel
theorem dX9_undo_39 : decode cX9_undo 39 = .ok (.getfield 39, 3) := by decide +kernel
theorem dX9_undo_42 : decode cX9_undo 42 = .ok (.invokevirtual 167, 3) := by decide +kernel
theorem dX9_undo_45 : decode cX9_undo 45 = .ok (.ireturn, 1) := by decide +kernel
theorem dX9_isBoundary_0 : decode cX9_isBoundary 0 = .ok (.aload_n 0, 1) := by decide +kernel
theorem dX9_isBoundary_1 : decode cX9_isBoundary 1 = .ok (.iload_n 1, 1) := by decide +kernel
theorem dX9_isBoundary_2 : decode cX9_isBoundary 2 = .ok (.invokevirtual 134, 3) := by decide +kernel
theorem dX9_isBoundary_5 : decode cX9_isBoundary 5 = .ok (.ifCond .ne 5, 3) := by decide +kernel
theorem dX9_isBoundary_8 : decode cX9_isBoundary 8 = .ok (.iconst (-1), 1) := by decide +kernel
theorem dX9_isBoundary_9 : decode cX9_isBoundary 9 = .ok (.ireturn, 1) := by decide +kernel
theorem dX9_isBoundary_10 : decode cX9_isBoundary 10 = .ok (.aload_n 0, 1) := by decide +kernel
theorem dX9_isBoundary_11 : decode cX9_isBoundary 11 = .ok (.getfield 53, 3) := by decide +kernel
theorem dX9_isBoundary_14 : decode cX9_isBoundary 14 = .ok (.iload_n 1, 1) := by decide +kernel
theorem dX9_isBoundary_15 : decode cX9_isBoundary 15 = .ok (.invokevirtual 172, 3) := by decide +kernel
theorem dX9_isBoundary_18 : decode cX9_isBoundary 18 = .ok (.ifCond .eq 7, 3) := by decide +kernel
theorem dX9_isBoundary_21 : decode cX9_isBoundary 21 = .ok (.iconst 1, 1) := by decide +kernel
theorem dX9_isBoundary_22 : decode cX9_isBoundary 22 = .ok (.goto 4, 3) := by decide +kernel
theorem dX9_isBoundary_25 : decode cX9_isBoundary 25 = .ok (.iconst 0, 1) := by decide +kernel
theorem dX9_isBoundary_26 : decode cX9_isBoundary 26 = .ok (.ireturn, 1) := by decide +kernel
theorem dX9_boundary_0 : decode cX9_boundary 0 = .ok (.aload_n 0, 1) := by decide +kernel
theorem dX9_boundary_1 : decode cX9_boundary 1 = .ok (.iload_n 1, 1) := by decide +kernel
theorem dX9_boundary_2 : decode cX9_boundary 2 = .ok (.invokevirtual 134, 3) := by decide +kernel
theorem dX9_boundary_5 : decode cX9_boundary 5 = .ok (.ifCond .eq 12, 3) := by decide +kernel
theorem dX9_boundary_8 : decode cX9_boundary 8 = .ok (.iload_n 2, 1) := by decide +kernel
theorem dX9_boundary_9 : decode cX9_boundary 9 = .ok (.ifCond .lt 8, 3) := by decide +kernel
theorem dX9_boundary_12 : decode cX9_boundary 12 = .ok (.iload_n 2, 1) := by decide +kernel
theorem dX9_boundary_13 : decode cX9_boundary 13 = .ok (.iconst 1, 1) := by decide +kernel
theorem dX9_boundary_14 : decode cX9_boundary 14 = .ok (.if_icmp .le 5, 3) := by decide +kernel
theorem dX9_boundary_17 : decode cX9_boundary 17 = .ok (.iconst (-1), 1) := by decide +kernel
theorem dX9_boundary_18 : decode cX9_boundary 18 = .ok (.ireturn, 1) := by decide +kernel
theorem dX9_boundary_19 : decode cX9_boundary 19 = .ok (.iload_n 2, 1) := by decide +kernel
theorem dX9_boundary_20 : decode cX9_boundary 20 = .ok (.ifCond .ne 14, 3) := by decide +kernel
theorem dX9_boundary_23 : decode cX9_boundary 23 = .ok (.aload_n 0, 1) := by decide +kernel
theorem dX9_boundary_24 : decode cX9_boundary 24 = .ok (.getfield 53, 3) := by decide +kernel
theorem dX9_boundary_27 : decode cX9_boundary 27 = .ok (.iload_n 1, 1) := by decide +kernel
theorem dX9_boundary_28 : decode cX9_boundary 28 = .ok (.invokevirtual 175, 3) := by decide +kernel
theorem dX9_boundary_31 : decode cX9_boundary 31 = .ok (.goto 11, 3) := by decide +kernel
theorem dX9_boundary_34 : decode cX9_boundary 34 = .ok (.aload_n 0, 1) := by decide +kernel
theorem dX9_boundary_35 : decode cX9_boundary 35 = .ok (.getfield 53, 3) := by decide +kernel
theorem dX9_boundary_38 : decode cX9_boundary 38 = .ok (.iload_n 1, 1) := by decide +kernel
theorem dX9_boundary_39 : decode cX9_boundary 39 = .ok (.invokevirtual 178, 3) := by decide +kernel
theorem dX9_boundary_42 : decode cX9_boundary 42 = .ok (.ireturn, 1) := by decide +kernel
theorem dX9_stand_0 : decode cX9_stand 0 = .ok (.aload_n 0, 1) := by decide +kernel
theorem dX9_stand_1 : decode cX9_stand 1 = .ok (.iload_n 1, 1) := by decide +kernel
theorem dX9_stand_2 : decode cX9_stand 2 = .ok (.invokevirtual 134, 3) := by decide +kernel
theorem dX9_stand_5 : decode cX9_stand 5 = .ok (.ifCond .ne 5, 3) := by decide +kernel
theorem dX9_stand_8 : decode cX9_stand 8 = .ok (.iconst (-1), 1) := by decide +kernel
theorem dX9_stand_9 : decode cX9_stand 9 = .ok (.ireturn, 1) := by decide +kernel
theorem dX9_stand_10 : decode cX9_stand 10 = .ok (.iload_n 1, 1) := by decide +kernel
theorem dX9_stand_11 : decode cX9_stand 11 = .ok (.ifCond .ne 8, 3) := by decide +kernel
theorem dX9_stand_14 : decode cX9_stand 14 = .ok (.bipush (-4), 2) := by decide +kernel
theorem dX9_stand_16 : decode cX9_stand 16 = .ok (.goto 11, 3) := by decide +kernel
theorem dX9_stand_19 : decode cX9_stand 19 = .ok (.aload_n 0, 1) := by decide +kernel
theorem dX9_stand_20 : decode cX9_stand 20 = .ok (.getfield 53, 3) := by decide +kernel
theorem dX9_stand_23 : decode cX9_stand 23 = .ok (.iload_n 1, 1) := by decide +kernel
theorem dX9_stand_24 : decode cX9_stand 24 = .ok (.invokevirtual 181, 3) := by decide +kernel
theorem dX9_stand_27 : decode cX9_stand 27 = .ok (.ireturn, 1) := by decide +kernel
theorem dX9_piece_0 : decode cX9_piece 0 = .ok (.iload_n 1, 1) := by decide +kernel
theorem dX9_piece_1 : decode cX9_piece 1 = .ok (.ifCond .lt 23, 3) := by decide +kernel
theorem dX9_piece_4 : decode cX9_piece 4 = .ok (.iload_n 1, 1) := by decide +kernel
theorem dX9_piece_5 : decode cX9_piece 5 = .ok (.aload_n 0, 1) := by decide +kernel
theorem dX9_piece_6 : decode cX9_piece 6 = .ok (.getfield 53, 3) := by decide +kernel
theorem dX9_piece_9 : decode cX9_piece 9 = .ok (.invokevirtual 184, 3) := by decide +kernel
theorem dX9_piece_12 : decode cX9_piece 12 = .ok (.if_icmp .ge 12, 3) := by decide +kernel
theorem dX9_piece_15 : decode cX9_piece 15 = .ok (.iload_n 2, 1) := by decide +kernel
theorem dX9_piece_16 : decode cX9_piece 16 = .ok (.ifCond .lt 8, 3) := by decide +kernel
theorem dX9_piece_19 : decode cX9_piece 19 = .ok (.iload_n 2, 1) := by decide +kernel
theorem dX9_piece_20 : decode cX9_piece 20 = .ok (.iconst 3, 1) := by decide +kernel
theorem dX9_piece_21 : decode cX9_piece 21 = .ok (.if_icmp .le 5, 3) := by decide +kernel
theorem dX9_piece_24 : decode cX9_piece 24 = .ok (.iconst (-1), 1) := by decide +kernel
theorem dX9_piece_25 : decode cX9_piece 25 = .ok (.ireturn, 1) := by decide +kernel
theorem dX9_piece_26 : decode cX9_piece 26 = .ok (.aload_n 0, 1) := by decide +kernel
theorem dX9_piece_27 : decode cX9_piece 27 = .ok (.getfield 53, 3) := by decide +kernel
theorem dX9_piece_30 : decode cX9_piece 30 = .ok (.iload_n 1, 1) := by decide +kernel
theorem dX9_piece_31 : decode cX9_piece 31 = .ok (.invokevirtual 185, 3) := by decide +kernel
theorem dX9_piece_34 : decode cX9_piece 34 = .ok (.istore_n 3, 1) := by decide +kernel
theorem dX9_piece_35 : decode cX9_piece 35 = .ok (.aload_n 0, 1) := by decide +kernel
theorem dX9_piece_36 : decode cX9_piece 36 = .ok (.getfield 53, 3) := by decide +kernel
theorem dX9_piece_39 : decode cX9_piece 39 = .ok (.iload_n 3, 1) := by decide +kernel
theorem dX9_piece_40 : decode cX9_piece 40 = .ok (.invokevirtual 175, 3) := by decide +kernel
theorem dX9_piece_43 : decode cX9_piece 43 = .ok (.istore 4, 2) := by decide +kernel
theorem dX9_piece_45 : decode cX9_piece 45 = .ok (.iload_n 2, 1) := by decide +kernel
theorem dX9_piece_46 : decode cX9_piece 46 = .ok (.tableswitch 50 0 2 #[26, 28, 33], 26) := by decide +kernel
theorem dX9_piece_72 : decode cX9_piece 72 = .ok (.iload_n 3, 1) := by decide +kernel
theorem dX9_piece_73 : decode cX9_piece 73 = .ok (.ireturn, 1) := by decide +kernel
theorem dX9_piece_74 : decode cX9_piece 74 = .ok (.iload 4, 2) := by decide +kernel
theorem dX9_piece_76 : decode cX9_piece 76 = .ok (.iload_n 3, 1) := by decide +kernel
theorem dX9_piece_77 : decode cX9_piece 77 = .ok (.isub, 1) := by decide +kernel
theorem dX9_piece_78 : decode cX9_piece 78 = .ok (.ireturn, 1) := by decide +kernel
theorem dX9_piece_79 : decode cX9_piece 79 = .ok (.aload_n 0, 1) := by decide +kernel
theorem dX9_piece_80 : decode cX9_piece 80 = .ok (.getfield 19, 3) := by decide +kernel
theorem dX9_piece_83 : decode cX9_piece 83 = .ok (.aload_n 0, 1) := by decide +kernel
theorem dX9_piece_84 : decode cX9_piece 84 = .ok (.getfield 53, 3) := by decide +kernel
theorem dX9_piece_87 : decode cX9_piece 87 = .ok (.iload 4, 2) := by decide +kernel
theorem dX9_piece_89 : decode cX9_piece 89 = .ok (.invokevirtual 181, 3) := by decide +kernel
theorem dX9_piece_92 : decode cX9_piece 92 = .ok (.invokevirtual 188, 3) := by decide +kernel
theorem dX9_piece_95 : decode cX9_piece 95 = .ok (.ireturn, 1) := by decide +kernel
theorem dX9_piece_96 : decode cX9_piece 96 = .ok (.aload_n 0, 1) := by decide +kernel
theorem dX9_piece_97 : decode cX9_piece 97 = .ok (.getfield 19, 3) := by decide +kernel
theorem dX9_piece_100 : decode cX9_piece 100 = .ok (.aload_n 0, 1) := by decide +kernel
theorem dX9_piece_101 : decode cX9_piece 101 = .ok (.getfield 53, 3) := by decide +kernel
theorem dX9_piece_104 : decode cX9_piece 104 = .ok (.iload 4, 2) := by decide +kernel
theorem dX9_piece_106 : decode cX9_piece 106 = .ok (.invokevirtual 181, 3) := by decide +kernel
theorem dX9_piece_109 : decode cX9_piece 109 = .ok (.invokevirtual 191, 3) := by decide +kernel
theorem dX9_piece_112 : decode cX9_piece 112 = .ok (.ireturn, 1) := by decide +kernel
theorem dX9_machine_0 : decode cX9_machine 0 = .ok (.iload_n 1, 1) := by decide +kernel
theorem dX9_machine_1 : decode cX9_machine 1 = .ok (.ifCond .lt 8, 3) := by decide +kernel
theorem dX9_machine_4 : decode cX9_machine 4 = .ok (.iload_n 1, 1) := by decide +kernel
theorem dX9_machine_5 : decode cX9_machine 5 = .ok (.iconst 4, 1) := by decide +kernel
theorem dX9_machine_6 : decode cX9_machine 6 = .ok (.if_icmp .le 5, 3) := by decide +kernel
theorem dX9_machine_9 : decode cX9_machine 9 = .ok (.iconst (-1), 1) := by decide +kernel
theorem dX9_machine_10 : decode cX9_machine 10 = .ok (.ireturn, 1) := by decide +kernel
theorem dX9_machine_11 : decode cX9_machine 11 = .ok (.aload_n 0, 1) := by decide +kernel
theorem dX9_machine_12 : decode cX9_machine 12 = .ok (.getfield 60, 3) := by decide +kernel
theorem dX9_machine_15 : decode cX9_machine 15 = .ok (.aload_n 0, 1) := by decide +kernel
theorem dX9_machine_16 : decode cX9_machine 16 = .ok (.getfield 46, 3) := by decide +kernel
theorem dX9_machine_19 : decode cX9_machine 19 = .ok (.invokevirtual 194, 3) := by decide +kernel
theorem dX9_machine_22 : decode cX9_machine 22 = .ok (.iload_n 1, 1) := by decide +kernel
theorem dX9_machine_23 : decode cX9_machine 23 = .ok (.tableswitch 61 0 3 #[29, 37, 45, 53], 29) := by decide +kernel
theorem dX9_machine_52 : decode cX9_machine 52 = .ok (.aload_n 0, 1) := by decide +kernel
theorem dX9_machine_53 : decode cX9_machine 53 = .ok (.getfield 60, 3) := by decide +kernel
theorem dX9_machine_56 : decode cX9_machine 56 = .ok (.invokevirtual 198, 3) := by decide +kernel
theorem dX9_machine_59 : decode cX9_machine 59 = .ok (.ireturn, 1) := by decide +kernel
theorem dX9_machine_60 : decode cX9_machine 60 = .ok (.aload_n 0, 1) := by decide +kernel
theorem dX9_machine_61 : decode cX9_machine 61 = .ok (.getfield 60, 3) := by decide +kernel
theorem dX9_machine_64 : decode cX9_machine 64 = .ok (.invokevirtual 199, 3) := by decide +kernel
theorem dX9_machine_67 : decode cX9_machine 67 = .ok (.ireturn, 1) := by decide +kernel
theorem dX9_machine_68 : decode cX9_machine 68 = .ok (.aload_n 0, 1) := by decide +kernel
theorem dX9_machine_69 : decode cX9_machine 69 = .ok (.getfield 60, 3) := by decide +kernel
theorem dX9_machine_72 : decode cX9_machine 72 = .ok (.invokevirtual 202, 3) := by decide +kernel
theorem dX9_machine_75 : decode cX9_machine 75 = .ok (.ireturn, 1) := by decide +kernel
theorem dX9_machine_76 : decode cX9_machine 76 = .ok (.aload_n 0, 1) := by decide +kernel
theorem dX9_machine_77 : decode cX9_machine 77 = .ok (.getfield 26, 3) := by decide +kernel
theorem dX9_machine_80 : decode cX9_machine 80 = .ok (.invokevirtual 205, 3) := by decide +kernel
theorem dX9_machine_83 : decode cX9_machine 83 = .ok (.ireturn, 1) := by decide +kernel
theorem dX9_machine_84 : decode cX9_machine 84 = .ok (.aload_n 0, 1) := by decide +kernel
theorem dX9_machine_85 : decode cX9_machine 85 = .ok (.invokevirtual 208, 3) := by decide +kernel
theorem dX9_machine_88 : decode cX9_machine 88 = .ok (.ireturn, 1) := by decide +kernel
theorem dX9_alike_0 : decode cX9_alike 0 = .ok (.iload_n 1, 1) := by decide +kernel
theorem dX9_alike_1 : decode cX9_alike 1 = .ok (.invokestatic 155, 3) := by decide +kernel
theorem dX9_alike_4 : decode cX9_alike 4 = .ok (.ifCond .eq 10, 3) := by decide +kernel
theorem dX9_alike_7 : decode cX9_alike 7 = .ok (.iload_n 2, 1) := by decide +kernel
theorem dX9_alike_8 : decode cX9_alike 8 = .ok (.invokestatic 155, 3) := by decide +kernel
theorem dX9_alike_11 : decode cX9_alike 11 = .ok (.ifCond .ne 5, 3) := by decide +kernel
theorem dX9_alike_14 : decode cX9_alike 14 = .ok (.iconst (-1), 1) := by decide +kernel
theorem dX9_alike_15 : decode cX9_alike 15 = .ok (.ireturn, 1) := by decide +kernel
theorem dX9_alike_16 : decode cX9_alike 16 = .ok (.aload_n 0, 1) := by decide +kernel
theorem dX9_alike_17 : decode cX9_alike 17 = .ok (.getfield 60, 3) := by decide +kernel
theorem dX9_alike_20 : decode cX9_alike 20 = .ok (.aload_n 0, 1) := by decide +kernel
theorem dX9_alike_21 : decode cX9_alike 21 = .ok (.getfield 46, 3) := by decide +kernel
theorem dX9_alike_24 : decode cX9_alike 24 = .ok (.invokevirtual 194, 3) := by decide +kernel
theorem dX9_alike_27 : decode cX9_alike 27 = .ok (.aload_n 0, 1) := by decide +kernel
theorem dX9_alike_28 : decode cX9_alike 28 = .ok (.getfield 60, 3) := by decide +kernel
theorem dX9_alike_31 : decode cX9_alike 31 = .ok (.iload_n 1, 1) := by decide +kernel
theorem dX9_alike_32 : decode cX9_alike 32 = .ok (.iload_n 2, 1) := by decide +kernel
theorem dX9_alike_33 : decode cX9_alike 33 = .ok (.invokevirtual 211, 3) := by decide +kernel
theorem dX9_alike_36 : decode cX9_alike 36 = .ok (.ifCond .eq 7, 3) := by decide +kernel
theorem dX9_alike_39 : decode cX9_alike 39 = .ok (.iconst 1, 1) := by decide +kernel
theorem dX9_alike_40 : decode cX9_alike 40 = .ok (.goto 4, 3) := by decide +kernel
theorem dX9_alike_43 : decode cX9_alike 43 = .ok (.iconst 0, 1) := by decide +kernel
theorem dX9_alike_44 : decode cX9_alike 44 = .ok (.ireturn, 1) := by decide +kernel
theorem dX9_known_0 : decode cX9_known 0 = .ok (.iload_n 1, 1) := by decide +kernel
theorem dX9_known_1 : decode cX9_known 1 = .ok (.invokestatic 155, 3) := by decide +kernel
theorem dX9_known_4 : decode cX9_known 4 = .ok (.ifCond .eq 10, 3) := by decide +kernel
theorem dX9_known_7 : decode cX9_known 7 = .ok (.iload_n 2, 1) := by decide +kernel
theorem dX9_known_8 : decode cX9_known 8 = .ok (.invokestatic 155, 3) := by decide +kernel
theorem dX9_known_11 : decode cX9_known 11 = .ok (.ifCond .ne 5, 3) := by decide +kernel
theorem dX9_known_14 : decode cX9_known 14 = .ok (.iconst (-1), 1) := by decide +kernel
theorem dX9_known_15 : decode cX9_known 15 = .ok (.ireturn, 1) := by decide +kernel
theorem dX9_known_16 : decode cX9_known 16 = .ok (.aload_n 0, 1) := by decide +kernel
theorem dX9_known_17 : decode cX9_known 17 = .ok (.getfield 60, 3) := by decide +kernel
theorem dX9_known_20 : decode cX9_known 20 = .ok (.aload_n 0, 1) := by decide +kernel
theorem dX9_known_21 : decode cX9_known 21 = .ok (.getfield 46, 3) := by decide +kernel
theorem dX9_known_24 : decode cX9_known 24 = .ok (.invokevirtual 194, 3) := by decide +kernel
theorem dX9_known_27 : decode cX9_known 27 = .ok (.aload_n 0, 1) := by decide +kernel
theorem dX9_known_28 : decode cX9_known 28 = .ok (.getfield 60, 3) := by decide +kernel
theorem dX9_known_31 : decode cX9_known 31 = .ok (.iload_n 1, 1) := by decide +kernel
theorem dX9_known_32 : decode cX9_known 32 = .ok (.iload_n 2, 1) := by decide +kernel
theorem dX9_known_33 : decode cX9_known 33 = .ok (.invokevirtual 215, 3) := by decide +kernel
theorem dX9_known_36 : decode cX9_known 36 = .ok (.ifCond .eq 7, 3) := by decide +kernel
theorem dX9_known_39 : decode cX9_known 39 = .ok (.iconst 1, 1) := by decide +kernel
theorem dX9_known_40 : decode cX9_known 40 = .ok (.goto 4, 3) := by decide +kernel
theorem dX9_known_43 : decode cX9_known 43 = .ok (.iconst 0, 1) := by decide +kernel
theorem dX9_known_44 : decode cX9_known 44 = .ok (.ireturn, 1) := by decide +kernel
theorem dX9_back_0 : decode cX9_back 0 = .ok (.aload_n 0, 1) := by decide +kernel
theorem dX9_back_1 : decode cX9_back 1 = .ok (.iload_n 1, 1) := by decide +kernel
theorem dX9_back_2 : decode cX9_back 2 = .ok (.invokevirtual 134, 3) := by decide +kernel
theorem dX9_back_5 : decode cX9_back 5 = .ok (.ifCond .eq 12, 3) := by decide +kernel
theorem dX9_back_8 : decode cX9_back 8 = .ok (.iload_n 2, 1) := by decide +kernel
theorem dX9_back_9 : decode cX9_back 9 = .ok (.ifCond .lt 8, 3) := by decide +kernel
theorem dX9_back_12 : decode cX9_back 12 = .ok (.iload_n 2, 1) := by decide +kernel
theorem dX9_back_13 : decode cX9_back 13 = .ok (.iconst 1, 1) := by decide +kernel
theorem dX9_back_14 : decode cX9_back 14 = .ok (.if_icmp .le 5, 3) := by decide +kernel
theorem dX9_back_17 : decode cX9_back 17 = .ok (.iconst (-1), 1) := by decide +kernel
theorem dX9_back_18 : decode cX9_back 18 = .ok (.ireturn, 1) := by decide +kernel
theorem dX9_back_19 : decode cX9_back 19 = .ok (.aload_n 0, 1) := by decide +kernel
theorem dX9_back_20 : decode cX9_back 20 = .ok (.getfield 60, 3) := by decide +kernel
theorem dX9_back_23 : decode cX9_back 23 = .ok (.aload_n 0, 1) := by decide +kernel
theorem dX9_back_24 : decode cX9_back 24 = .ok (.getfield 46, 3) := by decide +kernel
theorem dX9_back_27 : decode cX9_back 27 = .ok (.invokevirtual 194, 3) := by decide +kernel
theorem dX9_back_30 : decode cX9_back 30 = .ok (.aload_n 0, 1) := by decide +kernel
theorem dX9_back_31 : decode cX9_back 31 = .ok (.iload_n 1, 1) := by decide +kernel
theorem dX9_back_32 : decode cX9_back 32 = .ok (.invokevirtual 218, 3) := by decide +kernel
theorem dX9_back_35 : decode cX9_back 35 = .ok (.istore_n 3, 1) := by decide +kernel
theorem dX9_back_36 : decode cX9_back 36 = .ok (.iload_n 2, 1) := by decide +kernel
theorem dX9_back_37 : decode cX9_back 37 = .ok (.ifCond .ne 7, 3) := by decide +kernel
theorem dX9_back_40 : decode cX9_back 40 = .ok (.iload_n 3, 1) := by decide +kernel
theorem dX9_back_41 : decode cX9_back 41 = .ok (.goto 6, 3) := by decide +kernel
theorem dX9_back_44 : decode cX9_back 44 = .ok (.iload_n 1, 1) := by decide +kernel
theorem dX9_back_45 : decode cX9_back 45 = .ok (.iload_n 3, 1) := by decide +kernel
theorem dX9_back_46 : decode cX9_back 46 = .ok (.isub, 1) := by decide +kernel
theorem dX9_back_47 : decode cX9_back 47 = .ok (.ireturn, 1) := by decide +kernel
theorem dX9_idle_0 : decode cX9_idle 0 = .ok (.iconst 0, 1) := by decide +kernel
theorem dX9_idle_1 : decode cX9_idle 1 = .ok (.istore_n 1, 1) := by decide +kernel
theorem dX9_idle_2 : decode cX9_idle 2 = .ok (.iconst 0, 1) := by decide +kernel
theorem dX9_idle_3 : decode cX9_idle 3 = .ok (.istore_n 2, 1) := by decide +kernel
theorem dX9_idle_4 : decode cX9_idle 4 = .ok (.iload_n 2, 1) := by decide +kernel
theorem dX9_idle_5 : decode cX9_idle 5 = .ok (.aload_n 0, 1) := by decide +kernel
theorem dX9_idle_6 : decode cX9_idle 6 = .ok (.getfield 19, 3) := by decide +kernel
theorem dX9_idle_9 : decode cX9_idle 9 = .ok (.invokevirtual 99, 3) := by decide +kernel
theorem dX9_idle_12 : decode cX9_idle 12 = .ok (.if_icmp .ge 55, 3) := by decide +kernel
theorem dX9_idle_15 : decode cX9_idle 15 = .ok (.aload_n 0, 1) := by decide +kernel
theorem dX9_idle_16 : decode cX9_idle 16 = .ok (.getfield 67, 3) := by decide +kernel
theorem dX9_idle_19 : decode cX9_idle 19 = .ok (.aload_n 0, 1) := by decide +kernel
theorem dX9_idle_20 : decode cX9_idle 20 = .ok (.getfield 26, 3) := by decide +kernel
theorem dX9_idle_23 : decode cX9_idle 23 = .ok (.aload_n 0, 1) := by decide +kernel
theorem dX9_idle_24 : decode cX9_idle 24 = .ok (.getfield 46, 3) := by decide +kernel
theorem dX9_idle_27 : decode cX9_idle 27 = .ok (.aload_n 0, 1) := by decide +kernel
theorem dX9_idle_28 : decode cX9_idle 28 = .ok (.getfield 19, 3) := by decide +kernel
theorem dX9_idle_31 : decode cX9_idle 31 = .ok (.iload_n 2, 1) := by decide +kernel
theorem dX9_idle_32 : decode cX9_idle 32 = .ok (.invokevirtual 110, 3) := by decide +kernel
theorem dX9_idle_35 : decode cX9_idle 35 = .ok (.invokevirtual 221, 3) := by decide +kernel
theorem dX9_idle_38 : decode cX9_idle 38 = .ok (.aload_n 0, 1) := by decide +kernel
theorem dX9_idle_39 : decode cX9_idle 39 = .ok (.getfield 67, 3) := by decide +kernel
theorem dX9_idle_42 : decode cX9_idle 42 = .ok (.invokevirtual 225, 3) := by decide +kernel
theorem dX9_idle_45 : decode cX9_idle 45 = .ok (.aload_n 0, 1) := by decide +kernel
theorem dX9_idle_46 : decode cX9_idle 46 = .ok (.getfield 53, 3) := by decide +kernel
theorem dX9_idle_49 : decode cX9_idle 49 = .ok (.invokevirtual 225, 3) := by decide +kernel
theorem dX9_idle_52 : decode cX9_idle 52 = .ok (.if_icmp .ne 9, 3) := by decide +kernel
theorem dX9_idle_55 : decode cX9_idle 55 = .ok (.iload_n 1, 1) := by decide +kernel
theorem dX9_idle_56 : decode cX9_idle 56 = .ok (.iconst 1, 1) := by decide +kernel
theorem dX9_idle_57 : decode cX9_idle 57 = .ok (.iload_n 2, 1) := by decide +kernel
theorem dX9_idle_58 : decode cX9_idle 58 = .ok (.ishl, 1) := by decide +kernel
theorem dX9_idle_59 : decode cX9_idle 59 = .ok (.ior, 1) := by decide +kernel
theorem dX9_idle_60 : decode cX9_idle 60 = .ok (.istore_n 1, 1) := by decide +kernel
theorem dX9_idle_61 : decode cX9_idle 61 = .ok (.iinc 2 1, 3) := by decide +kernel
theorem dX9_idle_64 : decode cX9_idle 64 = .ok (.goto (-60), 3) := by decide +kernel
theorem dX9_idle_67 : decode cX9_idle 67 = .ok (.iload_n 1, 1) := by decide +kernel
theorem dX9_idle_68 : decode cX9_idle 68 = .ok (.ireturn, 1) := by decide +kernel
theorem dX9_least_0 : decode cX9_least 0 = .ok (.aload_n 0, 1) := by decide +kernel
theorem dX9_least_1 : decode cX9_least 1 = .ok (.iload_n 1, 1) := by decide +kernel
theorem dX9_least_2 : decode cX9_least 2 = .ok (.invokevirtual 102, 3) := by decide +kernel
theorem dX9_least_5 : decode cX9_least 5 = .ok (.ifCond .ne 5, 3) := by decide +kernel
theorem dX9_least_8 : decode cX9_least 8 = .ok (.iconst (-1), 1) := by decide +kernel
theorem dX9_least_9 : decode cX9_least 9 = .ok (.ireturn, 1) := by decide +kernel
theorem dX9_least_10 : decode cX9_least 10 = .ok (.aload_n 0, 1) := by decide +kernel
theorem dX9_least_11 : decode cX9_least 11 = .ok (.getfield 60, 3) := by decide +kernel
theorem dX9_least_14 : decode cX9_least 14 = .ok (.aload_n 0, 1) := by decide +kernel
theorem dX9_least_15 : decode cX9_least 15 = .ok (.getfield 46, 3) := by decide +kernel
theorem dX9_least_18 : decode cX9_least 18 = .ok (.invokevirtual 194, 3) := by decide +kernel
theorem dX9_least_21 : decode cX9_least 21 = .ok (.aload_n 0, 1) := by decide +kernel
theorem dX9_least_22 : decode cX9_least 22 = .ok (.getfield 60, 3) := by decide +kernel
theorem dX9_least_25 : decode cX9_least 25 = .ok (.aload_n 0, 1) := by decide +kernel
theorem dX9_least_26 : decode cX9_least 26 = .ok (.getfield 19, 3) := by decide +kernel
theorem dX9_least_29 : decode cX9_least 29 = .ok (.iload_n 1, 1) := by decide +kernel
theorem dX9_least_30 : decode cX9_least 30 = .ok (.invokevirtual 116, 3) := by decide +kernel
theorem dX9_least_33 : decode cX9_least 33 = .ok (.invokevirtual 228, 3) := by decide +kernel
theorem dX9_least_36 : decode cX9_least 36 = .ok (.istore_n 2, 1) := by decide +kernel
theorem dX9_least_37 : decode cX9_least 37 = .ok (.iload_n 2, 1) := by decide +kernel
theorem dX9_least_38 : decode cX9_least 38 = .ok (.iconst 1, 1) := by decide +kernel
theorem dX9_least_39 : decode cX9_least 39 = .ok (.if_icmp .lt 9, 3) := by decide +kernel
theorem dX9_least_42 : decode cX9_least 42 = .ok (.iload_n 2, 1) := by decide +kernel
theorem dX9_least_43 : decode cX9_least 43 = .ok (.bipush 8, 2) := by decide +kernel
theorem dX9_least_45 : decode cX9_least 45 = .ok (.if_icmp .le 8, 3) := by decide +kernel
theorem dX9_least_48 : decode cX9_least 48 = .ok (.bipush (-4), 2) := by decide +kernel
theorem dX9_least_50 : decode cX9_least 50 = .ok (.goto 4, 3) := by decide +kernel
theorem dX9_least_53 : decode cX9_least 53 = .ok (.iload_n 2, 1) := by decide +kernel
theorem dX9_least_54 : decode cX9_least 54 = .ok (.ireturn, 1) := by decide +kernel
theorem dX9_day_0 : decode cX9_day 0 = .ok (.iload_n 1, 1) := by decide +kernel
theorem dX9_day_1 : decode cX9_day 1 = .ok (.ifCond .lt 30, 3) := by decide +kernel
theorem dX9_day_4 : decode cX9_day 4 = .ok (.iload_n 1, 1) := by decide +kernel
theorem dX9_day_5 : decode cX9_day 5 = .ok (.sipush 9999, 3) := by decide +kernel
theorem dX9_day_8 : decode cX9_day 8 = .ok (.if_icmp .gt 23, 3) := by decide +kernel
theorem dX9_day_11 : decode cX9_day 11 = .ok (.iload_n 2, 1) := by decide +kernel
theorem dX9_day_12 : decode cX9_day 12 = .ok (.iconst 1, 1) := by decide +kernel
theorem dX9_day_13 : decode cX9_day 13 = .ok (.if_icmp .lt 18, 3) := by decide +kernel
theorem dX9_day_16 : decode cX9_day 16 = .ok (.iload_n 2, 1) := by decide +kernel
theorem dX9_day_17 : decode cX9_day 17 = .ok (.bipush 40, 2) := by decide +kernel
theorem dX9_day_19 : decode cX9_day 19 = .ok (.if_icmp .gt 12, 3) := by decide +kernel
theorem dX9_day_22 : decode cX9_day 22 = .ok (.iload_n 3, 1) := by decide +kernel
theorem dX9_day_23 : decode cX9_day 23 = .ok (.ifCond .lt 8, 3) := by decide +kernel
theorem dX9_day_26 : decode cX9_day 26 = .ok (.iload_n 3, 1) := by decide +kernel
theorem dX9_day_27 : decode cX9_day 27 = .ok (.iconst 2, 1) := by decide +kernel
theorem dX9_day_28 : decode cX9_day 28 = .ok (.if_icmp .le 5, 3) := by decide +kernel
theorem dX9_day_31 : decode cX9_day 31 = .ok (.iconst (-1), 1) := by decide +kernel
theorem dX9_day_32 : decode cX9_day 32 = .ok (.ireturn, 1) := by decide +kernel
theorem dX9_day_33 : decode cX9_day 33 = .ok (.aload_n 0, 1) := by decide +kernel
theorem dX9_day_34 : decode cX9_day 34 = .ok (.getfield 64, 3) := by decide +kernel
theorem dX9_day_37 : decode cX9_day 37 = .ok (.aload_n 0, 1) := by decide +kernel
theorem dX9_day_38 : decode cX9_day 38 = .ok (.getfield 26, 3) := by decide +kernel
theorem dX9_day_41 : decode cX9_day 41 = .ok (.invokevirtual 231, 3) := by decide +kernel
theorem dX9_day_44 : decode cX9_day 44 = .ok (.iconst 0, 1) := by decide +kernel
theorem dX9_day_45 : decode cX9_day 45 = .ok (.istore 4, 2) := by decide +kernel
theorem dX9_day_47 : decode cX9_day 47 = .ok (.iload 4, 2) := by decide +kernel
theorem dX9_day_49 : decode cX9_day 49 = .ok (.iload_n 2, 1) := by decide +kernel
theorem dX9_day_50 : decode cX9_day 50 = .ok (.if_icmp .ge 22, 3) := by decide +kernel
theorem dX9_day_53 : decode cX9_day 53 = .ok (.aload_n 0, 1) := by decide +kernel
theorem dX9_day_54 : decode cX9_day 54 = .ok (.getfield 64, 3) := by decide +kernel
theorem dX9_day_57 : decode cX9_day 57 = .ok (.iload_n 1, 1) := by decide +kernel
theorem dX9_day_58 : decode cX9_day 58 = .ok (.iload 4, 2) := by decide +kernel
theorem dX9_day_60 : decode cX9_day 60 = .ok (.invokestatic 235, 3) := by decide +kernel
theorem dX9_day_63 : decode cX9_day 63 = .ok (.invokevirtual 239, 3) := by decide +kernel
theorem dX9_day_66 : decode cX9_day 66 = .ok (.iinc 4 1, 3) := by decide +kernel
theorem dX9_day_69 : decode cX9_day 69 = .ok (.goto (-22), 3) := by decide +kernel
theorem dX9_day_72 : decode cX9_day 72 = .ok (.aload_n 0, 1) := by decide +kernel
theorem dX9_day_73 : decode cX9_day 73 = .ok (.getfield 67, 3) := by decide +kernel
theorem dX9_day_76 : decode cX9_day 76 = .ok (.aload_n 0, 1) := by decide +kernel
theorem dX9_day_77 : decode cX9_day 77 = .ok (.getfield 64, 3) := by decide +kernel
theorem dX9_day_80 : decode cX9_day 80 = .ok (.aload_n 0, 1) := by decide +kernel
theorem dX9_day_81 : decode cX9_day 81 = .ok (.getfield 46, 3) := by decide +kernel
theorem dX9_day_84 : decode cX9_day 84 = .ok (.iconst 0, 1) := by decide +kernel
theorem dX9_day_85 : decode cX9_day 85 = .ok (.invokevirtual 221, 3) := by decide +kernel
theorem dX9_day_88 : decode cX9_day 88 = .ok (.iload_n 3, 1) := by decide +kernel
theorem dX9_day_89 : decode cX9_day 89 = .ok (.lookupswitch 43 #[(0, 27), (1, 35)], 27) := by decide +kernel
theorem dX9_day_116 : decode cX9_day 116 = .ok (.aload_n 0, 1) := by decide +kernel
theorem dX9_day_117 : decode cX9_day 117 = .ok (.getfield 64, 3) := by decide +kernel
theorem dX9_day_120 : decode cX9_day 120 = .ok (.invokevirtual 137, 3) := by decide +kernel
theorem dX9_day_123 : decode cX9_day 123 = .ok (.ireturn, 1) := by decide +kernel
theorem dX9_day_124 : decode cX9_day 124 = .ok (.aload_n 0, 1) := by decide +kernel
theorem dX9_day_125 : decode cX9_day 125 = .ok (.getfield 67, 3) := by decide +kernel
theorem dX9_day_128 : decode cX9_day 128 = .ok (.invokevirtual 184, 3) := by decide +kernel
theorem dX9_day_131 : decode cX9_day 131 = .ok (.ireturn, 1) := by decide +kernel
theorem dX9_day_132 : decode cX9_day 132 = .ok (.aload_n 0, 1) := by decide +kernel
theorem dX9_day_133 : decode cX9_day 133 = .ok (.getfield 67, 3) := by decide +kernel
theorem dX9_day_136 : decode cX9_day 136 = .ok (.invokevirtual 242, 3) := by decide +kernel
theorem dX9_day_139 : decode cX9_day 139 = .ok (.ireturn, 1) := by decide +kernel

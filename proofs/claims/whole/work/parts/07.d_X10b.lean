theorem dX10_ends_80 : decode cX10_ends 80 = .ok (.dup, 1) := by decide +kernel
theorem dX10_ends_81 : decode cX10_ends 81 = .ok (.getfield 107, 3) := by decide +kernel
theorem dX10_ends_84 : decode cX10_ends 84 = .ok (.iconst 1, 1) := by decide +kernel
theorem dX10_ends_85 : decode cX10_ends 85 = .ok (.iadd, 1) := by decide +kernel
theorem dX10_ends_86 : decode cX10_ends 86 = .ok (.putfield 107, 3) := by decide +kernel
theorem dX10_ends_89 : decode cX10_ends 89 = .ok (.return_, 1) := by decide +kernel
theorem dX10_write_0 : decode cX10_write 0 = .ok (.iload_n 1, 1) := by decide +kernel
theorem dX10_write_1 : decode cX10_write 1 = .ok (.i2l, 1) := by decide +kernel
theorem dX10_write_2 : decode cX10_write 2 = .ok (.ldc2_w 140, 3) := by decide +kernel
theorem dX10_write_5 : decode cX10_write 5 = .ok (.ldc2_w 142, 3) := by decide +kernel
theorem dX10_write_8 : decode cX10_write 8 = .ok (.invokestatic 144, 3) := by decide +kernel
theorem dX10_write_11 : decode cX10_write 11 = .ok (.ifCond .ne 5, 3) := by decide +kernel
theorem dX10_write_14 : decode cX10_write 14 = .ok (.iconst (-1), 1) := by decide +kernel
theorem dX10_write_15 : decode cX10_write 15 = .ok (.ireturn, 1) := by decide +kernel
theorem dX10_write_16 : decode cX10_write 16 = .ok (.aload_n 0, 1) := by decide +kernel
theorem dX10_write_17 : decode cX10_write 17 = .ok (.getfield 148, 3) := by decide +kernel
theorem dX10_write_20 : decode cX10_write 20 = .ok (.sipush 200, 3) := by decide +kernel
theorem dX10_write_23 : decode cX10_write 23 = .ok (.if_icmp .ne 6, 3) := by decide +kernel
theorem dX10_write_26 : decode cX10_write 26 = .ok (.bipush (-3), 2) := by decide +kernel
theorem dX10_write_28 : decode cX10_write 28 = .ok (.ireturn, 1) := by decide +kernel
theorem dX10_write_29 : decode cX10_write 29 = .ok (.aload_n 0, 1) := by decide +kernel
theorem dX10_write_30 : decode cX10_write 30 = .ok (.getfield 34, 3) := by decide +kernel
theorem dX10_write_33 : decode cX10_write 33 = .ok (.aload_n 0, 1) := by decide +kernel
theorem dX10_write_34 : decode cX10_write 34 = .ok (.getfield 148, 3) := by decide +kernel
theorem dX10_write_37 : decode cX10_write 37 = .ok (.iload_n 1, 1) := by decide +kernel
theorem dX10_write_38 : decode cX10_write 38 = .ok (.i2b, 1) := by decide +kernel
theorem dX10_write_39 : decode cX10_write 39 = .ok (.bastore, 1) := by decide +kernel
theorem dX10_write_40 : decode cX10_write 40 = .ok (.aload_n 0, 1) := by decide +kernel
theorem dX10_write_41 : decode cX10_write 41 = .ok (.dup, 1) := by decide +kernel
theorem dX10_write_42 : decode cX10_write 42 = .ok (.getfield 148, 3) := by decide +kernel
theorem dX10_write_45 : decode cX10_write 45 = .ok (.iconst 1, 1) := by decide +kernel
theorem dX10_write_46 : decode cX10_write 46 = .ok (.iadd, 1) := by decide +kernel
theorem dX10_write_47 : decode cX10_write 47 = .ok (.putfield 148, 3) := by decide +kernel
theorem dX10_write_50 : decode cX10_write 50 = .ok (.aload_n 0, 1) := by decide +kernel
theorem dX10_write_51 : decode cX10_write 51 = .ok (.getfield 148, 3) := by decide +kernel
theorem dX10_write_54 : decode cX10_write 54 = .ok (.ireturn, 1) := by decide +kernel
theorem dX10_wipe_0 : decode cX10_wipe 0 = .ok (.aload_n 0, 1) := by decide +kernel
theorem dX10_wipe_1 : decode cX10_wipe 1 = .ok (.getfield 148, 3) := by decide +kernel
theorem dX10_wipe_4 : decode cX10_wipe 4 = .ok (.istore_n 1, 1) := by decide +kernel
theorem dX10_wipe_5 : decode cX10_wipe 5 = .ok (.aload_n 0, 1) := by decide +kernel
theorem dX10_wipe_6 : decode cX10_wipe 6 = .ok (.iconst 0, 1) := by decide +kernel
theorem dX10_wipe_7 : decode cX10_wipe 7 = .ok (.putfield 148, 3) := by decide +kernel
theorem dX10_wipe_10 : decode cX10_wipe 10 = .ok (.iload_n 1, 1) := by decide +kernel
theorem dX10_wipe_11 : decode cX10_wipe 11 = .ok (.ireturn, 1) := by decide +kernel
theorem dX10_letterAt_0 : decode cX10_letterAt 0 = .ok (.iload_n 1, 1) := by decide +kernel
theorem dX10_letterAt_1 : decode cX10_letterAt 1 = .ok (.aload_n 0, 1) := by decide +kernel
theorem dX10_letterAt_2 : decode cX10_letterAt 2 = .ok (.getfield 148, 3) := by decide +kernel
theorem dX10_letterAt_5 : decode cX10_letterAt 5 = .ok (.if_icmp .ge 12, 3) := by decide +kernel
theorem dX10_letterAt_8 : decode cX10_letterAt 8 = .ok (.aload_n 0, 1) := by decide +kernel
theorem dX10_letterAt_9 : decode cX10_letterAt 9 = .ok (.getfield 34, 3) := by decide +kernel
theorem dX10_letterAt_12 : decode cX10_letterAt 12 = .ok (.iload_n 1, 1) := by decide +kernel
theorem dX10_letterAt_13 : decode cX10_letterAt 13 = .ok (.baload, 1) := by decide +kernel
theorem dX10_letterAt_14 : decode cX10_letterAt 14 = .ok (.goto 4, 3) := by decide +kernel
theorem dX10_letterAt_17 : decode cX10_letterAt 17 = .ok (.iconst (-1), 1) := by decide +kernel
theorem dX10_letterAt_18 : decode cX10_letterAt 18 = .ok (.ireturn, 1) := by decide +kernel
theorem dX10_figure_0 : decode cX10_figure 0 = .ok (.aload_n 0, 1) := by decide +kernel
theorem dX10_figure_1 : decode cX10_figure 1 = .ok (.aload_n 0, 1) := by decide +kernel
theorem dX10_figure_2 : decode cX10_figure 2 = .ok (.getfield 151, 3) := by decide +kernel
theorem dX10_figure_5 : decode cX10_figure 5 = .ok (.invokevirtual 154, 3) := by decide +kernel
theorem dX10_figure_8 : decode cX10_figure 8 = .ok (.bipush 48, 2) := by decide +kernel
theorem dX10_figure_10 : decode cX10_figure 10 = .ok (.isub, 1) := by decide +kernel
theorem dX10_figure_11 : decode cX10_figure 11 = .ok (.istore_n 3, 1) := by decide +kernel
theorem dX10_figure_12 : decode cX10_figure 12 = .ok (.aload_n 0, 1) := by decide +kernel
theorem dX10_figure_13 : decode cX10_figure 13 = .ok (.aload_n 0, 1) := by decide +kernel
theorem dX10_figure_14 : decode cX10_figure 14 = .ok (.getfield 158, 3) := by decide +kernel
theorem dX10_figure_17 : decode cX10_figure 17 = .ok (.ifCond .ne 36, 3) := by decide +kernel
theorem dX10_figure_20 : decode cX10_figure 20 = .ok (.aload_n 0, 1) := by decide +kernel
theorem dX10_figure_21 : decode cX10_figure 21 = .ok (.aload_n 0, 1) := by decide +kernel
theorem dX10_figure_22 : decode cX10_figure 22 = .ok (.getfield 151, 3) := by decide +kernel
theorem dX10_figure_25 : decode cX10_figure 25 = .ok (.invokevirtual 154, 3) := by decide +kernel
theorem dX10_figure_28 : decode cX10_figure 28 = .ok (.i2l, 1) := by decide +kernel
theorem dX10_figure_29 : decode cX10_figure 29 = .ok (.ldc2_w 162, 3) := by decide +kernel
theorem dX10_figure_32 : decode cX10_figure 32 = .ok (.ldc2_w 164, 3) := by decide +kernel
theorem dX10_figure_35 : decode cX10_figure 35 = .ok (.invokestatic 144, 3) := by decide +kernel
theorem dX10_figure_38 : decode cX10_figure 38 = .ok (.ifCond .eq 15, 3) := by decide +kernel
theorem dX10_figure_41 : decode cX10_figure 41 = .ok (.iload_n 3, 1) := by decide +kernel
theorem dX10_figure_42 : decode cX10_figure 42 = .ok (.i2l, 1) := by decide +kernel
theorem dX10_figure_43 : decode cX10_figure 43 = .ok (.iload_n 1, 1) := by decide +kernel
theorem dX10_figure_44 : decode cX10_figure 44 = .ok (.i2l, 1) := by decide +kernel
theorem dX10_figure_45 : decode cX10_figure 45 = .ok (.iload_n 2, 1) := by decide +kernel
theorem dX10_figure_46 : decode cX10_figure 46 = .ok (.i2l, 1) := by decide +kernel
theorem dX10_figure_47 : decode cX10_figure 47 = .ok (.invokestatic 144, 3) := by decide +kernel
theorem dX10_figure_50 : decode cX10_figure 50 = .ok (.ifCond .ne 7, 3) := by decide +kernel
theorem dX10_figure_53 : decode cX10_figure 53 = .ok (.iconst 1, 1) := by decide +kernel
theorem dX10_figure_54 : decode cX10_figure 54 = .ok (.goto 4, 3) := by decide +kernel
theorem dX10_figure_57 : decode cX10_figure 57 = .ok (.iconst 0, 1) := by decide +kernel
theorem dX10_figure_58 : decode cX10_figure 58 = .ok (.putfield 158, 3) := by decide +kernel
theorem dX10_figure_61 : decode cX10_figure 61 = .ok (.aload_n 0, 1) := by decide +kernel
theorem dX10_figure_62 : decode cX10_figure 62 = .ok (.dup, 1) := by decide +kernel
theorem dX10_figure_63 : decode cX10_figure 63 = .ok (.getfield 151, 3) := by decide +kernel
theorem dX10_figure_66 : decode cX10_figure 66 = .ok (.iconst 1, 1) := by decide +kernel
theorem dX10_figure_67 : decode cX10_figure 67 = .ok (.iadd, 1) := by decide +kernel
theorem dX10_figure_68 : decode cX10_figure 68 = .ok (.putfield 151, 3) := by decide +kernel
theorem dX10_figure_71 : decode cX10_figure 71 = .ok (.aload_n 0, 1) := by decide +kernel
theorem dX10_figure_72 : decode cX10_figure 72 = .ok (.getfield 158, 3) := by decide +kernel
theorem dX10_figure_75 : decode cX10_figure 75 = .ok (.ifCond .eq 7, 3) := by decide +kernel
theorem dX10_figure_78 : decode cX10_figure 78 = .ok (.iconst 0, 1) := by decide +kernel
theorem dX10_figure_79 : decode cX10_figure 79 = .ok (.goto 4, 3) := by decide +kernel
theorem dX10_figure_82 : decode cX10_figure 82 = .ok (.iload_n 3, 1) := by decide +kernel
theorem dX10_figure_83 : decode cX10_figure 83 = .ok (.ireturn, 1) := by decide +kernel
theorem dX10_comma_0 : decode cX10_comma 0 = .ok (.aload_n 0, 1) := by decide +kernel
theorem dX10_comma_1 : decode cX10_comma 1 = .ok (.aload_n 0, 1) := by decide +kernel
theorem dX10_comma_2 : decode cX10_comma 2 = .ok (.getfield 158, 3) := by decide +kernel
theorem dX10_comma_5 : decode cX10_comma 5 = .ok (.ifCond .ne 16, 3) := by decide +kernel
theorem dX10_comma_8 : decode cX10_comma 8 = .ok (.aload_n 0, 1) := by decide +kernel
theorem dX10_comma_9 : decode cX10_comma 9 = .ok (.aload_n 0, 1) := by decide +kernel
theorem dX10_comma_10 : decode cX10_comma 10 = .ok (.getfield 151, 3) := by decide +kernel
theorem dX10_comma_13 : decode cX10_comma 13 = .ok (.invokevirtual 154, 3) := by decide +kernel
theorem dX10_comma_16 : decode cX10_comma 16 = .ok (.bipush 44, 2) := by decide +kernel
theorem dX10_comma_18 : decode cX10_comma 18 = .ok (.if_icmp .eq 7, 3) := by decide +kernel
theorem dX10_comma_21 : decode cX10_comma 21 = .ok (.iconst 1, 1) := by decide +kernel
theorem dX10_comma_22 : decode cX10_comma 22 = .ok (.goto 4, 3) := by decide +kernel
theorem dX10_comma_25 : decode cX10_comma 25 = .ok (.iconst 0, 1) := by decide +kernel
theorem dX10_comma_26 : decode cX10_comma 26 = .ok (.putfield 158, 3) := by decide +kernel
theorem dX10_comma_29 : decode cX10_comma 29 = .ok (.aload_n 0, 1) := by decide +kernel
theorem dX10_comma_30 : decode cX10_comma 30 = .ok (.dup, 1) := by decide +kernel
theorem dX10_comma_31 : decode cX10_comma 31 = .ok (.getfield 151, 3) := by decide +kernel
theorem dX10_comma_34 : decode cX10_comma 34 = .ok (.iconst 1, 1) := by decide +kernel
theorem dX10_comma_35 : decode cX10_comma 35 = .ok (.iadd, 1) := by decide +kernel
theorem dX10_comma_36 : decode cX10_comma 36 = .ok (.putfield 151, 3) := by decide +kernel
theorem dX10_comma_39 : decode cX10_comma 39 = .ok (.return_, 1) := by decide +kernel
theorem dX10_isLetter_0 : decode cX10_isLetter 0 = .ok (.aload_n 0, 1) := by decide +kernel
theorem dX10_isLetter_1 : decode cX10_isLetter 1 = .ok (.aload_n 0, 1) := by decide +kernel
theorem dX10_isLetter_2 : decode cX10_isLetter 2 = .ok (.getfield 151, 3) := by decide +kernel
theorem dX10_isLetter_5 : decode cX10_isLetter 5 = .ok (.invokevirtual 154, 3) := by decide +kernel
theorem dX10_isLetter_8 : decode cX10_isLetter 8 = .ok (.i2l, 1) := by decide +kernel
theorem dX10_isLetter_9 : decode cX10_isLetter 9 = .ok (.ldc2_w 166, 3) := by decide +kernel
theorem dX10_isLetter_12 : decode cX10_isLetter 12 = .ok (.ldc2_w 168, 3) := by decide +kernel
theorem dX10_isLetter_15 : decode cX10_isLetter 15 = .ok (.invokestatic 144, 3) := by decide +kernel
theorem dX10_isLetter_18 : decode cX10_isLetter 18 = .ok (.ireturn, 1) := by decide +kernel
theorem dX10_classItem_0 : decode cX10_classItem 0 = .ok (.aload_n 0, 1) := by decide +kernel
theorem dX10_classItem_1 : decode cX10_classItem 1 = .ok (.iconst 0, 1) := by decide +kernel
theorem dX10_classItem_2 : decode cX10_classItem 2 = .ok (.iconst 5, 1) := by decide +kernel
theorem dX10_classItem_3 : decode cX10_classItem 3 = .ok (.invokevirtual 170, 3) := by decide +kernel
theorem dX10_classItem_6 : decode cX10_classItem 6 = .ok (.istore_n 1, 1) := by decide +kernel
theorem dX10_classItem_7 : decode cX10_classItem 7 = .ok (.aload_n 0, 1) := by decide +kernel
theorem dX10_classItem_8 : decode cX10_classItem 8 = .ok (.invokevirtual 174, 3) := by decide +kernel
theorem dX10_classItem_11 : decode cX10_classItem 11 = .ok (.iconst 0, 1) := by decide +kernel
theorem dX10_classItem_12 : decode cX10_classItem 12 = .ok (.istore_n 2, 1) := by decide +kernel
theorem dX10_classItem_13 : decode cX10_classItem 13 = .ok (.aload_n 0, 1) := by decide +kernel
theorem dX10_classItem_14 : decode cX10_classItem 14 = .ok (.getfield 158, 3) := by decide +kernel
theorem dX10_classItem_17 : decode cX10_classItem 17 = .ok (.ifCond .ne 84, 3) := by decide +kernel
theorem dX10_classItem_20 : decode cX10_classItem 20 = .ok (.aload_n 0, 1) := by decide +kernel
theorem dX10_classItem_21 : decode cX10_classItem 21 = .ok (.invokevirtual 177, 3) := by decide +kernel
theorem dX10_classItem_24 : decode cX10_classItem 24 = .ok (.ifCond .eq 77, 3) := by decide +kernel
theorem dX10_classItem_27 : decode cX10_classItem 27 = .ok (.aload_n 0, 1) := by decide +kernel
theorem dX10_classItem_28 : decode cX10_classItem 28 = .ok (.iload_n 2, 1) := by decide +kernel
theorem dX10_classItem_29 : decode cX10_classItem 29 = .ok (.bipush 26, 2) := by decide +kernel
theorem dX10_classItem_31 : decode cX10_classItem 31 = .ok (.if_icmp .ne 7, 3) := by decide +kernel
theorem dX10_classItem_34 : decode cX10_classItem 34 = .ok (.iconst 1, 1) := by decide +kernel
theorem dX10_classItem_35 : decode cX10_classItem 35 = .ok (.goto 4, 3) := by decide +kernel
theorem dX10_classItem_38 : decode cX10_classItem 38 = .ok (.iconst 0, 1) := by decide +kernel
theorem dX10_classItem_39 : decode cX10_classItem 39 = .ok (.putfield 158, 3) := by decide +kernel
theorem dX10_classItem_42 : decode cX10_classItem 42 = .ok (.aload_n 0, 1) := by decide +kernel
theorem dX10_classItem_43 : decode cX10_classItem 43 = .ok (.getfield 28, 3) := by decide +kernel
theorem dX10_classItem_46 : decode cX10_classItem 46 = .ok (.aload_n 0, 1) := by decide +kernel
theorem dX10_classItem_47 : decode cX10_classItem 47 = .ok (.aload_n 0, 1) := by decide +kernel
theorem dX10_classItem_48 : decode cX10_classItem 48 = .ok (.getfield 151, 3) := by decide +kernel
theorem dX10_classItem_51 : decode cX10_classItem 51 = .ok (.invokevirtual 154, 3) := by decide +kernel
theorem dX10_classItem_54 : decode cX10_classItem 54 = .ok (.bipush 97, 2) := by decide +kernel
theorem dX10_classItem_56 : decode cX10_classItem 56 = .ok (.isub, 1) := by decide +kernel
theorem dX10_classItem_57 : decode cX10_classItem 57 = .ok (.aload_n 0, 1) := by decide +kernel
theorem dX10_classItem_58 : decode cX10_classItem 58 = .ok (.getfield 158, 3) := by decide +kernel
theorem dX10_classItem_61 : decode cX10_classItem 61 = .ok (.ifCond .eq 22, 3) := by decide +kernel
theorem dX10_classItem_64 : decode cX10_classItem 64 = .ok (.aload_n 0, 1) := by decide +kernel
theorem dX10_classItem_65 : decode cX10_classItem 65 = .ok (.getfield 28, 3) := by decide +kernel
theorem dX10_classItem_68 : decode cX10_classItem 68 = .ok (.aload_n 0, 1) := by decide +kernel
theorem dX10_classItem_69 : decode cX10_classItem 69 = .ok (.aload_n 0, 1) := by decide +kernel
theorem dX10_classItem_70 : decode cX10_classItem 70 = .ok (.getfield 151, 3) := by decide +kernel
theorem dX10_classItem_73 : decode cX10_classItem 73 = .ok (.invokevirtual 154, 3) := by decide +kernel
theorem dX10_classItem_76 : decode cX10_classItem 76 = .ok (.bipush 97, 2) := by decide +kernel
theorem dX10_classItem_78 : decode cX10_classItem 78 = .ok (.isub, 1) := by decide +kernel
theorem dX10_classItem_79 : decode cX10_classItem 79 = .ok (.iaload, 1) := by decide +kernel
theorem dX10_classItem_80 : decode cX10_classItem 80 = .ok (.goto 4, 3) := by decide +kernel
theorem dX10_classItem_83 : decode cX10_classItem 83 = .ok (.iload_n 1, 1) := by decide +kernel
theorem dX10_classItem_84 : decode cX10_classItem 84 = .ok (.iastore, 1) := by decide +kernel
theorem dX10_classItem_85 : decode cX10_classItem 85 = .ok (.iinc 2 1, 3) := by decide +kernel
theorem dX10_classItem_88 : decode cX10_classItem 88 = .ok (.aload_n 0, 1) := by decide +kernel
theorem dX10_classItem_89 : decode cX10_classItem 89 = .ok (.dup, 1) := by decide +kernel
theorem dX10_classItem_90 : decode cX10_classItem 90 = .ok (.getfield 151, 3) := by decide +kernel
theorem dX10_classItem_93 : decode cX10_classItem 93 = .ok (.iconst 1, 1) := by decide +kernel
theorem dX10_classItem_94 : decode cX10_classItem 94 = .ok (.iadd, 1) := by decide +kernel
theorem dX10_classItem_95 : decode cX10_classItem 95 = .ok (.putfield 151, 3) := by decide +kernel
theorem dX10_classItem_98 : decode cX10_classItem 98 = .ok (.goto (-85), 3) := by decide +kernel
theorem dX10_classItem_101 : decode cX10_classItem 101 = .ok (.aload_n 0, 1) := by decide +kernel
theorem dX10_classItem_102 : decode cX10_classItem 102 = .ok (.aload_n 0, 1) := by decide +kernel
theorem dX10_classItem_103 : decode cX10_classItem 103 = .ok (.getfield 158, 3) := by decide +kernel
theorem dX10_classItem_106 : decode cX10_classItem 106 = .ok (.ifCond .ne 7, 3) := by decide +kernel
theorem dX10_classItem_109 : decode cX10_classItem 109 = .ok (.iload_n 2, 1) := by decide +kernel
theorem dX10_classItem_110 : decode cX10_classItem 110 = .ok (.ifCond .ne 7, 3) := by decide +kernel
theorem dX10_classItem_113 : decode cX10_classItem 113 = .ok (.iconst 1, 1) := by decide +kernel
theorem dX10_classItem_114 : decode cX10_classItem 114 = .ok (.goto 4, 3) := by decide +kernel
theorem dX10_classItem_117 : decode cX10_classItem 117 = .ok (.iconst 0, 1) := by decide +kernel
theorem dX10_classItem_118 : decode cX10_classItem 118 = .ok (.putfield 158, 3) := by decide +kernel
theorem dX10_classItem_121 : decode cX10_classItem 121 = .ok (.return_, 1) := by decide +kernel
theorem dX10_isAtom_0 : decode cX10_isAtom 0 = .ok (.iload_n 0, 1) := by decide +kernel
theorem dX10_isAtom_1 : decode cX10_isAtom 1 = .ok (.i2l, 1) := by decide +kernel
theorem dX10_isAtom_2 : decode cX10_isAtom 2 = .ok (.ldc2_w 162, 3) := by decide +kernel
theorem dX10_isAtom_5 : decode cX10_isAtom 5 = .ok (.ldc2_w 181, 3) := by decide +kernel
theorem dX10_isAtom_8 : decode cX10_isAtom 8 = .ok (.invokestatic 144, 3) := by decide +kernel
theorem dX10_isAtom_11 : decode cX10_isAtom 11 = .ok (.ifCond .ne 9, 3) := by decide +kernel
theorem dX10_isAtom_14 : decode cX10_isAtom 14 = .ok (.iload_n 0, 1) := by decide +kernel
theorem dX10_isAtom_15 : decode cX10_isAtom 15 = .ok (.bipush 46, 2) := by decide +kernel
theorem dX10_isAtom_17 : decode cX10_isAtom 17 = .ok (.if_icmp .ne 7, 3) := by decide +kernel
theorem dX10_isAtom_20 : decode cX10_isAtom 20 = .ok (.iconst 1, 1) := by decide +kernel
theorem dX10_isAtom_21 : decode cX10_isAtom 21 = .ok (.goto 4, 3) := by decide +kernel
theorem dX10_isAtom_24 : decode cX10_isAtom 24 = .ok (.iconst 0, 1) := by decide +kernel
theorem dX10_isAtom_25 : decode cX10_isAtom 25 = .ok (.ireturn, 1) := by decide +kernel
theorem dX10_ruleItem_0 : decode cX10_ruleItem 0 = .ok (.aload_n 0, 1) := by decide +kernel
theorem dX10_ruleItem_1 : decode cX10_ruleItem 1 = .ok (.aload_n 0, 1) := by decide +kernel
theorem dX10_ruleItem_2 : decode cX10_ruleItem 2 = .ok (.getfield 107, 3) := by decide +kernel
theorem dX10_ruleItem_5 : decode cX10_ruleItem 5 = .ok (.iconst 4, 1) := by decide +kernel
theorem dX10_ruleItem_6 : decode cX10_ruleItem 6 = .ok (.if_icmp .ne 7, 3) := by decide +kernel
theorem dX10_ruleItem_9 : decode cX10_ruleItem 9 = .ok (.iconst 1, 1) := by decide +kernel
theorem dX10_ruleItem_10 : decode cX10_ruleItem 10 = .ok (.goto 4, 3) := by decide +kernel
theorem dX10_ruleItem_13 : decode cX10_ruleItem 13 = .ok (.iconst 0, 1) := by decide +kernel
theorem dX10_ruleItem_14 : decode cX10_ruleItem 14 = .ok (.putfield 158, 3) := by decide +kernel
theorem dX10_ruleItem_17 : decode cX10_ruleItem 17 = .ok (.aload_n 0, 1) := by decide +kernel
theorem dX10_ruleItem_18 : decode cX10_ruleItem 18 = .ok (.iconst 0, 1) := by decide +kernel
theorem dX10_ruleItem_19 : decode cX10_ruleItem 19 = .ok (.iconst 3, 1) := by decide +kernel
theorem dX10_ruleItem_20 : decode cX10_ruleItem 20 = .ok (.invokevirtual 170, 3) := by decide +kernel
theorem dX10_ruleItem_23 : decode cX10_ruleItem 23 = .ok (.istore_n 1, 1) := by decide +kernel
theorem dX10_ruleItem_24 : decode cX10_ruleItem 24 = .ok (.aload_n 0, 1) := by decide +kernel
theorem dX10_ruleItem_25 : decode cX10_ruleItem 25 = .ok (.invokevirtual 174, 3) := by decide +kernel
theorem dX10_ruleItem_28 : decode cX10_ruleItem 28 = .ok (.aload_n 0, 1) := by decide +kernel
theorem dX10_ruleItem_29 : decode cX10_ruleItem 29 = .ok (.getfield 151, 3) := by decide +kernel
theorem dX10_ruleItem_32 : decode cX10_ruleItem 32 = .ok (.istore_n 2, 1) := by decide +kernel
theorem dX10_ruleItem_33 : decode cX10_ruleItem 33 = .ok (.iconst 1, 1) := by decide +kernel
theorem dX10_ruleItem_34 : decode cX10_ruleItem 34 = .ok (.istore_n 3, 1) := by decide +kernel
theorem dX10_ruleItem_35 : decode cX10_ruleItem 35 = .ok (.iconst 0, 1) := by decide +kernel
theorem dX10_ruleItem_36 : decode cX10_ruleItem 36 = .ok (.istore 4, 2) := by decide +kernel
theorem dX10_ruleItem_38 : decode cX10_ruleItem 38 = .ok (.aload_n 0, 1) := by decide +kernel
theorem dX10_ruleItem_39 : decode cX10_ruleItem 39 = .ok (.getfield 158, 3) := by decide +kernel
theorem dX10_ruleItem_42 : decode cX10_ruleItem 42 = .ok (.ifCond .ne 157, 3) := by decide +kernel
theorem dX10_ruleItem_45 : decode cX10_ruleItem 45 = .ok (.iload_n 3, 1) := by decide +kernel
theorem dX10_ruleItem_46 : decode cX10_ruleItem 46 = .ok (.ifCond .le 153, 3) := by decide +kernel
theorem dX10_ruleItem_49 : decode cX10_ruleItem 49 = .ok (.aload_n 0, 1) := by decide +kernel
theorem dX10_ruleItem_50 : decode cX10_ruleItem 50 = .ok (.aload_n 0, 1) := by decide +kernel
theorem dX10_ruleItem_51 : decode cX10_ruleItem 51 = .ok (.getfield 151, 3) := by decide +kernel
theorem dX10_ruleItem_54 : decode cX10_ruleItem 54 = .ok (.invokevirtual 154, 3) := by decide +kernel
theorem dX10_ruleItem_57 : decode cX10_ruleItem 57 = .ok (.istore 5, 2) := by decide +kernel
theorem dX10_ruleItem_59 : decode cX10_ruleItem 59 = .ok (.iload 5, 2) := by decide +kernel
theorem dX10_ruleItem_61 : decode cX10_ruleItem 61 = .ok (.bipush 38, 2) := by decide +kernel
theorem dX10_ruleItem_63 : decode cX10_ruleItem 63 = .ok (.if_icmp .eq 10, 3) := by decide +kernel
theorem dX10_ruleItem_66 : decode cX10_ruleItem 66 = .ok (.iload 5, 2) := by decide +kernel
theorem dX10_ruleItem_68 : decode cX10_ruleItem 68 = .ok (.bipush 124, 2) := by decide +kernel
theorem dX10_ruleItem_70 : decode cX10_ruleItem 70 = .ok (.if_icmp .ne 7, 3) := by decide +kernel
theorem dX10_ruleItem_73 : decode cX10_ruleItem 73 = .ok (.iconst 1, 1) := by decide +kernel
theorem dX10_ruleItem_74 : decode cX10_ruleItem 74 = .ok (.goto 4, 3) := by decide +kernel
theorem dX10_ruleItem_77 : decode cX10_ruleItem 77 = .ok (.iconst 0, 1) := by decide +kernel
theorem dX10_ruleItem_78 : decode cX10_ruleItem 78 = .ok (.istore 6, 2) := by decide +kernel
theorem dX10_ruleItem_80 : decode cX10_ruleItem 80 = .ok (.iload 5, 2) := by decide +kernel
theorem dX10_ruleItem_82 : decode cX10_ruleItem 82 = .ok (.bipush 42, 2) := by decide +kernel
theorem dX10_ruleItem_84 : decode cX10_ruleItem 84 = .ok (.if_icmp .eq 17, 3) := by decide +kernel
theorem dX10_ruleItem_87 : decode cX10_ruleItem 87 = .ok (.iload 5, 2) := by decide +kernel
theorem dX10_ruleItem_89 : decode cX10_ruleItem 89 = .ok (.bipush 43, 2) := by decide +kernel
theorem dX10_ruleItem_91 : decode cX10_ruleItem 91 = .ok (.if_icmp .eq 10, 3) := by decide +kernel
theorem dX10_ruleItem_94 : decode cX10_ruleItem 94 = .ok (.iload 5, 2) := by decide +kernel
theorem dX10_ruleItem_96 : decode cX10_ruleItem 96 = .ok (.bipush 63, 2) := by decide +kernel
theorem dX10_ruleItem_98 : decode cX10_ruleItem 98 = .ok (.if_icmp .ne 7, 3) := by decide +kernel
theorem dX10_ruleItem_101 : decode cX10_ruleItem 101 = .ok (.iconst 1, 1) := by decide +kernel
theorem dX10_ruleItem_102 : decode cX10_ruleItem 102 = .ok (.goto 4, 3) := by decide +kernel
theorem dX10_ruleItem_105 : decode cX10_ruleItem 105 = .ok (.iconst 0, 1) := by decide +kernel
theorem dX10_ruleItem_106 : decode cX10_ruleItem 106 = .ok (.istore 7, 2) := by decide +kernel
theorem dX10_ruleItem_108 : decode cX10_ruleItem 108 = .ok (.aload_n 0, 1) := by decide +kernel
theorem dX10_ruleItem_109 : decode cX10_ruleItem 109 = .ok (.aload_n 0, 1) := by decide +kernel
theorem dX10_ruleItem_110 : decode cX10_ruleItem 110 = .ok (.getfield 151, 3) := by decide +kernel
theorem dX10_ruleItem_113 : decode cX10_ruleItem 113 = .ok (.iload_n 2, 1) := by decide +kernel
theorem dX10_ruleItem_114 : decode cX10_ruleItem 114 = .ok (.isub, 1) := by decide +kernel
theorem dX10_ruleItem_115 : decode cX10_ruleItem 115 = .ok (.bipush 16, 2) := by decide +kernel
theorem dX10_ruleItem_117 : decode cX10_ruleItem 117 = .ok (.if_icmp .eq 21, 3) := by decide +kernel
theorem dX10_ruleItem_120 : decode cX10_ruleItem 120 = .ok (.iload 6, 2) := by decide +kernel
theorem dX10_ruleItem_122 : decode cX10_ruleItem 122 = .ok (.ifCond .ne 20, 3) := by decide +kernel
theorem dX10_ruleItem_125 : decode cX10_ruleItem 125 = .ok (.iload 7, 2) := by decide +kernel
theorem dX10_ruleItem_127 : decode cX10_ruleItem 127 = .ok (.ifCond .ne 15, 3) := by decide +kernel
theorem dX10_ruleItem_130 : decode cX10_ruleItem 130 = .ok (.iload 5, 2) := by decide +kernel
theorem dX10_ruleItem_132 : decode cX10_ruleItem 132 = .ok (.invokestatic 183, 3) := by decide +kernel
theorem dX10_ruleItem_135 : decode cX10_ruleItem 135 = .ok (.ifCond .ne 7, 3) := by decide +kernel
theorem dX10_ruleItem_138 : decode cX10_ruleItem 138 = .ok (.iconst 1, 1) := by decide +kernel
theorem dX10_ruleItem_139 : decode cX10_ruleItem 139 = .ok (.goto 4, 3) := by decide +kernel
theorem dX10_ruleItem_142 : decode cX10_ruleItem 142 = .ok (.iconst 0, 1) := by decide +kernel
theorem dX10_ruleItem_143 : decode cX10_ruleItem 143 = .ok (.putfield 158, 3) := by decide +kernel
theorem dX10_ruleItem_146 : decode cX10_ruleItem 146 = .ok (.iload_n 3, 1) := by decide +kernel
theorem dX10_ruleItem_147 : decode cX10_ruleItem 147 = .ok (.iload 6, 2) := by decide +kernel
theorem dX10_ruleItem_149 : decode cX10_ruleItem 149 = .ok (.ifCond .eq 7, 3) := by decide +kernel
theorem dX10_ruleItem_152 : decode cX10_ruleItem 152 = .ok (.iconst 1, 1) := by decide +kernel
theorem dX10_ruleItem_153 : decode cX10_ruleItem 153 = .ok (.goto 13, 3) := by decide +kernel
theorem dX10_ruleItem_156 : decode cX10_ruleItem 156 = .ok (.iload 7, 2) := by decide +kernel
theorem dX10_ruleItem_158 : decode cX10_ruleItem 158 = .ok (.ifCond .eq 7, 3) := by decide +kernel
theorem dX10_ruleItem_161 : decode cX10_ruleItem 161 = .ok (.iconst 0, 1) := by decide +kernel
theorem dX10_ruleItem_162 : decode cX10_ruleItem 162 = .ok (.goto 4, 3) := by decide +kernel
theorem dX10_ruleItem_165 : decode cX10_ruleItem 165 = .ok (.iconst (-1), 1) := by decide +kernel
theorem dX10_ruleItem_166 : decode cX10_ruleItem 166 = .ok (.iadd, 1) := by decide +kernel
theorem dX10_ruleItem_167 : decode cX10_ruleItem 167 = .ok (.istore_n 3, 1) := by decide +kernel
theorem dX10_ruleItem_168 : decode cX10_ruleItem 168 = .ok (.iload 4, 2) := by decide +kernel
theorem dX10_ruleItem_170 : decode cX10_ruleItem 170 = .ok (.iload 5, 2) := by decide +kernel
theorem dX10_ruleItem_172 : decode cX10_ruleItem 172 = .ok (.invokestatic 183, 3) := by decide +kernel
theorem dX10_ruleItem_175 : decode cX10_ruleItem 175 = .ok (.ifCond .eq 7, 3) := by decide +kernel
theorem dX10_ruleItem_178 : decode cX10_ruleItem 178 = .ok (.iconst 1, 1) := by decide +kernel
theorem dX10_ruleItem_179 : decode cX10_ruleItem 179 = .ok (.goto 4, 3) := by decide +kernel
theorem dX10_ruleItem_182 : decode cX10_ruleItem 182 = .ok (.iconst 0, 1) := by decide +kernel
theorem dX10_ruleItem_183 : decode cX10_ruleItem 183 = .ok (.iadd, 1) := by decide +kernel
theorem dX10_ruleItem_184 : decode cX10_ruleItem 184 = .ok (.istore 4, 2) := by decide +kernel
theorem dX10_ruleItem_186 : decode cX10_ruleItem 186 = .ok (.aload_n 0, 1) := by decide +kernel
theorem dX10_ruleItem_187 : decode cX10_ruleItem 187 = .ok (.dup, 1) := by decide +kernel
theorem dX10_ruleItem_188 : decode cX10_ruleItem 188 = .ok (.getfield 151, 3) := by decide +kernel
theorem dX10_ruleItem_191 : decode cX10_ruleItem 191 = .ok (.iconst 1, 1) := by decide +kernel
theorem dX10_ruleItem_192 : decode cX10_ruleItem 192 = .ok (.iadd, 1) := by decide +kernel
theorem dX10_ruleItem_193 : decode cX10_ruleItem 193 = .ok (.putfield 151, 3) := by decide +kernel
theorem dX10_ruleItem_196 : decode cX10_ruleItem 196 = .ok (.goto (-158), 3) := by decide +kernel
theorem dX10_ruleItem_199 : decode cX10_ruleItem 199 = .ok (.aload_n 0, 1) := by decide +kernel
theorem dX10_ruleItem_200 : decode cX10_ruleItem 200 = .ok (.aload_n 0, 1) := by decide +kernel
theorem dX10_ruleItem_201 : decode cX10_ruleItem 201 = .ok (.getfield 158, 3) := by decide +kernel
theorem dX10_ruleItem_204 : decode cX10_ruleItem 204 = .ok (.ifCond .ne 15, 3) := by decide +kernel
theorem dX10_ruleItem_207 : decode cX10_ruleItem 207 = .ok (.aload_n 0, 1) := by decide +kernel
theorem dX10_ruleItem_208 : decode cX10_ruleItem 208 = .ok (.getfield 111, 3) := by decide +kernel
theorem dX10_ruleItem_211 : decode cX10_ruleItem 211 = .ok (.iload 4, 2) := by decide +kernel
theorem dX10_ruleItem_213 : decode cX10_ruleItem 213 = .ok (.iadd, 1) := by decide +kernel
theorem dX10_ruleItem_214 : decode cX10_ruleItem 214 = .ok (.bipush 10, 2) := by decide +kernel
theorem dX10_ruleItem_216 : decode cX10_ruleItem 216 = .ok (.if_icmp .le 7, 3) := by decide +kernel
theorem dX10_ruleItem_219 : decode cX10_ruleItem 219 = .ok (.iconst 1, 1) := by decide +kernel
theorem dX10_ruleItem_220 : decode cX10_ruleItem 220 = .ok (.goto 4, 3) := by decide +kernel
theorem dX10_ruleItem_223 : decode cX10_ruleItem 223 = .ok (.iconst 0, 1) := by decide +kernel
theorem dX10_ruleItem_224 : decode cX10_ruleItem 224 = .ok (.putfield 158, 3) := by decide +kernel
theorem dX10_ruleItem_227 : decode cX10_ruleItem 227 = .ok (.aload_n 0, 1) := by decide +kernel
theorem dX10_ruleItem_228 : decode cX10_ruleItem 228 = .ok (.getfield 158, 3) := by decide +kernel
theorem dX10_ruleItem_231 : decode cX10_ruleItem 231 = .ok (.ifCond .ne 143, 3) := by decide +kernel
theorem dX10_ruleItem_234 : decode cX10_ruleItem 234 = .ok (.aload_n 0, 1) := by decide +kernel
theorem dX10_ruleItem_235 : decode cX10_ruleItem 235 = .ok (.invokevirtual 75, 3) := by decide +kernel
theorem dX10_ruleItem_238 : decode cX10_ruleItem 238 = .ok (.iload 4, 2) := by decide +kernel
theorem dX10_ruleItem_240 : decode cX10_ruleItem 240 = .ok (.istore 5, 2) := by decide +kernel
theorem dX10_ruleItem_242 : decode cX10_ruleItem 242 = .ok (.aload_n 0, 1) := by decide +kernel
theorem dX10_ruleItem_243 : decode cX10_ruleItem 243 = .ok (.getfield 151, 3) := by decide +kernel
theorem dX10_ruleItem_246 : decode cX10_ruleItem 246 = .ok (.iconst 1, 1) := by decide +kernel
theorem dX10_ruleItem_247 : decode cX10_ruleItem 247 = .ok (.isub, 1) := by decide +kernel
theorem dX10_ruleItem_248 : decode cX10_ruleItem 248 = .ok (.istore 6, 2) := by decide +kernel
theorem dX10_ruleItem_250 : decode cX10_ruleItem 250 = .ok (.iload 6, 2) := by decide +kernel
theorem dX10_ruleItem_252 : decode cX10_ruleItem 252 = .ok (.iload_n 2, 1) := by decide +kernel
theorem dX10_ruleItem_253 : decode cX10_ruleItem 253 = .ok (.if_icmp .lt 114, 3) := by decide +kernel
theorem dX10_ruleItem_256 : decode cX10_ruleItem 256 = .ok (.aload_n 0, 1) := by decide +kernel
theorem dX10_ruleItem_257 : decode cX10_ruleItem 257 = .ok (.iload 6, 2) := by decide +kernel
theorem dX10_ruleItem_259 : decode cX10_ruleItem 259 = .ok (.invokevirtual 154, 3) := by decide +kernel
theorem dX10_ruleItem_262 : decode cX10_ruleItem 262 = .ok (.istore 7, 2) := by decide +kernel
theorem dX10_ruleItem_264 : decode cX10_ruleItem 264 = .ok (.iload 7, 2) := by decide +kernel
theorem dX10_ruleItem_266 : decode cX10_ruleItem 266 = .ok (.invokestatic 183, 3) := by decide +kernel
theorem dX10_ruleItem_269 : decode cX10_ruleItem 269 = .ok (.ifCond .eq 32, 3) := by decide +kernel
theorem dX10_ruleItem_272 : decode cX10_ruleItem 272 = .ok (.iinc 5 (-1), 3) := by decide +kernel
theorem dX10_ruleItem_275 : decode cX10_ruleItem 275 = .ok (.aload_n 0, 1) := by decide +kernel
theorem dX10_ruleItem_276 : decode cX10_ruleItem 276 = .ok (.iload 5, 2) := by decide +kernel
theorem dX10_ruleItem_278 : decode cX10_ruleItem 278 = .ok (.iload 7, 2) := by decide +kernel
theorem dX10_ruleItem_280 : decode cX10_ruleItem 280 = .ok (.bipush 46, 2) := by decide +kernel
theorem dX10_ruleItem_282 : decode cX10_ruleItem 282 = .ok (.if_icmp .ne 8, 3) := by decide +kernel
theorem dX10_ruleItem_285 : decode cX10_ruleItem 285 = .ok (.bipush 6, 2) := by decide +kernel
theorem dX10_ruleItem_287 : decode cX10_ruleItem 287 = .ok (.goto 8, 3) := by decide +kernel
theorem dX10_ruleItem_290 : decode cX10_ruleItem 290 = .ok (.iload 7, 2) := by decide +kernel
theorem dX10_ruleItem_292 : decode cX10_ruleItem 292 = .ok (.bipush 48, 2) := by decide +kernel
theorem dX10_ruleItem_294 : decode cX10_ruleItem 294 = .ok (.isub, 1) := by decide +kernel
theorem dX10_ruleItem_295 : decode cX10_ruleItem 295 = .ok (.invokevirtual 78, 3) := by decide +kernel
theorem dX10_ruleItem_298 : decode cX10_ruleItem 298 = .ok (.goto 63, 3) := by decide +kernel
theorem dX10_ruleItem_301 : decode cX10_ruleItem 301 = .ok (.iload 7, 2) := by decide +kernel
theorem dX10_ruleItem_303 : decode cX10_ruleItem 303 = .ok (.bipush 38, 2) := by decide +kernel
theorem dX10_ruleItem_305 : decode cX10_ruleItem 305 = .ok (.if_icmp .ne 10, 3) := by decide +kernel
theorem dX10_ruleItem_308 : decode cX10_ruleItem 308 = .ok (.aload_n 0, 1) := by decide +kernel
theorem dX10_ruleItem_309 : decode cX10_ruleItem 309 = .ok (.invokevirtual 88, 3) := by decide +kernel
theorem dX10_ruleItem_312 : decode cX10_ruleItem 312 = .ok (.goto 49, 3) := by decide +kernel
theorem dX10_ruleItem_315 : decode cX10_ruleItem 315 = .ok (.iload 7, 2) := by decide +kernel
theorem dX10_ruleItem_317 : decode cX10_ruleItem 317 = .ok (.bipush 124, 2) := by decide +kernel
theorem dX10_ruleItem_319 : decode cX10_ruleItem 319 = .ok (.if_icmp .ne 10, 3) := by decide +kernel
theorem dX10_ruleItem_322 : decode cX10_ruleItem 322 = .ok (.aload_n 0, 1) := by decide +kernel
theorem dX10_ruleItem_323 : decode cX10_ruleItem 323 = .ok (.invokevirtual 94, 3) := by decide +kernel
theorem dX10_ruleItem_326 : decode cX10_ruleItem 326 = .ok (.goto 35, 3) := by decide +kernel
theorem dX10_ruleItem_329 : decode cX10_ruleItem 329 = .ok (.iload 7, 2) := by decide +kernel
theorem dX10_ruleItem_331 : decode cX10_ruleItem 331 = .ok (.bipush 63, 2) := by decide +kernel
theorem dX10_ruleItem_333 : decode cX10_ruleItem 333 = .ok (.if_icmp .ne 10, 3) := by decide +kernel
theorem dX10_ruleItem_336 : decode cX10_ruleItem 336 = .ok (.aload_n 0, 1) := by decide +kernel
theorem dX10_ruleItem_337 : decode cX10_ruleItem 337 = .ok (.invokevirtual 82, 3) := by decide +kernel
theorem dX10_ruleItem_340 : decode cX10_ruleItem 340 = .ok (.goto 21, 3) := by decide +kernel
theorem dX10_ruleItem_343 : decode cX10_ruleItem 343 = .ok (.iload 7, 2) := by decide +kernel
theorem dX10_ruleItem_345 : decode cX10_ruleItem 345 = .ok (.bipush 43, 2) := by decide +kernel
theorem dX10_ruleItem_347 : decode cX10_ruleItem 347 = .ok (.if_icmp .ne 10, 3) := by decide +kernel
theorem dX10_ruleItem_350 : decode cX10_ruleItem 350 = .ok (.aload_n 0, 1) := by decide +kernel
theorem dX10_ruleItem_351 : decode cX10_ruleItem 351 = .ok (.invokevirtual 85, 3) := by decide +kernel
theorem dX10_ruleItem_354 : decode cX10_ruleItem 354 = .ok (.goto 7, 3) := by decide +kernel
theorem dX10_ruleItem_357 : decode cX10_ruleItem 357 = .ok (.aload_n 0, 1) := by decide +kernel
theorem dX10_ruleItem_358 : decode cX10_ruleItem 358 = .ok (.invokevirtual 97, 3) := by decide +kernel
theorem dX10_ruleItem_361 : decode cX10_ruleItem 361 = .ok (.iinc 6 (-1), 3) := by decide +kernel
theorem dX10_ruleItem_364 : decode cX10_ruleItem 364 = .ok (.goto (-114), 3) := by decide +kernel
theorem dX10_ruleItem_367 : decode cX10_ruleItem 367 = .ok (.aload_n 0, 1) := by decide +kernel
theorem dX10_ruleItem_368 : decode cX10_ruleItem 368 = .ok (.iload_n 1, 1) := by decide +kernel
theorem dX10_ruleItem_369 : decode cX10_ruleItem 369 = .ok (.iload 4, 2) := by decide +kernel
theorem dX10_ruleItem_371 : decode cX10_ruleItem 371 = .ok (.invokevirtual 91, 3) := by decide +kernel
theorem dX10_ruleItem_374 : decode cX10_ruleItem 374 = .ok (.return_, 1) := by decide +kernel
theorem dX10_lineItem_0 : decode cX10_lineItem 0 = .ok (.aload_n 0, 1) := by decide +kernel
theorem dX10_lineItem_1 : decode cX10_lineItem 1 = .ok (.getfield 28, 3) := by decide +kernel
theorem dX10_lineItem_4 : decode cX10_lineItem 4 = .ok (.bipush 30, 2) := by decide +kernel
theorem dX10_lineItem_6 : decode cX10_lineItem 6 = .ok (.iconst 0, 1) := by decide +kernel
theorem dX10_lineItem_7 : decode cX10_lineItem 7 = .ok (.iastore, 1) := by decide +kernel
theorem dX10_lineItem_8 : decode cX10_lineItem 8 = .ok (.aload_n 0, 1) := by decide +kernel
theorem dX10_lineItem_9 : decode cX10_lineItem 9 = .ok (.getfield 158, 3) := by decide +kernel
theorem dX10_lineItem_12 : decode cX10_lineItem 12 = .ok (.ifCond .ne 66, 3) := by decide +kernel
theorem dX10_lineItem_15 : decode cX10_lineItem 15 = .ok (.aload_n 0, 1) := by decide +kernel
theorem dX10_lineItem_16 : decode cX10_lineItem 16 = .ok (.invokevirtual 177, 3) := by decide +kernel
theorem dX10_lineItem_19 : decode cX10_lineItem 19 = .ok (.ifCond .eq 59, 3) := by decide +kernel
theorem dX10_lineItem_22 : decode cX10_lineItem 22 = .ok (.aload_n 0, 1) := by decide +kernel
theorem dX10_lineItem_23 : decode cX10_lineItem 23 = .ok (.aload_n 0, 1) := by decide +kernel
theorem dX10_lineItem_24 : decode cX10_lineItem 24 = .ok (.getfield 28, 3) := by decide +kernel
theorem dX10_lineItem_27 : decode cX10_lineItem 27 = .ok (.bipush 30, 2) := by decide +kernel
theorem dX10_lineItem_29 : decode cX10_lineItem 29 = .ok (.iaload, 1) := by decide +kernel
theorem dX10_lineItem_30 : decode cX10_lineItem 30 = .ok (.bipush 30, 2) := by decide +kernel
theorem dX10_lineItem_32 : decode cX10_lineItem 32 = .ok (.if_icmp .ne 7, 3) := by decide +kernel
theorem dX10_lineItem_35 : decode cX10_lineItem 35 = .ok (.iconst 1, 1) := by decide +kernel
theorem dX10_lineItem_36 : decode cX10_lineItem 36 = .ok (.goto 4, 3) := by decide +kernel
theorem dX10_lineItem_39 : decode cX10_lineItem 39 = .ok (.iconst 0, 1) := by decide +kernel
theorem dX10_lineItem_40 : decode cX10_lineItem 40 = .ok (.putfield 158, 3) := by decide +kernel
theorem dX10_lineItem_43 : decode cX10_lineItem 43 = .ok (.aload_n 0, 1) := by decide +kernel
theorem dX10_lineItem_44 : decode cX10_lineItem 44 = .ok (.getfield 158, 3) := by decide +kernel
theorem dX10_lineItem_47 : decode cX10_lineItem 47 = .ok (.ifCond .ne 18, 3) := by decide +kernel
theorem dX10_lineItem_50 : decode cX10_lineItem 50 = .ok (.aload_n 0, 1) := by decide +kernel
theorem dX10_lineItem_51 : decode cX10_lineItem 51 = .ok (.aload_n 0, 1) := by decide +kernel
theorem dX10_lineItem_52 : decode cX10_lineItem 52 = .ok (.aload_n 0, 1) := by decide +kernel
theorem dX10_lineItem_53 : decode cX10_lineItem 53 = .ok (.getfield 151, 3) := by decide +kernel
theorem dX10_lineItem_56 : decode cX10_lineItem 56 = .ok (.invokevirtual 154, 3) := by decide +kernel
theorem dX10_lineItem_59 : decode cX10_lineItem 59 = .ok (.bipush 97, 2) := by decide +kernel
theorem dX10_lineItem_61 : decode cX10_lineItem 61 = .ok (.isub, 1) := by decide +kernel
theorem dX10_lineItem_62 : decode cX10_lineItem 62 = .ok (.invokevirtual 114, 3) := by decide +kernel
theorem dX10_lineItem_65 : decode cX10_lineItem 65 = .ok (.aload_n 0, 1) := by decide +kernel
theorem dX10_lineItem_66 : decode cX10_lineItem 66 = .ok (.dup, 1) := by decide +kernel
theorem dX10_lineItem_67 : decode cX10_lineItem 67 = .ok (.getfield 151, 3) := by decide +kernel
theorem dX10_lineItem_70 : decode cX10_lineItem 70 = .ok (.iconst 1, 1) := by decide +kernel
theorem dX10_lineItem_71 : decode cX10_lineItem 71 = .ok (.iadd, 1) := by decide +kernel
theorem dX10_lineItem_72 : decode cX10_lineItem 72 = .ok (.putfield 151, 3) := by decide +kernel
theorem dX10_lineItem_75 : decode cX10_lineItem 75 = .ok (.goto (-67), 3) := by decide +kernel
theorem dX10_lineItem_78 : decode cX10_lineItem 78 = .ok (.return_, 1) := by decide +kernel
theorem dX10_reads_0 : decode cX10_reads 0 = .ok (.aload_n 0, 1) := by decide +kernel
theorem dX10_reads_1 : decode cX10_reads 1 = .ok (.invokevirtual 72, 3) := by decide +kernel
theorem dX10_reads_4 : decode cX10_reads 4 = .ok (.aload_n 0, 1) := by decide +kernel
theorem dX10_reads_5 : decode cX10_reads 5 = .ok (.iconst 0, 1) := by decide +kernel
theorem dX10_reads_6 : decode cX10_reads 6 = .ok (.putfield 151, 3) := by decide +kernel
theorem dX10_reads_9 : decode cX10_reads 9 = .ok (.aload_n 0, 1) := by decide +kernel
theorem dX10_reads_10 : decode cX10_reads 10 = .ok (.iconst 0, 1) := by decide +kernel
theorem dX10_reads_11 : decode cX10_reads 11 = .ok (.putfield 158, 3) := by decide +kernel
theorem dX10_reads_14 : decode cX10_reads 14 = .ok (.aload_n 0, 1) := by decide +kernel
theorem dX10_reads_15 : decode cX10_reads 15 = .ok (.getfield 151, 3) := by decide +kernel
theorem dX10_reads_18 : decode cX10_reads 18 = .ok (.aload_n 0, 1) := by decide +kernel
theorem dX10_reads_19 : decode cX10_reads 19 = .ok (.getfield 148, 3) := by decide +kernel
theorem dX10_reads_22 : decode cX10_reads 22 = .ok (.if_icmp .ge 123, 3) := by decide +kernel
theorem dX10_reads_25 : decode cX10_reads 25 = .ok (.aload_n 0, 1) := by decide +kernel
theorem dX10_reads_26 : decode cX10_reads 26 = .ok (.getfield 158, 3) := by decide +kernel
theorem dX10_reads_29 : decode cX10_reads 29 = .ok (.ifCond .ne 116, 3) := by decide +kernel
theorem dX10_reads_32 : decode cX10_reads 32 = .ok (.aload_n 0, 1) := by decide +kernel
theorem dX10_reads_33 : decode cX10_reads 33 = .ok (.aload_n 0, 1) := by decide +kernel
theorem dX10_reads_34 : decode cX10_reads 34 = .ok (.getfield 151, 3) := by decide +kernel
theorem dX10_reads_37 : decode cX10_reads 37 = .ok (.putfield 187, 3) := by decide +kernel
theorem dX10_reads_40 : decode cX10_reads 40 = .ok (.aload_n 0, 1) := by decide +kernel
theorem dX10_reads_41 : decode cX10_reads 41 = .ok (.aload_n 0, 1) := by decide +kernel
theorem dX10_reads_42 : decode cX10_reads 42 = .ok (.getfield 151, 3) := by decide +kernel
theorem dX10_reads_45 : decode cX10_reads 45 = .ok (.invokevirtual 154, 3) := by decide +kernel
theorem dX10_reads_48 : decode cX10_reads 48 = .ok (.istore_n 1, 1) := by decide +kernel
theorem dX10_reads_49 : decode cX10_reads 49 = .ok (.aload_n 0, 1) := by decide +kernel
theorem dX10_reads_50 : decode cX10_reads 50 = .ok (.dup, 1) := by decide +kernel
theorem dX10_reads_51 : decode cX10_reads 51 = .ok (.getfield 151, 3) := by decide +kernel
theorem dX10_reads_54 : decode cX10_reads 54 = .ok (.iconst 1, 1) := by decide +kernel
theorem dX10_reads_55 : decode cX10_reads 55 = .ok (.iadd, 1) := by decide +kernel
theorem dX10_reads_56 : decode cX10_reads 56 = .ok (.putfield 151, 3) := by decide +kernel
theorem dX10_reads_59 : decode cX10_reads 59 = .ok (.iload_n 1, 1) := by decide +kernel
theorem dX10_reads_60 : decode cX10_reads 60 = .ok (.bipush 99, 2) := by decide +kernel
theorem dX10_reads_62 : decode cX10_reads 62 = .ok (.if_icmp .ne 10, 3) := by decide +kernel
theorem dX10_reads_65 : decode cX10_reads 65 = .ok (.aload_n 0, 1) := by decide +kernel
theorem dX10_reads_66 : decode cX10_reads 66 = .ok (.invokevirtual 190, 3) := by decide +kernel
theorem dX10_reads_69 : decode cX10_reads 69 = .ok (.goto 34, 3) := by decide +kernel
theorem dX10_reads_72 : decode cX10_reads 72 = .ok (.iload_n 1, 1) := by decide +kernel
theorem dX10_reads_73 : decode cX10_reads 73 = .ok (.bipush 114, 2) := by decide +kernel
theorem dX10_reads_75 : decode cX10_reads 75 = .ok (.if_icmp .ne 10, 3) := by decide +kernel
theorem dX10_reads_78 : decode cX10_reads 78 = .ok (.aload_n 0, 1) := by decide +kernel
theorem dX10_reads_79 : decode cX10_reads 79 = .ok (.invokevirtual 193, 3) := by decide +kernel
theorem dX10_reads_82 : decode cX10_reads 82 = .ok (.goto 21, 3) := by decide +kernel
theorem dX10_reads_85 : decode cX10_reads 85 = .ok (.iload_n 1, 1) := by decide +kernel
theorem dX10_reads_86 : decode cX10_reads 86 = .ok (.bipush 115, 2) := by decide +kernel
theorem dX10_reads_88 : decode cX10_reads 88 = .ok (.if_icmp .ne 10, 3) := by decide +kernel
theorem dX10_reads_91 : decode cX10_reads 91 = .ok (.aload_n 0, 1) := by decide +kernel
theorem dX10_reads_92 : decode cX10_reads 92 = .ok (.invokevirtual 196, 3) := by decide +kernel
theorem dX10_reads_95 : decode cX10_reads 95 = .ok (.goto 8, 3) := by decide +kernel
theorem dX10_reads_98 : decode cX10_reads 98 = .ok (.aload_n 0, 1) := by decide +kernel
theorem dX10_reads_99 : decode cX10_reads 99 = .ok (.iconst 1, 1) := by decide +kernel
theorem dX10_reads_100 : decode cX10_reads 100 = .ok (.putfield 158, 3) := by decide +kernel
theorem dX10_reads_103 : decode cX10_reads 103 = .ok (.aload_n 0, 1) := by decide +kernel
theorem dX10_reads_104 : decode cX10_reads 104 = .ok (.aload_n 0, 1) := by decide +kernel
theorem dX10_reads_105 : decode cX10_reads 105 = .ok (.getfield 158, 3) := by decide +kernel
theorem dX10_reads_108 : decode cX10_reads 108 = .ok (.ifCond .ne 16, 3) := by decide +kernel
theorem dX10_reads_111 : decode cX10_reads 111 = .ok (.aload_n 0, 1) := by decide +kernel
theorem dX10_reads_112 : decode cX10_reads 112 = .ok (.aload_n 0, 1) := by decide +kernel
theorem dX10_reads_113 : decode cX10_reads 113 = .ok (.getfield 151, 3) := by decide +kernel
theorem dX10_reads_116 : decode cX10_reads 116 = .ok (.invokevirtual 154, 3) := by decide +kernel
theorem dX10_reads_119 : decode cX10_reads 119 = .ok (.bipush 59, 2) := by decide +kernel
theorem dX10_reads_121 : decode cX10_reads 121 = .ok (.if_icmp .eq 7, 3) := by decide +kernel
theorem dX10_reads_124 : decode cX10_reads 124 = .ok (.iconst 1, 1) := by decide +kernel
theorem dX10_reads_125 : decode cX10_reads 125 = .ok (.goto 4, 3) := by decide +kernel
theorem dX10_reads_128 : decode cX10_reads 128 = .ok (.iconst 0, 1) := by decide +kernel
theorem dX10_reads_129 : decode cX10_reads 129 = .ok (.putfield 158, 3) := by decide +kernel
theorem dX10_reads_132 : decode cX10_reads 132 = .ok (.aload_n 0, 1) := by decide +kernel
theorem dX10_reads_133 : decode cX10_reads 133 = .ok (.dup, 1) := by decide +kernel
theorem dX10_reads_134 : decode cX10_reads 134 = .ok (.getfield 151, 3) := by decide +kernel
theorem dX10_reads_137 : decode cX10_reads 137 = .ok (.iconst 1, 1) := by decide +kernel
theorem dX10_reads_138 : decode cX10_reads 138 = .ok (.iadd, 1) := by decide +kernel
theorem dX10_reads_139 : decode cX10_reads 139 = .ok (.putfield 151, 3) := by decide +kernel
theorem dX10_reads_142 : decode cX10_reads 142 = .ok (.goto (-128), 3) := by decide +kernel
theorem dX10_reads_145 : decode cX10_reads 145 = .ok (.return_, 1) := by decide +kernel
theorem dX10_fault_0 : decode cX10_fault 0 = .ok (.aload_n 0, 1) := by decide +kernel
theorem dX10_fault_1 : decode cX10_fault 1 = .ok (.invokevirtual 199, 3) := by decide +kernel
theorem dX10_fault_4 : decode cX10_fault 4 = .ok (.aload_n 0, 1) := by decide +kernel
theorem dX10_fault_5 : decode cX10_fault 5 = .ok (.getfield 158, 3) := by decide +kernel
theorem dX10_fault_8 : decode cX10_fault 8 = .ok (.ifCond .eq 10, 3) := by decide +kernel
theorem dX10_fault_11 : decode cX10_fault 11 = .ok (.aload_n 0, 1) := by decide +kernel
theorem dX10_fault_12 : decode cX10_fault 12 = .ok (.getfield 187, 3) := by decide +kernel
theorem dX10_fault_15 : decode cX10_fault 15 = .ok (.goto 5, 3) := by decide +kernel
theorem dX10_fault_18 : decode cX10_fault 18 = .ok (.bipush (-4), 2) := by decide +kernel
theorem dX10_fault_20 : decode cX10_fault 20 = .ok (.ireturn, 1) := by decide +kernel
theorem dX10_lay_0 : decode cX10_lay 0 = .ok (.aload_n 0, 1) := by decide +kernel
theorem dX10_lay_1 : decode cX10_lay 1 = .ok (.invokevirtual 199, 3) := by decide +kernel
theorem dX10_lay_4 : decode cX10_lay 4 = .ok (.aload_n 0, 1) := by decide +kernel
theorem dX10_lay_5 : decode cX10_lay 5 = .ok (.getfield 158, 3) := by decide +kernel
theorem dX10_lay_8 : decode cX10_lay 8 = .ok (.ifCond .ne 10, 3) := by decide +kernel
theorem dX10_lay_11 : decode cX10_lay 11 = .ok (.aload_n 0, 1) := by decide +kernel
theorem dX10_lay_12 : decode cX10_lay 12 = .ok (.getfield 107, 3) := by decide +kernel
theorem dX10_lay_15 : decode cX10_lay 15 = .ok (.ifCond .ne 6, 3) := by decide +kernel
theorem dX10_lay_18 : decode cX10_lay 18 = .ok (.bipush (-2), 2) := by decide +kernel
theorem dX10_lay_20 : decode cX10_lay 20 = .ok (.ireturn, 1) := by decide +kernel
theorem dX10_lay_21 : decode cX10_lay 21 = .ok (.aload_n 0, 1) := by decide +kernel
theorem dX10_lay_22 : decode cX10_lay 22 = .ok (.invokevirtual 104, 3) := by decide +kernel
theorem dX10_lay_25 : decode cX10_lay 25 = .ok (.aload_n 0, 1) := by decide +kernel
theorem dX10_lay_26 : decode cX10_lay 26 = .ok (.getfield 118, 3) := by decide +kernel
theorem dX10_lay_29 : decode cX10_lay 29 = .ok (.ireturn, 1) := by decide +kernel
theorem dX10_isRule_0 : decode cX10_isRule 0 = .ok (.iload_n 1, 1) := by decide +kernel
theorem dX10_isRule_1 : decode cX10_isRule 1 = .ok (.i2l, 1) := by decide +kernel
theorem dX10_isRule_2 : decode cX10_isRule 2 = .ok (.lconst 0, 1) := by decide +kernel
theorem dX10_isRule_3 : decode cX10_isRule 3 = .ok (.aload_n 0, 1) := by decide +kernel
theorem dX10_isRule_4 : decode cX10_isRule 4 = .ok (.getfield 118, 3) := by decide +kernel
theorem dX10_isRule_7 : decode cX10_isRule 7 = .ok (.iconst 1, 1) := by decide +kernel
theorem dX10_isRule_8 : decode cX10_isRule 8 = .ok (.isub, 1) := by decide +kernel
theorem dX10_isRule_9 : decode cX10_isRule 9 = .ok (.i2l, 1) := by decide +kernel
theorem dX10_isRule_10 : decode cX10_isRule 10 = .ok (.invokestatic 144, 3) := by decide +kernel
theorem dX10_isRule_13 : decode cX10_isRule 13 = .ok (.ireturn, 1) := by decide +kernel
theorem dX10_isPlace_0 : decode cX10_isPlace 0 = .ok (.iload_n 1, 1) := by decide +kernel
theorem dX10_isPlace_1 : decode cX10_isPlace 1 = .ok (.i2l, 1) := by decide +kernel
theorem dX10_isPlace_2 : decode cX10_isPlace 2 = .ok (.lconst 0, 1) := by decide +kernel
theorem dX10_isPlace_3 : decode cX10_isPlace 3 = .ok (.aload_n 0, 1) := by decide +kernel
theorem dX10_isPlace_4 : decode cX10_isPlace 4 = .ok (.getfield 31, 3) := by decide +kernel
theorem dX10_isPlace_7 : decode cX10_isPlace 7 = .ok (.bipush 30, 2) := by decide +kernel
theorem dX10_isPlace_9 : decode cX10_isPlace 9 = .ok (.iaload, 1) := by decide +kernel
theorem dX10_isPlace_10 : decode cX10_isPlace 10 = .ok (.i2l, 1) := by decide +kernel
theorem dX10_isPlace_11 : decode cX10_isPlace 11 = .ok (.invokestatic 144, 3) := by decide +kernel
theorem dX10_isPlace_14 : decode cX10_isPlace 14 = .ok (.ireturn, 1) := by decide +kernel
theorem dX10_rule_0 : decode cX10_rule 0 = .ok (.aload_n 0, 1) := by decide +kernel
theorem dX10_rule_1 : decode cX10_rule 1 = .ok (.iload_n 1, 1) := by decide +kernel
theorem dX10_rule_2 : decode cX10_rule 2 = .ok (.invokevirtual 202, 3) := by decide +kernel
theorem dX10_rule_5 : decode cX10_rule 5 = .ok (.ifCond .eq 15, 3) := by decide +kernel
theorem dX10_rule_8 : decode cX10_rule 8 = .ok (.iload_n 2, 1) := by decide +kernel
theorem dX10_rule_9 : decode cX10_rule 9 = .ok (.i2l, 1) := by decide +kernel
theorem dX10_rule_10 : decode cX10_rule 10 = .ok (.lconst 0, 1) := by decide +kernel
theorem dX10_rule_11 : decode cX10_rule 11 = .ok (.ldc2_w 205, 3) := by decide +kernel
theorem dX10_rule_14 : decode cX10_rule 14 = .ok (.invokestatic 144, 3) := by decide +kernel
theorem dX10_rule_17 : decode cX10_rule 17 = .ok (.ifCond .ne 5, 3) := by decide +kernel
theorem dX10_rule_20 : decode cX10_rule 20 = .ok (.iconst (-1), 1) := by decide +kernel
theorem dX10_rule_21 : decode cX10_rule 21 = .ok (.ireturn, 1) := by decide +kernel
theorem dX10_rule_22 : decode cX10_rule 22 = .ok (.iload_n 2, 1) := by decide +kernel
theorem dX10_rule_23 : decode cX10_rule 23 = .ok (.ifCond .ne 15, 3) := by decide +kernel
theorem dX10_rule_26 : decode cX10_rule 26 = .ok (.aload_n 0, 1) := by decide +kernel
theorem dX10_rule_27 : decode cX10_rule 27 = .ok (.getfield 31, 3) := by decide +kernel
theorem dX10_rule_30 : decode cX10_rule 30 = .ok (.bipush 26, 2) := by decide +kernel
theorem dX10_rule_32 : decode cX10_rule 32 = .ok (.iload_n 1, 1) := by decide +kernel
theorem dX10_rule_33 : decode cX10_rule 33 = .ok (.iadd, 1) := by decide +kernel
theorem dX10_rule_34 : decode cX10_rule 34 = .ok (.iaload, 1) := by decide +kernel
theorem dX10_rule_35 : decode cX10_rule 35 = .ok (.goto 44, 3) := by decide +kernel
theorem dX10_rule_38 : decode cX10_rule 38 = .ok (.iload_n 2, 1) := by decide +kernel
theorem dX10_rule_39 : decode cX10_rule 39 = .ok (.iconst 1, 1) := by decide +kernel
theorem dX10_rule_40 : decode cX10_rule 40 = .ok (.if_icmp .ne 15, 3) := by decide +kernel
theorem dX10_rule_43 : decode cX10_rule 43 = .ok (.aload_n 0, 1) := by decide +kernel
theorem dX10_rule_44 : decode cX10_rule 44 = .ok (.getfield 7, 3) := by decide +kernel
theorem dX10_rule_47 : decode cX10_rule 47 = .ok (.bipush 8, 2) := by decide +kernel
theorem dX10_rule_49 : decode cX10_rule 49 = .ok (.iload_n 1, 1) := by decide +kernel
theorem dX10_rule_50 : decode cX10_rule 50 = .ok (.iadd, 1) := by decide +kernel
theorem dX10_rule_51 : decode cX10_rule 51 = .ok (.iaload, 1) := by decide +kernel
theorem dX10_rule_52 : decode cX10_rule 52 = .ok (.goto 27, 3) := by decide +kernel
theorem dX10_rule_55 : decode cX10_rule 55 = .ok (.iload_n 2, 1) := by decide +kernel
theorem dX10_rule_56 : decode cX10_rule 56 = .ok (.iconst 2, 1) := by decide +kernel
theorem dX10_rule_57 : decode cX10_rule 57 = .ok (.if_icmp .ne 14, 3) := by decide +kernel
theorem dX10_rule_60 : decode cX10_rule 60 = .ok (.aload_n 0, 1) := by decide +kernel
theorem dX10_rule_61 : decode cX10_rule 61 = .ok (.getfield 7, 3) := by decide +kernel
theorem dX10_rule_64 : decode cX10_rule 64 = .ok (.iconst 0, 1) := by decide +kernel
theorem dX10_rule_65 : decode cX10_rule 65 = .ok (.iload_n 1, 1) := by decide +kernel
theorem dX10_rule_66 : decode cX10_rule 66 = .ok (.iadd, 1) := by decide +kernel
theorem dX10_rule_67 : decode cX10_rule 67 = .ok (.iaload, 1) := by decide +kernel
theorem dX10_rule_68 : decode cX10_rule 68 = .ok (.goto 11, 3) := by decide +kernel
theorem dX10_rule_71 : decode cX10_rule 71 = .ok (.aload_n 0, 1) := by decide +kernel
theorem dX10_rule_72 : decode cX10_rule 72 = .ok (.getfield 7, 3) := by decide +kernel
theorem dX10_rule_75 : decode cX10_rule 75 = .ok (.iconst 4, 1) := by decide +kernel
theorem dX10_rule_76 : decode cX10_rule 76 = .ok (.iload_n 1, 1) := by decide +kernel
theorem dX10_rule_77 : decode cX10_rule 77 = .ok (.iadd, 1) := by decide +kernel
theorem dX10_rule_78 : decode cX10_rule 78 = .ok (.iaload, 1) := by decide +kernel
theorem dX10_rule_79 : decode cX10_rule 79 = .ok (.ireturn, 1) := by decide +kernel
theorem dX10_place_0 : decode cX10_place 0 = .ok (.iload_n 1, 1) := by decide +kernel
theorem dX10_place_1 : decode cX10_place 1 = .ok (.i2l, 1) := by decide +kernel
theorem dX10_place_2 : decode cX10_place 2 = .ok (.lconst 0, 1) := by decide +kernel
theorem dX10_place_3 : decode cX10_place 3 = .ok (.aload_n 0, 1) := by decide +kernel
theorem dX10_place_4 : decode cX10_place 4 = .ok (.getfield 121, 3) := by decide +kernel
theorem dX10_place_7 : decode cX10_place 7 = .ok (.iconst 1, 1) := by decide +kernel
theorem dX10_place_8 : decode cX10_place 8 = .ok (.isub, 1) := by decide +kernel
theorem dX10_place_9 : decode cX10_place 9 = .ok (.i2l, 1) := by decide +kernel
theorem dX10_place_10 : decode cX10_place 10 = .ok (.invokestatic 144, 3) := by decide +kernel
theorem dX10_place_13 : decode cX10_place 13 = .ok (.ifCond .eq 35, 3) := by decide +kernel
theorem dX10_place_16 : decode cX10_place 16 = .ok (.iload_n 2, 1) := by decide +kernel
theorem dX10_place_17 : decode cX10_place 17 = .ok (.i2l, 1) := by decide +kernel
theorem dX10_place_18 : decode cX10_place 18 = .ok (.lconst 0, 1) := by decide +kernel
theorem dX10_place_19 : decode cX10_place 19 = .ok (.lconst 1, 1) := by decide +kernel
theorem dX10_place_20 : decode cX10_place 20 = .ok (.invokestatic 144, 3) := by decide +kernel
theorem dX10_place_23 : decode cX10_place 23 = .ok (.ifCond .eq 25, 3) := by decide +kernel
theorem dX10_place_26 : decode cX10_place 26 = .ok (.iload_n 2, 1) := by decide +kernel
theorem dX10_place_27 : decode cX10_place 27 = .ok (.ifCond .ne 12, 3) := by decide +kernel
theorem dX10_place_30 : decode cX10_place 30 = .ok (.aload_n 0, 1) := by decide +kernel
theorem dX10_place_31 : decode cX10_place 31 = .ok (.getfield 13, 3) := by decide +kernel
theorem dX10_place_34 : decode cX10_place 34 = .ok (.iload_n 1, 1) := by decide +kernel
theorem dX10_place_35 : decode cX10_place 35 = .ok (.iaload, 1) := by decide +kernel
theorem dX10_place_36 : decode cX10_place 36 = .ok (.goto 13, 3) := by decide +kernel
theorem dX10_place_39 : decode cX10_place 39 = .ok (.aload_n 0, 1) := by decide +kernel
theorem dX10_place_40 : decode cX10_place 40 = .ok (.getfield 16, 3) := by decide +kernel
theorem dX10_place_43 : decode cX10_place 43 = .ok (.iload_n 1, 1) := by decide +kernel
theorem dX10_place_44 : decode cX10_place 44 = .ok (.iaload, 1) := by decide +kernel
theorem dX10_place_45 : decode cX10_place 45 = .ok (.goto 4, 3) := by decide +kernel
theorem dX10_place_48 : decode cX10_place 48 = .ok (.iconst (-1), 1) := by decide +kernel
theorem dX10_place_49 : decode cX10_place 49 = .ok (.ireturn, 1) := by decide +kernel
theorem dX10_kind_0 : decode cX10_kind 0 = .ok (.iload_n 1, 1) := by decide +kernel
theorem dX10_kind_1 : decode cX10_kind 1 = .ok (.i2l, 1) := by decide +kernel
theorem dX10_kind_2 : decode cX10_kind 2 = .ok (.lconst 0, 1) := by decide +kernel
theorem dX10_kind_3 : decode cX10_kind 3 = .ok (.ldc2_w 207, 3) := by decide +kernel
theorem dX10_kind_6 : decode cX10_kind 6 = .ok (.invokestatic 144, 3) := by decide +kernel
theorem dX10_kind_9 : decode cX10_kind 9 = .ok (.ifCond .eq 12, 3) := by decide +kernel
theorem dX10_kind_12 : decode cX10_kind 12 = .ok (.aload_n 0, 1) := by decide +kernel
theorem dX10_kind_13 : decode cX10_kind 13 = .ok (.getfield 31, 3) := by decide +kernel
theorem dX10_kind_16 : decode cX10_kind 16 = .ok (.iload_n 1, 1) := by decide +kernel
theorem dX10_kind_17 : decode cX10_kind 17 = .ok (.iaload, 1) := by decide +kernel
theorem dX10_kind_18 : decode cX10_kind 18 = .ok (.goto 4, 3) := by decide +kernel
theorem dX10_kind_21 : decode cX10_kind 21 = .ok (.iconst (-1), 1) := by decide +kernel
theorem dX10_kind_22 : decode cX10_kind 22 = .ok (.ireturn, 1) := by decide +kernel
theorem dX10_letter_0 : decode cX10_letter 0 = .ok (.aload_n 0, 1) := by decide +kernel
theorem dX10_letter_1 : decode cX10_letter 1 = .ok (.iload_n 1, 1) := by decide +kernel
theorem dX10_letter_2 : decode cX10_letter 2 = .ok (.invokevirtual 209, 3) := by decide +kernel
theorem dX10_letter_5 : decode cX10_letter 5 = .ok (.ifCond .ne 7, 3) := by decide +kernel
theorem dX10_letter_8 : decode cX10_letter 8 = .ok (.iconst (-1), 1) := by decide +kernel
theorem dX10_letter_9 : decode cX10_letter 9 = .ok (.goto 28, 3) := by decide +kernel
theorem dX10_letter_12 : decode cX10_letter 12 = .ok (.iload_n 1, 1) := by decide +kernel
theorem dX10_letter_13 : decode cX10_letter 13 = .ok (.aload_n 0, 1) := by decide +kernel
theorem dX10_letter_14 : decode cX10_letter 14 = .ok (.getfield 31, 3) := by decide +kernel
theorem dX10_letter_17 : decode cX10_letter 17 = .ok (.bipush 30, 2) := by decide +kernel
theorem dX10_letter_19 : decode cX10_letter 19 = .ok (.iaload, 1) := by decide +kernel
theorem dX10_letter_20 : decode cX10_letter 20 = .ok (.if_icmp .ne 8, 3) := by decide +kernel
theorem dX10_letter_23 : decode cX10_letter 23 = .ok (.bipush (-4), 2) := by decide +kernel
theorem dX10_letter_25 : decode cX10_letter 25 = .ok (.goto 12, 3) := by decide +kernel
theorem dX10_letter_28 : decode cX10_letter 28 = .ok (.aload_n 0, 1) := by decide +kernel
theorem dX10_letter_29 : decode cX10_letter 29 = .ok (.getfield 31, 3) := by decide +kernel
theorem dX10_letter_32 : decode cX10_letter 32 = .ok (.bipush 31, 2) := by decide +kernel
theorem dX10_letter_34 : decode cX10_letter 34 = .ok (.iload_n 1, 1) := by decide +kernel
theorem dX10_letter_35 : decode cX10_letter 35 = .ok (.iadd, 1) := by decide +kernel
theorem dX10_letter_36 : decode cX10_letter 36 = .ok (.iaload, 1) := by decide +kernel
theorem dX10_letter_37 : decode cX10_letter 37 = .ok (.ireturn, 1) := by decide +kernel
theorem dX10_copies_0 : decode cX10_copies 0 = .ok (.iconst 0, 1) := by decide +kernel
theorem dX10_copies_1 : decode cX10_copies 1 = .ok (.istore_n 3, 1) := by decide +kernel
theorem dX10_copies_2 : decode cX10_copies 2 = .ok (.iload_n 3, 1) := by decide +kernel
theorem dX10_copies_3 : decode cX10_copies 3 = .ok (.bipush 61, 2) := by decide +kernel
theorem dX10_copies_5 : decode cX10_copies 5 = .ok (.if_icmp .ge 25, 3) := by decide +kernel
theorem dX10_copies_8 : decode cX10_copies 8 = .ok (.aload_n 0, 1) := by decide +kernel
theorem dX10_copies_9 : decode cX10_copies 9 = .ok (.getfield 31, 3) := by decide +kernel
theorem dX10_copies_12 : decode cX10_copies 12 = .ok (.iload_n 2, 1) := by decide +kernel
theorem dX10_copies_13 : decode cX10_copies 13 = .ok (.iload_n 3, 1) := by decide +kernel
theorem dX10_copies_14 : decode cX10_copies 14 = .ok (.iadd, 1) := by decide +kernel
theorem dX10_copies_15 : decode cX10_copies 15 = .ok (.aload_n 0, 1) := by decide +kernel
theorem dX10_copies_16 : decode cX10_copies 16 = .ok (.getfield 31, 3) := by decide +kernel
theorem dX10_copies_19 : decode cX10_copies 19 = .ok (.iload_n 1, 1) := by decide +kernel
theorem dX10_copies_20 : decode cX10_copies 20 = .ok (.iload_n 3, 1) := by decide +kernel
theorem dX10_copies_21 : decode cX10_copies 21 = .ok (.iadd, 1) := by decide +kernel
theorem dX10_copies_22 : decode cX10_copies 22 = .ok (.iaload, 1) := by decide +kernel
theorem dX10_copies_23 : decode cX10_copies 23 = .ok (.iastore, 1) := by decide +kernel
theorem dX10_copies_24 : decode cX10_copies 24 = .ok (.iinc 3 1, 3) := by decide +kernel
theorem dX10_copies_27 : decode cX10_copies 27 = .ok (.goto (-25), 3) := by decide +kernel
theorem dX10_copies_30 : decode cX10_copies 30 = .ok (.return_, 1) := by decide +kernel
theorem dX10_known_0 : decode cX10_known 0 = .ok (.aload_n 0, 1) := by decide +kernel
theorem dX10_known_1 : decode cX10_known 1 = .ok (.getfield 124, 3) := by decide +kernel
theorem dX10_known_4 : decode cX10_known 4 = .ok (.bipush 8, 2) := by decide +kernel
theorem dX10_known_6 : decode cX10_known 6 = .ok (.if_icmp .ne 40, 3) := by decide +kernel
theorem dX10_known_9 : decode cX10_known 9 = .ok (.bipush 61, 2) := by decide +kernel
theorem dX10_known_11 : decode cX10_known 11 = .ok (.istore_n 1, 1) := by decide +kernel
theorem dX10_known_12 : decode cX10_known 12 = .ok (.iload_n 1, 1) := by decide +kernel
theorem dX10_known_13 : decode cX10_known 13 = .ok (.sipush 488, 3) := by decide +kernel
theorem dX10_known_16 : decode cX10_known 16 = .ok (.if_icmp .ge 24, 3) := by decide +kernel
theorem dX10_known_19 : decode cX10_known 19 = .ok (.aload_n 0, 1) := by decide +kernel
theorem dX10_known_20 : decode cX10_known 20 = .ok (.getfield 31, 3) := by decide +kernel
theorem dX10_known_23 : decode cX10_known 23 = .ok (.iload_n 1, 1) := by decide +kernel
theorem dX10_known_24 : decode cX10_known 24 = .ok (.aload_n 0, 1) := by decide +kernel
theorem dX10_known_25 : decode cX10_known 25 = .ok (.getfield 31, 3) := by decide +kernel
theorem dX10_known_28 : decode cX10_known 28 = .ok (.iload_n 1, 1) := by decide +kernel
theorem dX10_known_29 : decode cX10_known 29 = .ok (.bipush 61, 2) := by decide +kernel

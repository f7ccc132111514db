theorem dX9_keep_0 : decode cX9_keep 0 = .ok (.aload_n 0, 1) := by decide +kernel
theorem dX9_keep_1 : decode cX9_keep 1 = .ok (.getfield 245, 3) := by decide +kernel
theorem dX9_keep_4 : decode cX9_keep 4 = .ok (.iconst 2, 1) := by decide +kernel
theorem dX9_keep_5 : decode cX9_keep 5 = .ok (.if_icmp .lt 6, 3) := by decide +kernel
theorem dX9_keep_8 : decode cX9_keep 8 = .ok (.bipush (-3), 2) := by decide +kernel
theorem dX9_keep_10 : decode cX9_keep 10 = .ok (.ireturn, 1) := by decide +kernel
theorem dX9_keep_11 : decode cX9_keep 11 = .ok (.aload_n 0, 1) := by decide +kernel
theorem dX9_keep_12 : decode cX9_keep 12 = .ok (.aload_n 0, 1) := by decide +kernel
theorem dX9_keep_13 : decode cX9_keep 13 = .ok (.getfield 245, 3) := by decide +kernel
theorem dX9_keep_16 : decode cX9_keep 16 = .ok (.invokevirtual 249, 3) := by decide +kernel
theorem dX9_keep_19 : decode cX9_keep 19 = .ok (.aload_n 0, 1) := by decide +kernel
theorem dX9_keep_20 : decode cX9_keep 20 = .ok (.getfield 26, 3) := by decide +kernel
theorem dX9_keep_23 : decode cX9_keep 23 = .ok (.invokevirtual 231, 3) := by decide +kernel
theorem dX9_keep_26 : decode cX9_keep 26 = .ok (.aload_n 0, 1) := by decide +kernel
theorem dX9_keep_27 : decode cX9_keep 27 = .ok (.dup, 1) := by decide +kernel
theorem dX9_keep_28 : decode cX9_keep 28 = .ok (.getfield 245, 3) := by decide +kernel
theorem dX9_keep_31 : decode cX9_keep 31 = .ok (.iconst 1, 1) := by decide +kernel
theorem dX9_keep_32 : decode cX9_keep 32 = .ok (.iadd, 1) := by decide +kernel
theorem dX9_keep_33 : decode cX9_keep 33 = .ok (.putfield 245, 3) := by decide +kernel
theorem dX9_keep_36 : decode cX9_keep 36 = .ok (.aload_n 0, 1) := by decide +kernel
theorem dX9_keep_37 : decode cX9_keep 37 = .ok (.getfield 245, 3) := by decide +kernel
theorem dX9_keep_40 : decode cX9_keep 40 = .ok (.ireturn, 1) := by decide +kernel
theorem dX9_restore_0 : decode cX9_restore 0 = .ok (.aload_n 0, 1) := by decide +kernel
theorem dX9_restore_1 : decode cX9_restore 1 = .ok (.getfield 245, 3) := by decide +kernel
theorem dX9_restore_4 : decode cX9_restore 4 = .ok (.ifCond .ne 6, 3) := by decide +kernel
theorem dX9_restore_7 : decode cX9_restore 7 = .ok (.bipush (-2), 2) := by decide +kernel
theorem dX9_restore_9 : decode cX9_restore 9 = .ok (.ireturn, 1) := by decide +kernel
theorem dX9_restore_10 : decode cX9_restore 10 = .ok (.aload_n 0, 1) := by decide +kernel
theorem dX9_restore_11 : decode cX9_restore 11 = .ok (.dup, 1) := by decide +kernel
theorem dX9_restore_12 : decode cX9_restore 12 = .ok (.getfield 245, 3) := by decide +kernel
theorem dX9_restore_15 : decode cX9_restore 15 = .ok (.iconst 1, 1) := by decide +kernel
theorem dX9_restore_16 : decode cX9_restore 16 = .ok (.isub, 1) := by decide +kernel
theorem dX9_restore_17 : decode cX9_restore 17 = .ok (.putfield 245, 3) := by decide +kernel
theorem dX9_restore_20 : decode cX9_restore 20 = .ok (.aload_n 0, 1) := by decide +kernel
theorem dX9_restore_21 : decode cX9_restore 21 = .ok (.getfield 26, 3) := by decide +kernel
theorem dX9_restore_24 : decode cX9_restore 24 = .ok (.aload_n 0, 1) := by decide +kernel
theorem dX9_restore_25 : decode cX9_restore 25 = .ok (.aload_n 0, 1) := by decide +kernel
theorem dX9_restore_26 : decode cX9_restore 26 = .ok (.getfield 245, 3) := by decide +kernel
theorem dX9_restore_29 : decode cX9_restore 29 = .ok (.invokevirtual 249, 3) := by decide +kernel
theorem dX9_restore_32 : decode cX9_restore 32 = .ok (.invokevirtual 231, 3) := by decide +kernel
theorem dX9_restore_35 : decode cX9_restore 35 = .ok (.aload_n 0, 1) := by decide +kernel
theorem dX9_restore_36 : decode cX9_restore 36 = .ok (.getfield 39, 3) := by decide +kernel
theorem dX9_restore_39 : decode cX9_restore 39 = .ok (.invokevirtual 253, 3) := by decide +kernel
theorem dX9_restore_42 : decode cX9_restore 42 = .ok (.aload_n 0, 1) := by decide +kernel
theorem dX9_restore_43 : decode cX9_restore 43 = .ok (.invokevirtual 164, 3) := by decide +kernel
theorem dX9_restore_46 : decode cX9_restore 46 = .ok (.aload_n 0, 1) := by decide +kernel
theorem dX9_restore_47 : decode cX9_restore 47 = .ok (.getfield 245, 3) := by decide +kernel
theorem dX9_restore_50 : decode cX9_restore 50 = .ok (.ireturn, 1) := by decide +kernel
theorem dX9_count_0 : decode cX9_count 0 = .ok (.iload_n 1, 1) := by decide +kernel
theorem dX9_count_1 : decode cX9_count 1 = .ok (.tableswitch 96 0 6 #[43, 51, 59, 67, 75, 83, 88], 43) := by decide +kernel
theorem dX9_count_44 : decode cX9_count 44 = .ok (.aload_n 0, 1) := by decide +kernel
theorem dX9_count_45 : decode cX9_count 45 = .ok (.getfield 19, 3) := by decide +kernel
theorem dX9_count_48 : decode cX9_count 48 = .ok (.invokevirtual 99, 3) := by decide +kernel
theorem dX9_count_51 : decode cX9_count 51 = .ok (.ireturn, 1) := by decide +kernel
theorem dX9_count_52 : decode cX9_count 52 = .ok (.aload_n 0, 1) := by decide +kernel
theorem dX9_count_53 : decode cX9_count 53 = .ok (.getfield 19, 3) := by decide +kernel
theorem dX9_count_56 : decode cX9_count 56 = .ok (.invokevirtual 119, 3) := by decide +kernel
theorem dX9_count_59 : decode cX9_count 59 = .ok (.ireturn, 1) := by decide +kernel
theorem dX9_count_60 : decode cX9_count 60 = .ok (.aload_n 0, 1) := by decide +kernel
theorem dX9_count_61 : decode cX9_count 61 = .ok (.getfield 26, 3) := by decide +kernel
theorem dX9_count_64 : decode cX9_count 64 = .ok (.invokevirtual 137, 3) := by decide +kernel
theorem dX9_count_67 : decode cX9_count 67 = .ok (.ireturn, 1) := by decide +kernel
theorem dX9_count_68 : decode cX9_count 68 = .ok (.aload_n 0, 1) := by decide +kernel
theorem dX9_count_69 : decode cX9_count 69 = .ok (.getfield 53, 3) := by decide +kernel
theorem dX9_count_72 : decode cX9_count 72 = .ok (.invokevirtual 184, 3) := by decide +kernel
theorem dX9_count_75 : decode cX9_count 75 = .ok (.ireturn, 1) := by decide +kernel
theorem dX9_count_76 : decode cX9_count 76 = .ok (.aload_n 0, 1) := by decide +kernel
theorem dX9_count_77 : decode cX9_count 77 = .ok (.getfield 39, 3) := by decide +kernel
theorem dX9_count_80 : decode cX9_count 80 = .ok (.invokevirtual 167, 3) := by decide +kernel
theorem dX9_count_83 : decode cX9_count 83 = .ok (.ireturn, 1) := by decide +kernel
theorem dX9_count_84 : decode cX9_count 84 = .ok (.aload_n 0, 1) := by decide +kernel
theorem dX9_count_85 : decode cX9_count 85 = .ok (.getfield 245, 3) := by decide +kernel
theorem dX9_count_88 : decode cX9_count 88 = .ok (.ireturn, 1) := by decide +kernel
theorem dX9_count_89 : decode cX9_count 89 = .ok (.aload_n 0, 1) := by decide +kernel
theorem dX9_count_90 : decode cX9_count 90 = .ok (.getfield 12, 3) := by decide +kernel
theorem dX9_count_93 : decode cX9_count 93 = .ok (.invokevirtual 92, 3) := by decide +kernel
theorem dX9_count_96 : decode cX9_count 96 = .ok (.ireturn, 1) := by decide +kernel
theorem dX9_count_97 : decode cX9_count 97 = .ok (.iconst (-1), 1) := by decide +kernel
theorem dX9_count_98 : decode cX9_count 98 = .ok (.ireturn, 1) := by decide +kernel
theorem dX9_isRule_0 : decode cX9_isRule 0 = .ok (.iload_n 1, 1) := by decide +kernel
theorem dX9_isRule_1 : decode cX9_isRule 1 = .ok (.ifCond .lt 18, 3) := by decide +kernel
theorem dX9_isRule_4 : decode cX9_isRule 4 = .ok (.iload_n 1, 1) := by decide +kernel
theorem dX9_isRule_5 : decode cX9_isRule 5 = .ok (.aload_n 0, 1) := by decide +kernel
theorem dX9_isRule_6 : decode cX9_isRule 6 = .ok (.getfield 19, 3) := by decide +kernel
theorem dX9_isRule_9 : decode cX9_isRule 9 = .ok (.invokevirtual 99, 3) := by decide +kernel
theorem dX9_isRule_12 : decode cX9_isRule 12 = .ok (.if_icmp .ge 7, 3) := by decide +kernel
theorem dX9_isRule_15 : decode cX9_isRule 15 = .ok (.iconst 1, 1) := by decide +kernel
theorem dX9_isRule_16 : decode cX9_isRule 16 = .ok (.goto 4, 3) := by decide +kernel
theorem dX9_isRule_19 : decode cX9_isRule 19 = .ok (.iconst 0, 1) := by decide +kernel
theorem dX9_isRule_20 : decode cX9_isRule 20 = .ok (.ireturn, 1) := by decide +kernel
theorem dX9_isPlaceOfLine_0 : decode cX9_isPlaceOfLine 0 = .ok (.iload_n 1, 1) := by decide +kernel
theorem dX9_isPlaceOfLine_1 : decode cX9_isPlaceOfLine 1 = .ok (.ifCond .lt 18, 3) := by decide +kernel
theorem dX9_isPlaceOfLine_4 : decode cX9_isPlaceOfLine 4 = .ok (.iload_n 1, 1) := by decide +kernel
theorem dX9_isPlaceOfLine_5 : decode cX9_isPlaceOfLine 5 = .ok (.aload_n 0, 1) := by decide +kernel
theorem dX9_isPlaceOfLine_6 : decode cX9_isPlaceOfLine 6 = .ok (.getfield 26, 3) := by decide +kernel
theorem dX9_isPlaceOfLine_9 : decode cX9_isPlaceOfLine 9 = .ok (.invokevirtual 137, 3) := by decide +kernel
theorem dX9_isPlaceOfLine_12 : decode cX9_isPlaceOfLine 12 = .ok (.if_icmp .gt 7, 3) := by decide +kernel
theorem dX9_isPlaceOfLine_15 : decode cX9_isPlaceOfLine 15 = .ok (.iconst 1, 1) := by decide +kernel
theorem dX9_isPlaceOfLine_16 : decode cX9_isPlaceOfLine 16 = .ok (.goto 4, 3) := by decide +kernel
theorem dX9_isPlaceOfLine_19 : decode cX9_isPlaceOfLine 19 = .ok (.iconst 0, 1) := by decide +kernel
theorem dX9_isPlaceOfLine_20 : decode cX9_isPlaceOfLine 20 = .ok (.ireturn, 1) := by decide +kernel
theorem dX9_isLetter_0 : decode cX9_isLetter 0 = .ok (.iload_n 0, 1) := by decide +kernel
theorem dX9_isLetter_1 : decode cX9_isLetter 1 = .ok (.ifCond .lt 13, 3) := by decide +kernel
theorem dX9_isLetter_4 : decode cX9_isLetter 4 = .ok (.iload_n 0, 1) := by decide +kernel
theorem dX9_isLetter_5 : decode cX9_isLetter 5 = .ok (.bipush 26, 2) := by decide +kernel
theorem dX9_isLetter_7 : decode cX9_isLetter 7 = .ok (.if_icmp .ge 7, 3) := by decide +kernel
theorem dX9_isLetter_10 : decode cX9_isLetter 10 = .ok (.iconst 1, 1) := by decide +kernel
theorem dX9_isLetter_11 : decode cX9_isLetter 11 = .ok (.goto 4, 3) := by decide +kernel
theorem dX9_isLetter_14 : decode cX9_isLetter 14 = .ok (.iconst 0, 1) := by decide +kernel
theorem dX9_isLetter_15 : decode cX9_isLetter 15 = .ok (.ireturn, 1) := by decide +kernel
theorem dX9_isClass_0 : decode cX9_isClass 0 = .ok (.iload_n 0, 1) := by decide +kernel
theorem dX9_isClass_1 : decode cX9_isClass 1 = .ok (.ifCond .lt 13, 3) := by decide +kernel
theorem dX9_isClass_4 : decode cX9_isClass 4 = .ok (.iload_n 0, 1) := by decide +kernel
theorem dX9_isClass_5 : decode cX9_isClass 5 = .ok (.bipush 6, 2) := by decide +kernel
theorem dX9_isClass_7 : decode cX9_isClass 7 = .ok (.if_icmp .ge 7, 3) := by decide +kernel
theorem dX9_isClass_10 : decode cX9_isClass 10 = .ok (.iconst 1, 1) := by decide +kernel
theorem dX9_isClass_11 : decode cX9_isClass 11 = .ok (.goto 4, 3) := by decide +kernel
theorem dX9_isClass_14 : decode cX9_isClass 14 = .ok (.iconst 0, 1) := by decide +kernel
theorem dX9_isClass_15 : decode cX9_isClass 15 = .ok (.ireturn, 1) := by decide +kernel
theorem dX9_draw_0 : decode cX9_draw 0 = .ok (.ldc2_w 256, 3) := by decide +kernel
theorem dX9_draw_3 : decode cX9_draw 3 = .ok (.iload_n 0, 1) := by decide +kernel
theorem dX9_draw_4 : decode cX9_draw 4 = .ok (.i2l, 1) := by decide +kernel
theorem dX9_draw_5 : decode cX9_draw 5 = .ok (.lmul, 1) := by decide +kernel
theorem dX9_draw_6 : decode cX9_draw 6 = .ok (.ldc2_w 258, 3) := by decide +kernel
theorem dX9_draw_9 : decode cX9_draw 9 = .ok (.iload_n 1, 1) := by decide +kernel
theorem dX9_draw_10 : decode cX9_draw 10 = .ok (.i2l, 1) := by decide +kernel
theorem dX9_draw_11 : decode cX9_draw 11 = .ok (.lmul, 1) := by decide +kernel
theorem dX9_draw_12 : decode cX9_draw 12 = .ok (.ladd, 1) := by decide +kernel
theorem dX9_draw_13 : decode cX9_draw 13 = .ok (.lconst 1, 1) := by decide +kernel
theorem dX9_draw_14 : decode cX9_draw 14 = .ok (.ladd, 1) := by decide +kernel
theorem dX9_draw_15 : decode cX9_draw 15 = .ok (.lstore_n 2, 1) := by decide +kernel
theorem dX9_draw_16 : decode cX9_draw 16 = .ok (.lload_n 2, 1) := by decide +kernel
theorem dX9_draw_17 : decode cX9_draw 17 = .ok (.lload_n 2, 1) := by decide +kernel
theorem dX9_draw_18 : decode cX9_draw 18 = .ok (.lmul, 1) := by decide +kernel
theorem dX9_draw_19 : decode cX9_draw 19 = .ok (.ldc2_w 260, 3) := by decide +kernel
theorem dX9_draw_22 : decode cX9_draw 22 = .ok (.lrem, 1) := by decide +kernel
theorem dX9_draw_23 : decode cX9_draw 23 = .ok (.l2i, 1) := by decide +kernel
theorem dX9_draw_24 : decode cX9_draw 24 = .ok (.ireturn, 1) := by decide +kernel
theorem dX9_keptAt_0 : decode cX9_keptAt 0 = .ok (.iload_n 1, 1) := by decide +kernel
theorem dX9_keptAt_1 : decode cX9_keptAt 1 = .ok (.ifCond .ne 10, 3) := by decide +kernel
theorem dX9_keptAt_4 : decode cX9_keptAt 4 = .ok (.aload_n 0, 1) := by decide +kernel
theorem dX9_keptAt_5 : decode cX9_keptAt 5 = .ok (.getfield 30, 3) := by decide +kernel
theorem dX9_keptAt_8 : decode cX9_keptAt 8 = .ok (.goto 7, 3) := by decide +kernel
theorem dX9_keptAt_11 : decode cX9_keptAt 11 = .ok (.aload_n 0, 1) := by decide +kernel
theorem dX9_keptAt_12 : decode cX9_keptAt 12 = .ok (.getfield 33, 3) := by decide +kernel
theorem dX9_keptAt_15 : decode cX9_keptAt 15 = .ok (.areturn, 1) := by decide +kernel
theorem dX9_layText_0 : decode cX9_layText 0 = .ok (.aload_n 0, 1) := by decide +kernel
theorem dX9_layText_1 : decode cX9_layText 1 = .ok (.getfield 19, 3) := by decide +kernel
theorem dX9_layText_4 : decode cX9_layText 4 = .ok (.invokevirtual 262, 3) := by decide +kernel
theorem dX9_layText_7 : decode cX9_layText 7 = .ok (.aload_n 0, 1) := by decide +kernel
theorem dX9_layText_8 : decode cX9_layText 8 = .ok (.getfield 26, 3) := by decide +kernel
theorem dX9_layText_11 : decode cX9_layText 11 = .ok (.invokevirtual 263, 3) := by decide +kernel
theorem dX9_layText_14 : decode cX9_layText 14 = .ok (.iconst 0, 1) := by decide +kernel
theorem dX9_layText_15 : decode cX9_layText 15 = .ok (.istore_n 1, 1) := by decide +kernel
theorem dX9_layText_16 : decode cX9_layText 16 = .ok (.iconst 0, 1) := by decide +kernel
theorem dX9_layText_17 : decode cX9_layText 17 = .ok (.istore_n 2, 1) := by decide +kernel
theorem dX9_layText_18 : decode cX9_layText 18 = .ok (.iload_n 2, 1) := by decide +kernel
theorem dX9_layText_19 : decode cX9_layText 19 = .ok (.sipush 200, 3) := by decide +kernel
theorem dX9_layText_22 : decode cX9_layText 22 = .ok (.if_icmp .ge 37, 3) := by decide +kernel
theorem dX9_layText_25 : decode cX9_layText 25 = .ok (.iload_n 1, 1) := by decide +kernel
theorem dX9_layText_26 : decode cX9_layText 26 = .ok (.aload_n 0, 1) := by decide +kernel
theorem dX9_layText_27 : decode cX9_layText 27 = .ok (.getfield 12, 3) := by decide +kernel
theorem dX9_layText_30 : decode cX9_layText 30 = .ok (.invokevirtual 92, 3) := by decide +kernel
theorem dX9_layText_33 : decode cX9_layText 33 = .ok (.if_icmp .ge 26, 3) := by decide +kernel
theorem dX9_layText_36 : decode cX9_layText 36 = .ok (.aload_n 0, 1) := by decide +kernel
theorem dX9_layText_37 : decode cX9_layText 37 = .ok (.getfield 12, 3) := by decide +kernel
theorem dX9_layText_40 : decode cX9_layText 40 = .ok (.iload_n 1, 1) := by decide +kernel
theorem dX9_layText_41 : decode cX9_layText 41 = .ok (.aload_n 0, 1) := by decide +kernel
theorem dX9_layText_42 : decode cX9_layText 42 = .ok (.getfield 19, 3) := by decide +kernel
theorem dX9_layText_45 : decode cX9_layText 45 = .ok (.aload_n 0, 1) := by decide +kernel
theorem dX9_layText_46 : decode cX9_layText 46 = .ok (.getfield 26, 3) := by decide +kernel
theorem dX9_layText_49 : decode cX9_layText 49 = .ok (.invokevirtual 264, 3) := by decide +kernel
theorem dX9_layText_52 : decode cX9_layText 52 = .ok (.istore_n 1, 1) := by decide +kernel
theorem dX9_layText_53 : decode cX9_layText 53 = .ok (.iinc 2 1, 3) := by decide +kernel
theorem dX9_layText_56 : decode cX9_layText 56 = .ok (.goto (-38), 3) := by decide +kernel
theorem dX9_layText_59 : decode cX9_layText 59 = .ok (.aload_n 0, 1) := by decide +kernel
theorem dX9_layText_60 : decode cX9_layText 60 = .ok (.getfield 39, 3) := by decide +kernel
theorem dX9_layText_63 : decode cX9_layText 63 = .ok (.invokevirtual 253, 3) := by decide +kernel
theorem dX9_layText_66 : decode cX9_layText 66 = .ok (.aload_n 0, 1) := by decide +kernel
theorem dX9_layText_67 : decode cX9_layText 67 = .ok (.iconst 0, 1) := by decide +kernel
theorem dX9_layText_68 : decode cX9_layText 68 = .ok (.putfield 245, 3) := by decide +kernel
theorem dX9_layText_71 : decode cX9_layText 71 = .ok (.aload_n 0, 1) := by decide +kernel
theorem dX9_layText_72 : decode cX9_layText 72 = .ok (.invokevirtual 164, 3) := by decide +kernel
theorem dX9_layText_75 : decode cX9_layText 75 = .ok (.return_, 1) := by decide +kernel
theorem dX9_rulesHaveChanged_0 : decode cX9_rulesHaveChanged 0 = .ok (.aload_n 0, 1) := by decide +kernel
theorem dX9_rulesHaveChanged_1 : decode cX9_rulesHaveChanged 1 = .ok (.getfield 46, 3) := by decide +kernel
theorem dX9_rulesHaveChanged_4 : decode cX9_rulesHaveChanged 4 = .ok (.aload_n 0, 1) := by decide +kernel
theorem dX9_rulesHaveChanged_5 : decode cX9_rulesHaveChanged 5 = .ok (.getfield 19, 3) := by decide +kernel
theorem dX9_rulesHaveChanged_8 : decode cX9_rulesHaveChanged 8 = .ok (.aload_n 0, 1) := by decide +kernel
theorem dX9_rulesHaveChanged_9 : decode cX9_rulesHaveChanged 9 = .ok (.getfield 26, 3) := by decide +kernel
theorem dX9_rulesHaveChanged_12 : decode cX9_rulesHaveChanged 12 = .ok (.invokevirtual 268, 3) := by decide +kernel
theorem dX9_rulesHaveChanged_15 : decode cX9_rulesHaveChanged 15 = .ok (.aload_n 0, 1) := by decide +kernel
theorem dX9_rulesHaveChanged_16 : decode cX9_rulesHaveChanged 16 = .ok (.getfield 60, 3) := by decide +kernel
theorem dX9_rulesHaveChanged_19 : decode cX9_rulesHaveChanged 19 = .ok (.invokevirtual 272, 3) := by decide +kernel
theorem dX9_rulesHaveChanged_22 : decode cX9_rulesHaveChanged 22 = .ok (.aload_n 0, 1) := by decide +kernel
theorem dX9_rulesHaveChanged_23 : decode cX9_rulesHaveChanged 23 = .ok (.invokevirtual 149, 3) := by decide +kernel
theorem dX9_rulesHaveChanged_26 : decode cX9_rulesHaveChanged 26 = .ok (.return_, 1) := by decide +kernel
theorem dX9_lineHasChanged_0 : decode cX9_lineHasChanged 0 = .ok (.aload_n 0, 1) := by decide +kernel
theorem dX9_lineHasChanged_1 : decode cX9_lineHasChanged 1 = .ok (.getfield 53, 3) := by decide +kernel
theorem dX9_lineHasChanged_4 : decode cX9_lineHasChanged 4 = .ok (.aload_n 0, 1) := by decide +kernel
theorem dX9_lineHasChanged_5 : decode cX9_lineHasChanged 5 = .ok (.getfield 26, 3) := by decide +kernel
theorem dX9_lineHasChanged_8 : decode cX9_lineHasChanged 8 = .ok (.aload_n 0, 1) := by decide +kernel
theorem dX9_lineHasChanged_9 : decode cX9_lineHasChanged 9 = .ok (.getfield 46, 3) := by decide +kernel
theorem dX9_lineHasChanged_12 : decode cX9_lineHasChanged 12 = .ok (.iconst 0, 1) := by decide +kernel
theorem dX9_lineHasChanged_13 : decode cX9_lineHasChanged 13 = .ok (.invokevirtual 221, 3) := by decide +kernel
theorem dX9_lineHasChanged_16 : decode cX9_lineHasChanged 16 = .ok (.return_, 1) := by decide +kernel
theorem dX9_backFrom_0 : decode cX9_backFrom 0 = .ok (.iload_n 1, 1) := by decide +kernel
theorem dX9_backFrom_1 : decode cX9_backFrom 1 = .ok (.istore_n 2, 1) := by decide +kernel
theorem dX9_backFrom_2 : decode cX9_backFrom 2 = .ok (.iload_n 2, 1) := by decide +kernel
theorem dX9_backFrom_3 : decode cX9_backFrom 3 = .ok (.iconst 2, 1) := by decide +kernel
theorem dX9_backFrom_4 : decode cX9_backFrom 4 = .ok (.if_icmp .lt 41, 3) := by decide +kernel
theorem dX9_backFrom_7 : decode cX9_backFrom 7 = .ok (.aload_n 0, 1) := by decide +kernel
theorem dX9_backFrom_8 : decode cX9_backFrom 8 = .ok (.getfield 60, 3) := by decide +kernel
theorem dX9_backFrom_11 : decode cX9_backFrom 11 = .ok (.aload_n 0, 1) := by decide +kernel
theorem dX9_backFrom_12 : decode cX9_backFrom 12 = .ok (.getfield 26, 3) := by decide +kernel
theorem dX9_backFrom_15 : decode cX9_backFrom 15 = .ok (.iload_n 2, 1) := by decide +kernel
theorem dX9_backFrom_16 : decode cX9_backFrom 16 = .ok (.iconst 2, 1) := by decide +kernel
theorem dX9_backFrom_17 : decode cX9_backFrom 17 = .ok (.isub, 1) := by decide +kernel
theorem dX9_backFrom_18 : decode cX9_backFrom 18 = .ok (.invokevirtual 273, 3) := by decide +kernel
theorem dX9_backFrom_21 : decode cX9_backFrom 21 = .ok (.aload_n 0, 1) := by decide +kernel
theorem dX9_backFrom_22 : decode cX9_backFrom 22 = .ok (.getfield 26, 3) := by decide +kernel
theorem dX9_backFrom_25 : decode cX9_backFrom 25 = .ok (.iload_n 2, 1) := by decide +kernel
theorem dX9_backFrom_26 : decode cX9_backFrom 26 = .ok (.iconst 1, 1) := by decide +kernel
theorem dX9_backFrom_27 : decode cX9_backFrom 27 = .ok (.isub, 1) := by decide +kernel
theorem dX9_backFrom_28 : decode cX9_backFrom 28 = .ok (.invokevirtual 273, 3) := by decide +kernel
theorem dX9_backFrom_31 : decode cX9_backFrom 31 = .ok (.invokevirtual 215, 3) := by decide +kernel
theorem dX9_backFrom_34 : decode cX9_backFrom 34 = .ok (.ifCond .eq 5, 3) := by decide +kernel
theorem dX9_backFrom_37 : decode cX9_backFrom 37 = .ok (.iload_n 2, 1) := by decide +kernel
theorem dX9_backFrom_38 : decode cX9_backFrom 38 = .ok (.ireturn, 1) := by decide +kernel
theorem dX9_backFrom_39 : decode cX9_backFrom 39 = .ok (.iinc 2 (-1), 3) := by decide +kernel
theorem dX9_backFrom_42 : decode cX9_backFrom 42 = .ok (.goto (-40), 3) := by decide +kernel
theorem dX9_backFrom_45 : decode cX9_backFrom 45 = .ok (.iconst 0, 1) := by decide +kernel
theorem dX9_backFrom_46 : decode cX9_backFrom 46 = .ok (.ireturn, 1) := by decide +kernel
theorem dX9_farthestBack_0 : decode cX9_farthestBack 0 = .ok (.iconst 0, 1) := by decide +kernel
theorem dX9_farthestBack_1 : decode cX9_farthestBack 1 = .ok (.istore_n 1, 1) := by decide +kernel
theorem dX9_farthestBack_2 : decode cX9_farthestBack 2 = .ok (.iconst 0, 1) := by decide +kernel
theorem dX9_farthestBack_3 : decode cX9_farthestBack 3 = .ok (.istore_n 2, 1) := by decide +kernel
theorem dX9_farthestBack_4 : decode cX9_farthestBack 4 = .ok (.iload_n 2, 1) := by decide +kernel
theorem dX9_farthestBack_5 : decode cX9_farthestBack 5 = .ok (.aload_n 0, 1) := by decide +kernel
theorem dX9_farthestBack_6 : decode cX9_farthestBack 6 = .ok (.getfield 26, 3) := by decide +kernel
theorem dX9_farthestBack_9 : decode cX9_farthestBack 9 = .ok (.invokevirtual 137, 3) := by decide +kernel
theorem dX9_farthestBack_12 : decode cX9_farthestBack 12 = .ok (.if_icmp .gt 21, 3) := by decide +kernel
theorem dX9_farthestBack_15 : decode cX9_farthestBack 15 = .ok (.iload_n 1, 1) := by decide +kernel
theorem dX9_farthestBack_16 : decode cX9_farthestBack 16 = .ok (.iload_n 2, 1) := by decide +kernel
theorem dX9_farthestBack_17 : decode cX9_farthestBack 17 = .ok (.aload_n 0, 1) := by decide +kernel
theorem dX9_farthestBack_18 : decode cX9_farthestBack 18 = .ok (.iload_n 2, 1) := by decide +kernel
theorem dX9_farthestBack_19 : decode cX9_farthestBack 19 = .ok (.invokevirtual 218, 3) := by decide +kernel
theorem dX9_farthestBack_22 : decode cX9_farthestBack 22 = .ok (.isub, 1) := by decide +kernel
theorem dX9_farthestBack_23 : decode cX9_farthestBack 23 = .ok (.invokestatic 276, 3) := by decide +kernel
theorem dX9_farthestBack_26 : decode cX9_farthestBack 26 = .ok (.istore_n 1, 1) := by decide +kernel
theorem dX9_farthestBack_27 : decode cX9_farthestBack 27 = .ok (.iinc 2 1, 3) := by decide +kernel
theorem dX9_farthestBack_30 : decode cX9_farthestBack 30 = .ok (.goto (-26), 3) := by decide +kernel
theorem dX9_farthestBack_33 : decode cX9_farthestBack 33 = .ok (.iload_n 1, 1) := by decide +kernel
theorem dX9_farthestBack_34 : decode cX9_farthestBack 34 = .ok (.ireturn, 1) := by decide +kernel

theorem dX4_init_0 : decode cX4_init 0 = .ok (.aload_n 0, 1) := by decide +kernel
theorem dX4_init_1 : decode cX4_init 1 = .ok (.invokespecial 3, 3) := by decide +kernel
theorem dX4_init_4 : decode cX4_init 4 = .ok (.aload_n 0, 1) := by decide +kernel
theorem dX4_init_5 : decode cX4_init 5 = .ok (.iconst 4, 1) := by decide +kernel
theorem dX4_init_6 : decode cX4_init 6 = .ok (.newarray .int, 2) := by decide +kernel
theorem dX4_init_8 : decode cX4_init 8 = .ok (.putfield 9, 3) := by decide +kernel
theorem dX4_init_11 : decode cX4_init 11 = .ok (.aload_n 0, 1) := by decide +kernel
theorem dX4_init_12 : decode cX4_init 12 = .ok (.iconst 4, 1) := by decide +kernel
theorem dX4_init_13 : decode cX4_init 13 = .ok (.newarray .int, 2) := by decide +kernel
theorem dX4_init_15 : decode cX4_init 15 = .ok (.putfield 15, 3) := by decide +kernel
theorem dX4_init_18 : decode cX4_init 18 = .ok (.aload_n 0, 1) := by decide +kernel
theorem dX4_init_19 : decode cX4_init 19 = .ok (.iconst 4, 1) := by decide +kernel
theorem dX4_init_20 : decode cX4_init 20 = .ok (.newarray .int, 2) := by decide +kernel
theorem dX4_init_22 : decode cX4_init 22 = .ok (.putfield 18, 3) := by decide +kernel
theorem dX4_init_25 : decode cX4_init 25 = .ok (.aload_n 0, 1) := by decide +kernel
theorem dX4_init_26 : decode cX4_init 26 = .ok (.bipush 10, 2) := by decide +kernel
theorem dX4_init_28 : decode cX4_init 28 = .ok (.newarray .int, 2) := by decide +kernel
theorem dX4_init_30 : decode cX4_init 30 = .ok (.putfield 21, 3) := by decide +kernel
theorem dX4_init_33 : decode cX4_init 33 = .ok (.aload_n 0, 1) := by decide +kernel
theorem dX4_init_34 : decode cX4_init 34 = .ok (.bipush 10, 2) := by decide +kernel
theorem dX4_init_36 : decode cX4_init 36 = .ok (.newarray .int, 2) := by decide +kernel
theorem dX4_init_38 : decode cX4_init 38 = .ok (.putfield 24, 3) := by decide +kernel
theorem dX4_init_41 : decode cX4_init 41 = .ok (.aload_n 0, 1) := by decide +kernel
theorem dX4_init_42 : decode cX4_init 42 = .ok (.new 27, 3) := by decide +kernel
theorem dX4_init_45 : decode cX4_init 45 = .ok (.dup, 1) := by decide +kernel
theorem dX4_init_46 : decode cX4_init 46 = .ok (.invokespecial 29, 3) := by decide +kernel
theorem dX4_init_49 : decode cX4_init 49 = .ok (.putfield 30, 3) := by decide +kernel
theorem dX4_init_52 : decode cX4_init 52 = .ok (.return_, 1) := by decide +kernel
theorem dX4_number_0 : decode cX4_number 0 = .ok (.aload_n 0, 1) := by decide +kernel
theorem dX4_number_1 : decode cX4_number 1 = .ok (.getfield 34, 3) := by decide +kernel
theorem dX4_number_4 : decode cX4_number 4 = .ok (.ireturn, 1) := by decide +kernel
theorem dX4_placeNumber_0 : decode cX4_placeNumber 0 = .ok (.aload_n 0, 1) := by decide +kernel
theorem dX4_placeNumber_1 : decode cX4_placeNumber 1 = .ok (.getfield 38, 3) := by decide +kernel
theorem dX4_placeNumber_4 : decode cX4_placeNumber 4 = .ok (.ireturn, 1) := by decide +kernel
theorem dX4_placesOf_0 : decode cX4_placesOf 0 = .ok (.aload_n 0, 1) := by decide +kernel
theorem dX4_placesOf_1 : decode cX4_placesOf 1 = .ok (.iload_n 1, 1) := by decide +kernel
theorem dX4_placesOf_2 : decode cX4_placesOf 2 = .ok (.invokevirtual 41, 3) := by decide +kernel
theorem dX4_placesOf_5 : decode cX4_placesOf 5 = .ok (.ifCond .eq 12, 3) := by decide +kernel
theorem dX4_placesOf_8 : decode cX4_placesOf 8 = .ok (.aload_n 0, 1) := by decide +kernel
theorem dX4_placesOf_9 : decode cX4_placesOf 9 = .ok (.getfield 9, 3) := by decide +kernel
theorem dX4_placesOf_12 : decode cX4_placesOf 12 = .ok (.iload_n 1, 1) := by decide +kernel
theorem dX4_placesOf_13 : decode cX4_placesOf 13 = .ok (.iaload, 1) := by decide +kernel
theorem dX4_placesOf_14 : decode cX4_placesOf 14 = .ok (.goto 4, 3) := by decide +kernel
theorem dX4_placesOf_17 : decode cX4_placesOf 17 = .ok (.iconst 0, 1) := by decide +kernel
theorem dX4_placesOf_18 : decode cX4_placesOf 18 = .ok (.ireturn, 1) := by decide +kernel
theorem dX4_firstOf_0 : decode cX4_firstOf 0 = .ok (.aload_n 0, 1) := by decide +kernel
theorem dX4_firstOf_1 : decode cX4_firstOf 1 = .ok (.iload_n 1, 1) := by decide +kernel
theorem dX4_firstOf_2 : decode cX4_firstOf 2 = .ok (.invokevirtual 41, 3) := by decide +kernel
theorem dX4_firstOf_5 : decode cX4_firstOf 5 = .ok (.ifCond .eq 12, 3) := by decide +kernel
theorem dX4_firstOf_8 : decode cX4_firstOf 8 = .ok (.aload_n 0, 1) := by decide +kernel
theorem dX4_firstOf_9 : decode cX4_firstOf 9 = .ok (.getfield 15, 3) := by decide +kernel
theorem dX4_firstOf_12 : decode cX4_firstOf 12 = .ok (.iload_n 1, 1) := by decide +kernel
theorem dX4_firstOf_13 : decode cX4_firstOf 13 = .ok (.iaload, 1) := by decide +kernel
theorem dX4_firstOf_14 : decode cX4_firstOf 14 = .ok (.goto 4, 3) := by decide +kernel
theorem dX4_firstOf_17 : decode cX4_firstOf 17 = .ok (.iconst 0, 1) := by decide +kernel
theorem dX4_firstOf_18 : decode cX4_firstOf 18 = .ok (.ireturn, 1) := by decide +kernel
theorem dX4_wholeOf_0 : decode cX4_wholeOf 0 = .ok (.aload_n 0, 1) := by decide +kernel
theorem dX4_wholeOf_1 : decode cX4_wholeOf 1 = .ok (.iload_n 1, 1) := by decide +kernel
theorem dX4_wholeOf_2 : decode cX4_wholeOf 2 = .ok (.invokevirtual 41, 3) := by decide +kernel
theorem dX4_wholeOf_5 : decode cX4_wholeOf 5 = .ok (.ifCond .eq 12, 3) := by decide +kernel
theorem dX4_wholeOf_8 : decode cX4_wholeOf 8 = .ok (.aload_n 0, 1) := by decide +kernel
theorem dX4_wholeOf_9 : decode cX4_wholeOf 9 = .ok (.getfield 18, 3) := by decide +kernel
theorem dX4_wholeOf_12 : decode cX4_wholeOf 12 = .ok (.iload_n 1, 1) := by decide +kernel
theorem dX4_wholeOf_13 : decode cX4_wholeOf 13 = .ok (.iaload, 1) := by decide +kernel
theorem dX4_wholeOf_14 : decode cX4_wholeOf 14 = .ok (.goto 4, 3) := by decide +kernel
theorem dX4_wholeOf_17 : decode cX4_wholeOf 17 = .ok (.iconst 0, 1) := by decide +kernel
theorem dX4_wholeOf_18 : decode cX4_wholeOf 18 = .ok (.ireturn, 1) := by decide +kernel
theorem dX4_takenAt_0 : decode cX4_takenAt 0 = .ok (.aload_n 0, 1) := by decide +kernel
theorem dX4_takenAt_1 : decode cX4_takenAt 1 = .ok (.iload_n 1, 1) := by decide +kernel
theorem dX4_takenAt_2 : decode cX4_takenAt 2 = .ok (.invokevirtual 45, 3) := by decide +kernel
theorem dX4_takenAt_5 : decode cX4_takenAt 5 = .ok (.ifCond .eq 12, 3) := by decide +kernel
theorem dX4_takenAt_8 : decode cX4_takenAt 8 = .ok (.aload_n 0, 1) := by decide +kernel
theorem dX4_takenAt_9 : decode cX4_takenAt 9 = .ok (.getfield 21, 3) := by decide +kernel
theorem dX4_takenAt_12 : decode cX4_takenAt 12 = .ok (.iload_n 1, 1) := by decide +kernel
theorem dX4_takenAt_13 : decode cX4_takenAt 13 = .ok (.iaload, 1) := by decide +kernel
theorem dX4_takenAt_14 : decode cX4_takenAt 14 = .ok (.goto 5, 3) := by decide +kernel
theorem dX4_takenAt_17 : decode cX4_takenAt 17 = .ok (.bipush 6, 2) := by decide +kernel
theorem dX4_takenAt_19 : decode cX4_takenAt 19 = .ok (.ireturn, 1) := by decide +kernel
theorem dX4_behind_0 : decode cX4_behind 0 = .ok (.aload_n 0, 1) := by decide +kernel
theorem dX4_behind_1 : decode cX4_behind 1 = .ok (.iload_n 1, 1) := by decide +kernel
theorem dX4_behind_2 : decode cX4_behind 2 = .ok (.invokevirtual 45, 3) := by decide +kernel
theorem dX4_behind_5 : decode cX4_behind 5 = .ok (.ifCond .eq 12, 3) := by decide +kernel
theorem dX4_behind_8 : decode cX4_behind 8 = .ok (.aload_n 0, 1) := by decide +kernel
theorem dX4_behind_9 : decode cX4_behind 9 = .ok (.getfield 24, 3) := by decide +kernel
theorem dX4_behind_12 : decode cX4_behind 12 = .ok (.iload_n 1, 1) := by decide +kernel
theorem dX4_behind_13 : decode cX4_behind 13 = .ok (.iaload, 1) := by decide +kernel
theorem dX4_behind_14 : decode cX4_behind 14 = .ok (.goto 4, 3) := by decide +kernel
theorem dX4_behind_17 : decode cX4_behind 17 = .ok (.iconst 0, 1) := by decide +kernel
theorem dX4_behind_18 : decode cX4_behind 18 = .ok (.ireturn, 1) := by decide +kernel
theorem dX4_has_0 : decode cX4_has 0 = .ok (.iload_n 1, 1) := by decide +kernel
theorem dX4_has_1 : decode cX4_has 1 = .ok (.ifCond .lt 15, 3) := by decide +kernel
theorem dX4_has_4 : decode cX4_has 4 = .ok (.iload_n 1, 1) := by decide +kernel
theorem dX4_has_5 : decode cX4_has 5 = .ok (.aload_n 0, 1) := by decide +kernel
theorem dX4_has_6 : decode cX4_has 6 = .ok (.getfield 34, 3) := by decide +kernel
theorem dX4_has_9 : decode cX4_has 9 = .ok (.if_icmp .ge 7, 3) := by decide +kernel
theorem dX4_has_12 : decode cX4_has 12 = .ok (.iconst 1, 1) := by decide +kernel
theorem dX4_has_13 : decode cX4_has 13 = .ok (.goto 4, 3) := by decide +kernel
theorem dX4_has_16 : decode cX4_has 16 = .ok (.iconst 0, 1) := by decide +kernel
theorem dX4_has_17 : decode cX4_has 17 = .ok (.ireturn, 1) := by decide +kernel
theorem dX4_hasPlace_0 : decode cX4_hasPlace 0 = .ok (.iload_n 1, 1) := by decide +kernel
theorem dX4_hasPlace_1 : decode cX4_hasPlace 1 = .ok (.ifCond .lt 15, 3) := by decide +kernel
theorem dX4_hasPlace_4 : decode cX4_hasPlace 4 = .ok (.iload_n 1, 1) := by decide +kernel
theorem dX4_hasPlace_5 : decode cX4_hasPlace 5 = .ok (.aload_n 0, 1) := by decide +kernel
theorem dX4_hasPlace_6 : decode cX4_hasPlace 6 = .ok (.getfield 38, 3) := by decide +kernel
theorem dX4_hasPlace_9 : decode cX4_hasPlace 9 = .ok (.if_icmp .ge 7, 3) := by decide +kernel
theorem dX4_hasPlace_12 : decode cX4_hasPlace 12 = .ok (.iconst 1, 1) := by decide +kernel
theorem dX4_hasPlace_13 : decode cX4_hasPlace 13 = .ok (.goto 4, 3) := by decide +kernel
theorem dX4_hasPlace_16 : decode cX4_hasPlace 16 = .ok (.iconst 0, 1) := by decide +kernel
theorem dX4_hasPlace_17 : decode cX4_hasPlace 17 = .ok (.ireturn, 1) := by decide +kernel
theorem dX4_clear_0 : decode cX4_clear 0 = .ok (.aload_n 0, 1) := by decide +kernel
theorem dX4_clear_1 : decode cX4_clear 1 = .ok (.iconst 0, 1) := by decide +kernel
theorem dX4_clear_2 : decode cX4_clear 2 = .ok (.putfield 34, 3) := by decide +kernel
theorem dX4_clear_5 : decode cX4_clear 5 = .ok (.aload_n 0, 1) := by decide +kernel
theorem dX4_clear_6 : decode cX4_clear 6 = .ok (.iconst 0, 1) := by decide +kernel
theorem dX4_clear_7 : decode cX4_clear 7 = .ok (.putfield 38, 3) := by decide +kernel
theorem dX4_clear_10 : decode cX4_clear 10 = .ok (.return_, 1) := by decide +kernel
theorem dX4_add_0 : decode cX4_add 0 = .ok (.aload_n 1, 1) := by decide +kernel
theorem dX4_add_1 : decode cX4_add 1 = .ok (.iload_n 2, 1) := by decide +kernel
theorem dX4_add_2 : decode cX4_add 2 = .ok (.iload_n 3, 1) := by decide +kernel
theorem dX4_add_3 : decode cX4_add 3 = .ok (.invokevirtual 48, 3) := by decide +kernel
theorem dX4_add_6 : decode cX4_add 6 = .ok (.istore 4, 2) := by decide +kernel
theorem dX4_add_8 : decode cX4_add 8 = .ok (.aload_n 0, 1) := by decide +kernel
theorem dX4_add_9 : decode cX4_add 9 = .ok (.getfield 34, 3) := by decide +kernel
theorem dX4_add_12 : decode cX4_add 12 = .ok (.iconst 4, 1) := by decide +kernel
theorem dX4_add_13 : decode cX4_add 13 = .ok (.if_icmp .ge 15, 3) := by decide +kernel
theorem dX4_add_16 : decode cX4_add 16 = .ok (.aload_n 0, 1) := by decide +kernel
theorem dX4_add_17 : decode cX4_add 17 = .ok (.getfield 38, 3) := by decide +kernel
theorem dX4_add_20 : decode cX4_add 20 = .ok (.iload 4, 2) := by decide +kernel
theorem dX4_add_22 : decode cX4_add 22 = .ok (.iadd, 1) := by decide +kernel
theorem dX4_add_23 : decode cX4_add 23 = .ok (.bipush 10, 2) := by decide +kernel
theorem dX4_add_25 : decode cX4_add 25 = .ok (.if_icmp .le 4, 3) := by decide +kernel
theorem dX4_add_28 : decode cX4_add 28 = .ok (.return_, 1) := by decide +kernel
theorem dX4_add_29 : decode cX4_add 29 = .ok (.aload_n 0, 1) := by decide +kernel
theorem dX4_add_30 : decode cX4_add 30 = .ok (.getfield 30, 3) := by decide +kernel
theorem dX4_add_33 : decode cX4_add 33 = .ok (.invokevirtual 54, 3) := by decide +kernel
theorem dX4_add_36 : decode cX4_add 36 = .ok (.aload_n 0, 1) := by decide +kernel
theorem dX4_add_37 : decode cX4_add 37 = .ok (.getfield 38, 3) := by decide +kernel
theorem dX4_add_40 : decode cX4_add 40 = .ok (.iload 4, 2) := by decide +kernel
theorem dX4_add_42 : decode cX4_add 42 = .ok (.iadd, 1) := by decide +kernel
theorem dX4_add_43 : decode cX4_add 43 = .ok (.istore 5, 2) := by decide +kernel
theorem dX4_add_45 : decode cX4_add 45 = .ok (.iload_n 3, 1) := by decide +kernel
theorem dX4_add_46 : decode cX4_add 46 = .ok (.iconst 1, 1) := by decide +kernel
theorem dX4_add_47 : decode cX4_add 47 = .ok (.isub, 1) := by decide +kernel
theorem dX4_add_48 : decode cX4_add 48 = .ok (.istore 6, 2) := by decide +kernel
theorem dX4_add_50 : decode cX4_add 50 = .ok (.iload 6, 2) := by decide +kernel
theorem dX4_add_52 : decode cX4_add 52 = .ok (.iload_n 2, 1) := by decide +kernel
theorem dX4_add_53 : decode cX4_add 53 = .ok (.if_icmp .lt 70, 3) := by decide +kernel
theorem dX4_add_56 : decode cX4_add 56 = .ok (.aload_n 1, 1) := by decide +kernel
theorem dX4_add_57 : decode cX4_add 57 = .ok (.iload 6, 2) := by decide +kernel
theorem dX4_add_59 : decode cX4_add 59 = .ok (.invokevirtual 57, 3) := by decide +kernel
theorem dX4_add_62 : decode cX4_add 62 = .ok (.istore 7, 2) := by decide +kernel
theorem dX4_add_64 : decode cX4_add 64 = .ok (.iload 7, 2) := by decide +kernel
theorem dX4_add_66 : decode cX4_add 66 = .ok (.bipush 46, 2) := by decide +kernel
theorem dX4_add_68 : decode cX4_add 68 = .ok (.if_icmp .eq 14, 3) := by decide +kernel
theorem dX4_add_71 : decode cX4_add 71 = .ok (.iload 7, 2) := by decide +kernel
theorem dX4_add_73 : decode cX4_add 73 = .ok (.bipush 48, 2) := by decide +kernel
theorem dX4_add_75 : decode cX4_add 75 = .ok (.isub, 1) := by decide +kernel
theorem dX4_add_76 : decode cX4_add 76 = .ok (.invokestatic 61, 3) := by decide +kernel
theorem dX4_add_79 : decode cX4_add 79 = .ok (.ifCond .eq 32, 3) := by decide +kernel
theorem dX4_add_82 : decode cX4_add 82 = .ok (.iinc 5 (-1), 3) := by decide +kernel
theorem dX4_add_85 : decode cX4_add 85 = .ok (.aload_n 0, 1) := by decide +kernel
theorem dX4_add_86 : decode cX4_add 86 = .ok (.iload 5, 2) := by decide +kernel
theorem dX4_add_88 : decode cX4_add 88 = .ok (.iload 7, 2) := by decide +kernel
theorem dX4_add_90 : decode cX4_add 90 = .ok (.bipush 46, 2) := by decide +kernel
theorem dX4_add_92 : decode cX4_add 92 = .ok (.if_icmp .ne 8, 3) := by decide +kernel
theorem dX4_add_95 : decode cX4_add 95 = .ok (.bipush 6, 2) := by decide +kernel
theorem dX4_add_97 : decode cX4_add 97 = .ok (.goto 8, 3) := by decide +kernel
theorem dX4_add_100 : decode cX4_add 100 = .ok (.iload 7, 2) := by decide +kernel
theorem dX4_add_102 : decode cX4_add 102 = .ok (.bipush 48, 2) := by decide +kernel
theorem dX4_add_104 : decode cX4_add 104 = .ok (.isub, 1) := by decide +kernel
theorem dX4_add_105 : decode cX4_add 105 = .ok (.invokevirtual 64, 3) := by decide +kernel
theorem dX4_add_108 : decode cX4_add 108 = .ok (.goto 9, 3) := by decide +kernel
theorem dX4_add_111 : decode cX4_add 111 = .ok (.aload_n 0, 1) := by decide +kernel
theorem dX4_add_112 : decode cX4_add 112 = .ok (.iload 7, 2) := by decide +kernel
theorem dX4_add_114 : decode cX4_add 114 = .ok (.invokevirtual 68, 3) := by decide +kernel
theorem dX4_add_117 : decode cX4_add 117 = .ok (.iinc 6 (-1), 3) := by decide +kernel
theorem dX4_add_120 : decode cX4_add 120 = .ok (.goto (-70), 3) := by decide +kernel
theorem dX4_add_123 : decode cX4_add 123 = .ok (.aload_n 0, 1) := by decide +kernel
theorem dX4_add_124 : decode cX4_add 124 = .ok (.getfield 9, 3) := by decide +kernel
theorem dX4_add_127 : decode cX4_add 127 = .ok (.aload_n 0, 1) := by decide +kernel
theorem dX4_add_128 : decode cX4_add 128 = .ok (.getfield 34, 3) := by decide +kernel
theorem dX4_add_131 : decode cX4_add 131 = .ok (.iconst 1, 1) := by decide +kernel
theorem dX4_add_132 : decode cX4_add 132 = .ok (.aload_n 0, 1) := by decide +kernel
theorem dX4_add_133 : decode cX4_add 133 = .ok (.getfield 38, 3) := by decide +kernel
theorem dX4_add_136 : decode cX4_add 136 = .ok (.iload 4, 2) := by decide +kernel
theorem dX4_add_138 : decode cX4_add 138 = .ok (.iadd, 1) := by decide +kernel
theorem dX4_add_139 : decode cX4_add 139 = .ok (.ishl, 1) := by decide +kernel
theorem dX4_add_140 : decode cX4_add 140 = .ok (.iconst 1, 1) := by decide +kernel
theorem dX4_add_141 : decode cX4_add 141 = .ok (.aload_n 0, 1) := by decide +kernel
theorem dX4_add_142 : decode cX4_add 142 = .ok (.getfield 38, 3) := by decide +kernel
theorem dX4_add_145 : decode cX4_add 145 = .ok (.ishl, 1) := by decide +kernel
theorem dX4_add_146 : decode cX4_add 146 = .ok (.isub, 1) := by decide +kernel
theorem dX4_add_147 : decode cX4_add 147 = .ok (.iastore, 1) := by decide +kernel
theorem dX4_add_148 : decode cX4_add 148 = .ok (.aload_n 0, 1) := by decide +kernel
theorem dX4_add_149 : decode cX4_add 149 = .ok (.getfield 15, 3) := by decide +kernel
theorem dX4_add_152 : decode cX4_add 152 = .ok (.aload_n 0, 1) := by decide +kernel
theorem dX4_add_153 : decode cX4_add 153 = .ok (.getfield 34, 3) := by decide +kernel
theorem dX4_add_156 : decode cX4_add 156 = .ok (.aload_n 0, 1) := by decide +kernel
theorem dX4_add_157 : decode cX4_add 157 = .ok (.getfield 30, 3) := by decide +kernel
theorem dX4_add_160 : decode cX4_add 160 = .ok (.invokevirtual 72, 3) := by decide +kernel
theorem dX4_add_163 : decode cX4_add 163 = .ok (.iastore, 1) := by decide +kernel
theorem dX4_add_164 : decode cX4_add 164 = .ok (.aload_n 0, 1) := by decide +kernel
theorem dX4_add_165 : decode cX4_add 165 = .ok (.getfield 18, 3) := by decide +kernel
theorem dX4_add_168 : decode cX4_add 168 = .ok (.aload_n 0, 1) := by decide +kernel
theorem dX4_add_169 : decode cX4_add 169 = .ok (.getfield 34, 3) := by decide +kernel
theorem dX4_add_172 : decode cX4_add 172 = .ok (.aload_n 0, 1) := by decide +kernel
theorem dX4_add_173 : decode cX4_add 173 = .ok (.getfield 30, 3) := by decide +kernel
theorem dX4_add_176 : decode cX4_add 176 = .ok (.invokevirtual 76, 3) := by decide +kernel
theorem dX4_add_179 : decode cX4_add 179 = .ok (.iastore, 1) := by decide +kernel
theorem dX4_add_180 : decode cX4_add 180 = .ok (.aload_n 0, 1) := by decide +kernel
theorem dX4_add_181 : decode cX4_add 181 = .ok (.dup, 1) := by decide +kernel
theorem dX4_add_182 : decode cX4_add 182 = .ok (.getfield 34, 3) := by decide +kernel
theorem dX4_add_185 : decode cX4_add 185 = .ok (.iconst 1, 1) := by decide +kernel
theorem dX4_add_186 : decode cX4_add 186 = .ok (.iadd, 1) := by decide +kernel
theorem dX4_add_187 : decode cX4_add 187 = .ok (.putfield 34, 3) := by decide +kernel
theorem dX4_add_190 : decode cX4_add 190 = .ok (.aload_n 0, 1) := by decide +kernel
theorem dX4_add_191 : decode cX4_add 191 = .ok (.dup, 1) := by decide +kernel
theorem dX4_add_192 : decode cX4_add 192 = .ok (.getfield 38, 3) := by decide +kernel
theorem dX4_add_195 : decode cX4_add 195 = .ok (.iload 4, 2) := by decide +kernel
theorem dX4_add_197 : decode cX4_add 197 = .ok (.iadd, 1) := by decide +kernel
theorem dX4_add_198 : decode cX4_add 198 = .ok (.putfield 38, 3) := by decide +kernel
theorem dX4_add_201 : decode cX4_add 201 = .ok (.return_, 1) := by decide +kernel
theorem dX4_addPlace_0 : decode cX4_addPlace 0 = .ok (.iload_n 1, 1) := by decide +kernel
theorem dX4_addPlace_1 : decode cX4_addPlace 1 = .ok (.ifCond .lt 37, 3) := by decide +kernel
theorem dX4_addPlace_4 : decode cX4_addPlace 4 = .ok (.iload_n 1, 1) := by decide +kernel
theorem dX4_addPlace_5 : decode cX4_addPlace 5 = .ok (.bipush 10, 2) := by decide +kernel
theorem dX4_addPlace_7 : decode cX4_addPlace 7 = .ok (.if_icmp .ge 31, 3) := by decide +kernel
theorem dX4_addPlace_10 : decode cX4_addPlace 10 = .ok (.aload_n 0, 1) := by decide +kernel
theorem dX4_addPlace_11 : decode cX4_addPlace 11 = .ok (.getfield 21, 3) := by decide +kernel
theorem dX4_addPlace_14 : decode cX4_addPlace 14 = .ok (.iload_n 1, 1) := by decide +kernel
theorem dX4_addPlace_15 : decode cX4_addPlace 15 = .ok (.iload_n 2, 1) := by decide +kernel
theorem dX4_addPlace_16 : decode cX4_addPlace 16 = .ok (.iastore, 1) := by decide +kernel
theorem dX4_addPlace_17 : decode cX4_addPlace 17 = .ok (.aload_n 0, 1) := by decide +kernel
theorem dX4_addPlace_18 : decode cX4_addPlace 18 = .ok (.getfield 24, 3) := by decide +kernel
theorem dX4_addPlace_21 : decode cX4_addPlace 21 = .ok (.iload_n 1, 1) := by decide +kernel
theorem dX4_addPlace_22 : decode cX4_addPlace 22 = .ok (.iconst 0, 1) := by decide +kernel
theorem dX4_addPlace_23 : decode cX4_addPlace 23 = .ok (.iastore, 1) := by decide +kernel
theorem dX4_addPlace_24 : decode cX4_addPlace 24 = .ok (.aload_n 0, 1) := by decide +kernel
theorem dX4_addPlace_25 : decode cX4_addPlace 25 = .ok (.getfield 30, 3) := by decide +kernel
theorem dX4_addPlace_28 : decode cX4_addPlace 28 = .ok (.iconst 1, 1) := by decide +kernel
theorem dX4_addPlace_29 : decode cX4_addPlace 29 = .ok (.iload_n 1, 1) := by decide +kernel
theorem dX4_addPlace_30 : decode cX4_addPlace 30 = .ok (.ishl, 1) := by decide +kernel
theorem dX4_addPlace_31 : decode cX4_addPlace 31 = .ok (.iconst 1, 1) := by decide +kernel
theorem dX4_addPlace_32 : decode cX4_addPlace 32 = .ok (.iload_n 1, 1) := by decide +kernel
theorem dX4_addPlace_33 : decode cX4_addPlace 33 = .ok (.ishl, 1) := by decide +kernel
theorem dX4_addPlace_34 : decode cX4_addPlace 34 = .ok (.iconst 0, 1) := by decide +kernel
theorem dX4_addPlace_35 : decode cX4_addPlace 35 = .ok (.invokevirtual 79, 3) := by decide +kernel
theorem dX4_addPlace_38 : decode cX4_addPlace 38 = .ok (.return_, 1) := by decide +kernel
theorem dX4_join_0 : decode cX4_join 0 = .ok (.aload_n 0, 1) := by decide +kernel
theorem dX4_join_1 : decode cX4_join 1 = .ok (.getfield 30, 3) := by decide +kernel
theorem dX4_join_4 : decode cX4_join 4 = .ok (.invokevirtual 72, 3) := by decide +kernel
theorem dX4_join_7 : decode cX4_join 7 = .ok (.istore_n 2, 1) := by decide +kernel
theorem dX4_join_8 : decode cX4_join 8 = .ok (.aload_n 0, 1) := by decide +kernel
theorem dX4_join_9 : decode cX4_join 9 = .ok (.getfield 30, 3) := by decide +kernel
theorem dX4_join_12 : decode cX4_join 12 = .ok (.invokevirtual 76, 3) := by decide +kernel
theorem dX4_join_15 : decode cX4_join 15 = .ok (.istore_n 3, 1) := by decide +kernel
theorem dX4_join_16 : decode cX4_join 16 = .ok (.aload_n 0, 1) := by decide +kernel
theorem dX4_join_17 : decode cX4_join 17 = .ok (.getfield 30, 3) := by decide +kernel
theorem dX4_join_20 : decode cX4_join 20 = .ok (.invokevirtual 83, 3) := by decide +kernel
theorem dX4_join_23 : decode cX4_join 23 = .ok (.istore 4, 2) := by decide +kernel
theorem dX4_join_25 : decode cX4_join 25 = .ok (.aload_n 0, 1) := by decide +kernel
theorem dX4_join_26 : decode cX4_join 26 = .ok (.getfield 30, 3) := by decide +kernel
theorem dX4_join_29 : decode cX4_join 29 = .ok (.invokevirtual 87, 3) := by decide +kernel
theorem dX4_join_32 : decode cX4_join 32 = .ok (.iload_n 1, 1) := by decide +kernel
theorem dX4_join_33 : decode cX4_join 33 = .ok (.lookupswitch 70 #[(38, 35), (63, 57), (124, 46)], 35) := by decide +kernel
theorem dX4_join_68 : decode cX4_join 68 = .ok (.aload_n 0, 1) := by decide +kernel
theorem dX4_join_69 : decode cX4_join 69 = .ok (.iload_n 2, 1) := by decide +kernel
theorem dX4_join_70 : decode cX4_join 70 = .ok (.iload_n 3, 1) := by decide +kernel
theorem dX4_join_71 : decode cX4_join 71 = .ok (.iload 4, 2) := by decide +kernel
theorem dX4_join_73 : decode cX4_join 73 = .ok (.invokevirtual 90, 3) := by decide +kernel
theorem dX4_join_76 : decode cX4_join 76 = .ok (.goto 58, 3) := by decide +kernel
theorem dX4_join_79 : decode cX4_join 79 = .ok (.aload_n 0, 1) := by decide +kernel
theorem dX4_join_80 : decode cX4_join 80 = .ok (.iload_n 2, 1) := by decide +kernel
theorem dX4_join_81 : decode cX4_join 81 = .ok (.iload_n 3, 1) := by decide +kernel
theorem dX4_join_82 : decode cX4_join 82 = .ok (.iload 4, 2) := by decide +kernel
theorem dX4_join_84 : decode cX4_join 84 = .ok (.invokevirtual 93, 3) := by decide +kernel
theorem dX4_join_87 : decode cX4_join 87 = .ok (.goto 47, 3) := by decide +kernel
theorem dX4_join_90 : decode cX4_join 90 = .ok (.aload_n 0, 1) := by decide +kernel
theorem dX4_join_91 : decode cX4_join 91 = .ok (.getfield 30, 3) := by decide +kernel
theorem dX4_join_94 : decode cX4_join 94 = .ok (.iload_n 2, 1) := by decide +kernel
theorem dX4_join_95 : decode cX4_join 95 = .ok (.iload_n 3, 1) := by decide +kernel
theorem dX4_join_96 : decode cX4_join 96 = .ok (.iconst 1, 1) := by decide +kernel
theorem dX4_join_97 : decode cX4_join 97 = .ok (.invokevirtual 79, 3) := by decide +kernel
theorem dX4_join_100 : decode cX4_join 100 = .ok (.goto 34, 3) := by decide +kernel
theorem dX4_join_103 : decode cX4_join 103 = .ok (.aload_n 0, 1) := by decide +kernel
theorem dX4_join_104 : decode cX4_join 104 = .ok (.iload_n 3, 1) := by decide +kernel
theorem dX4_join_105 : decode cX4_join 105 = .ok (.iload_n 2, 1) := by decide +kernel
theorem dX4_join_106 : decode cX4_join 106 = .ok (.invokevirtual 96, 3) := by decide +kernel
theorem dX4_join_109 : decode cX4_join 109 = .ok (.aload_n 0, 1) := by decide +kernel
theorem dX4_join_110 : decode cX4_join 110 = .ok (.getfield 30, 3) := by decide +kernel
theorem dX4_join_113 : decode cX4_join 113 = .ok (.iload_n 2, 1) := by decide +kernel
theorem dX4_join_114 : decode cX4_join 114 = .ok (.iload_n 3, 1) := by decide +kernel
theorem dX4_join_115 : decode cX4_join 115 = .ok (.iload 4, 2) := by decide +kernel
theorem dX4_join_117 : decode cX4_join 117 = .ok (.ifCond .ne 9, 3) := by decide +kernel
theorem dX4_join_120 : decode cX4_join 120 = .ok (.iload_n 1, 1) := by decide +kernel
theorem dX4_join_121 : decode cX4_join 121 = .ok (.bipush 42, 2) := by decide +kernel
theorem dX4_join_123 : decode cX4_join 123 = .ok (.if_icmp .ne 7, 3) := by decide +kernel
theorem dX4_join_126 : decode cX4_join 126 = .ok (.iconst 1, 1) := by decide +kernel
theorem dX4_join_127 : decode cX4_join 127 = .ok (.goto 4, 3) := by decide +kernel
theorem dX4_join_130 : decode cX4_join 130 = .ok (.iconst 0, 1) := by decide +kernel
theorem dX4_join_131 : decode cX4_join 131 = .ok (.invokevirtual 79, 3) := by decide +kernel
theorem dX4_join_134 : decode cX4_join 134 = .ok (.return_, 1) := by decide +kernel
theorem dX4_joinNext_0 : decode cX4_joinNext 0 = .ok (.aload_n 0, 1) := by decide +kernel
theorem dX4_joinNext_1 : decode cX4_joinNext 1 = .ok (.getfield 30, 3) := by decide +kernel
theorem dX4_joinNext_4 : decode cX4_joinNext 4 = .ok (.invokevirtual 72, 3) := by decide +kernel
theorem dX4_joinNext_7 : decode cX4_joinNext 7 = .ok (.istore 4, 2) := by decide +kernel
theorem dX4_joinNext_9 : decode cX4_joinNext 9 = .ok (.aload_n 0, 1) := by decide +kernel
theorem dX4_joinNext_10 : decode cX4_joinNext 10 = .ok (.getfield 30, 3) := by decide +kernel
theorem dX4_joinNext_13 : decode cX4_joinNext 13 = .ok (.invokevirtual 76, 3) := by decide +kernel
theorem dX4_joinNext_16 : decode cX4_joinNext 16 = .ok (.istore 5, 2) := by decide +kernel
theorem dX4_joinNext_18 : decode cX4_joinNext 18 = .ok (.aload_n 0, 1) := by decide +kernel
theorem dX4_joinNext_19 : decode cX4_joinNext 19 = .ok (.getfield 30, 3) := by decide +kernel
theorem dX4_joinNext_22 : decode cX4_joinNext 22 = .ok (.invokevirtual 83, 3) := by decide +kernel
theorem dX4_joinNext_25 : decode cX4_joinNext 25 = .ok (.istore 6, 2) := by decide +kernel
theorem dX4_joinNext_27 : decode cX4_joinNext 27 = .ok (.aload_n 0, 1) := by decide +kernel
theorem dX4_joinNext_28 : decode cX4_joinNext 28 = .ok (.getfield 30, 3) := by decide +kernel
theorem dX4_joinNext_31 : decode cX4_joinNext 31 = .ok (.invokevirtual 87, 3) := by decide +kernel
theorem dX4_joinNext_34 : decode cX4_joinNext 34 = .ok (.aload_n 0, 1) := by decide +kernel
theorem dX4_joinNext_35 : decode cX4_joinNext 35 = .ok (.iload_n 2, 1) := by decide +kernel
theorem dX4_joinNext_36 : decode cX4_joinNext 36 = .ok (.iload 4, 2) := by decide +kernel
theorem dX4_joinNext_38 : decode cX4_joinNext 38 = .ok (.invokevirtual 96, 3) := by decide +kernel
theorem dX4_joinNext_41 : decode cX4_joinNext 41 = .ok (.aload_n 0, 1) := by decide +kernel
theorem dX4_joinNext_42 : decode cX4_joinNext 42 = .ok (.getfield 30, 3) := by decide +kernel
theorem dX4_joinNext_45 : decode cX4_joinNext 45 = .ok (.iload_n 3, 1) := by decide +kernel
theorem dX4_joinNext_46 : decode cX4_joinNext 46 = .ok (.ifCond .eq 10, 3) := by decide +kernel
theorem dX4_joinNext_49 : decode cX4_joinNext 49 = .ok (.iload_n 1, 1) := by decide +kernel
theorem dX4_joinNext_50 : decode cX4_joinNext 50 = .ok (.iload 4, 2) := by decide +kernel
theorem dX4_joinNext_52 : decode cX4_joinNext 52 = .ok (.ior, 1) := by decide +kernel
theorem dX4_joinNext_53 : decode cX4_joinNext 53 = .ok (.goto 4, 3) := by decide +kernel
theorem dX4_joinNext_56 : decode cX4_joinNext 56 = .ok (.iload_n 1, 1) := by decide +kernel
theorem dX4_joinNext_57 : decode cX4_joinNext 57 = .ok (.iload 6, 2) := by decide +kernel
theorem dX4_joinNext_59 : decode cX4_joinNext 59 = .ok (.ifCond .eq 10, 3) := by decide +kernel
theorem dX4_joinNext_62 : decode cX4_joinNext 62 = .ok (.iload_n 2, 1) := by decide +kernel
theorem dX4_joinNext_63 : decode cX4_joinNext 63 = .ok (.iload 5, 2) := by decide +kernel
theorem dX4_joinNext_65 : decode cX4_joinNext 65 = .ok (.ior, 1) := by decide +kernel
theorem dX4_joinNext_66 : decode cX4_joinNext 66 = .ok (.goto 5, 3) := by decide +kernel
theorem dX4_joinNext_69 : decode cX4_joinNext 69 = .ok (.iload 5, 2) := by decide +kernel
theorem dX4_joinNext_71 : decode cX4_joinNext 71 = .ok (.iload_n 3, 1) := by decide +kernel
theorem dX4_joinNext_72 : decode cX4_joinNext 72 = .ok (.ifCond .eq 12, 3) := by decide +kernel
theorem dX4_joinNext_75 : decode cX4_joinNext 75 = .ok (.iload 6, 2) := by decide +kernel
theorem dX4_joinNext_77 : decode cX4_joinNext 77 = .ok (.ifCond .eq 7, 3) := by decide +kernel
theorem dX4_joinNext_80 : decode cX4_joinNext 80 = .ok (.iconst 1, 1) := by decide +kernel
theorem dX4_joinNext_81 : decode cX4_joinNext 81 = .ok (.goto 4, 3) := by decide +kernel
theorem dX4_joinNext_84 : decode cX4_joinNext 84 = .ok (.iconst 0, 1) := by decide +kernel
theorem dX4_joinNext_85 : decode cX4_joinNext 85 = .ok (.invokevirtual 79, 3) := by decide +kernel
theorem dX4_joinNext_88 : decode cX4_joinNext 88 = .ok (.return_, 1) := by decide +kernel
theorem dX4_joinOther_0 : decode cX4_joinOther 0 = .ok (.aload_n 0, 1) := by decide +kernel
theorem dX4_joinOther_1 : decode cX4_joinOther 1 = .ok (.getfield 30, 3) := by decide +kernel
theorem dX4_joinOther_4 : decode cX4_joinOther 4 = .ok (.invokevirtual 72, 3) := by decide +kernel
theorem dX4_joinOther_7 : decode cX4_joinOther 7 = .ok (.istore 4, 2) := by decide +kernel
theorem dX4_joinOther_9 : decode cX4_joinOther 9 = .ok (.aload_n 0, 1) := by decide +kernel
theorem dX4_joinOther_10 : decode cX4_joinOther 10 = .ok (.getfield 30, 3) := by decide +kernel
theorem dX4_joinOther_13 : decode cX4_joinOther 13 = .ok (.invokevirtual 76, 3) := by decide +kernel
theorem dX4_joinOther_16 : decode cX4_joinOther 16 = .ok (.istore 5, 2) := by decide +kernel
theorem dX4_joinOther_18 : decode cX4_joinOther 18 = .ok (.aload_n 0, 1) := by decide +kernel
theorem dX4_joinOther_19 : decode cX4_joinOther 19 = .ok (.getfield 30, 3) := by decide +kernel
theorem dX4_joinOther_22 : decode cX4_joinOther 22 = .ok (.invokevirtual 83, 3) := by decide +kernel
theorem dX4_joinOther_25 : decode cX4_joinOther 25 = .ok (.istore 6, 2) := by decide +kernel
theorem dX4_joinOther_27 : decode cX4_joinOther 27 = .ok (.aload_n 0, 1) := by decide +kernel
theorem dX4_joinOther_28 : decode cX4_joinOther 28 = .ok (.getfield 30, 3) := by decide +kernel
theorem dX4_joinOther_31 : decode cX4_joinOther 31 = .ok (.invokevirtual 87, 3) := by decide +kernel
theorem dX4_joinOther_34 : decode cX4_joinOther 34 = .ok (.aload_n 0, 1) := by decide +kernel
theorem dX4_joinOther_35 : decode cX4_joinOther 35 = .ok (.getfield 30, 3) := by decide +kernel
theorem dX4_joinOther_38 : decode cX4_joinOther 38 = .ok (.iload_n 1, 1) := by decide +kernel
theorem dX4_joinOther_39 : decode cX4_joinOther 39 = .ok (.iload 4, 2) := by decide +kernel
theorem dX4_joinOther_41 : decode cX4_joinOther 41 = .ok (.ior, 1) := by decide +kernel
theorem dX4_joinOther_42 : decode cX4_joinOther 42 = .ok (.iload_n 2, 1) := by decide +kernel
theorem dX4_joinOther_43 : decode cX4_joinOther 43 = .ok (.iload 5, 2) := by decide +kernel
theorem dX4_joinOther_45 : decode cX4_joinOther 45 = .ok (.ior, 1) := by decide +kernel
theorem dX4_joinOther_46 : decode cX4_joinOther 46 = .ok (.iload_n 3, 1) := by decide +kernel
theorem dX4_joinOther_47 : decode cX4_joinOther 47 = .ok (.ifCond .ne 8, 3) := by decide +kernel
theorem dX4_joinOther_50 : decode cX4_joinOther 50 = .ok (.iload 6, 2) := by decide +kernel
theorem dX4_joinOther_52 : decode cX4_joinOther 52 = .ok (.ifCond .eq 7, 3) := by decide +kernel
theorem dX4_joinOther_55 : decode cX4_joinOther 55 = .ok (.iconst 1, 1) := by decide +kernel
theorem dX4_joinOther_56 : decode cX4_joinOther 56 = .ok (.goto 4, 3) := by decide +kernel
theorem dX4_joinOther_59 : decode cX4_joinOther 59 = .ok (.iconst 0, 1) := by decide +kernel
theorem dX4_joinOther_60 : decode cX4_joinOther 60 = .ok (.invokevirtual 79, 3) := by decide +kernel
theorem dX4_joinOther_63 : decode cX4_joinOther 63 = .ok (.return_, 1) := by decide +kernel
theorem dX4_goOn_0 : decode cX4_goOn 0 = .ok (.iconst 0, 1) := by decide +kernel
theorem dX4_goOn_1 : decode cX4_goOn 1 = .ok (.istore_n 3, 1) := by decide +kernel
theorem dX4_goOn_2 : decode cX4_goOn 2 = .ok (.iload_n 3, 1) := by decide +kernel
theorem dX4_goOn_3 : decode cX4_goOn 3 = .ok (.bipush 10, 2) := by decide +kernel
theorem dX4_goOn_5 : decode cX4_goOn 5 = .ok (.if_icmp .ge 27, 3) := by decide +kernel
theorem dX4_goOn_8 : decode cX4_goOn 8 = .ok (.iload_n 1, 1) := by decide +kernel
theorem dX4_goOn_9 : decode cX4_goOn 9 = .ok (.iload_n 3, 1) := by decide +kernel
theorem dX4_goOn_10 : decode cX4_goOn 10 = .ok (.ishr, 1) := by decide +kernel
theorem dX4_goOn_11 : decode cX4_goOn 11 = .ok (.iconst 1, 1) := by decide +kernel
theorem dX4_goOn_12 : decode cX4_goOn 12 = .ok (.iand, 1) := by decide +kernel
theorem dX4_goOn_13 : decode cX4_goOn 13 = .ok (.ifCond .eq 13, 3) := by decide +kernel
theorem dX4_goOn_16 : decode cX4_goOn 16 = .ok (.aload_n 0, 1) := by decide +kernel
theorem dX4_goOn_17 : decode cX4_goOn 17 = .ok (.getfield 24, 3) := by decide +kernel
theorem dX4_goOn_20 : decode cX4_goOn 20 = .ok (.iload_n 3, 1) := by decide +kernel
theorem dX4_goOn_21 : decode cX4_goOn 21 = .ok (.dup2, 1) := by decide +kernel
theorem dX4_goOn_22 : decode cX4_goOn 22 = .ok (.iaload, 1) := by decide +kernel
theorem dX4_goOn_23 : decode cX4_goOn 23 = .ok (.iload_n 2, 1) := by decide +kernel
theorem dX4_goOn_24 : decode cX4_goOn 24 = .ok (.ior, 1) := by decide +kernel
theorem dX4_goOn_25 : decode cX4_goOn 25 = .ok (.iastore, 1) := by decide +kernel
theorem dX4_goOn_26 : decode cX4_goOn 26 = .ok (.iinc 3 1, 3) := by decide +kernel
theorem dX4_goOn_29 : decode cX4_goOn 29 = .ok (.goto (-27), 3) := by decide +kernel
theorem dX4_goOn_32 : decode cX4_goOn 32 = .ok (.return_, 1) := by decide +kernel

theorem dX10_idle_111 : decode cX10_idle 111 = .ok (.iconst 0, 1) := by decide +kernel
theorem dX10_idle_112 : decode cX10_idle 112 = .ok (.if_icmp .ne 7, 3) := by decide +kernel
theorem dX10_idle_115 : decode cX10_idle 115 = .ok (.iconst 1, 1) := by decide +kernel
theorem dX10_idle_116 : decode cX10_idle 116 = .ok (.goto 4, 3) := by decide +kernel
theorem dX10_idle_119 : decode cX10_idle 119 = .ok (.iconst 0, 1) := by decide +kernel
theorem dX10_idle_120 : decode cX10_idle 120 = .ok (.istore_n 3, 1) := by decide +kernel
theorem dX10_idle_121 : decode cX10_idle 121 = .ok (.iinc 4 1, 3) := by decide +kernel
theorem dX10_idle_124 : decode cX10_idle 124 = .ok (.goto (-51), 3) := by decide +kernel
theorem dX10_idle_127 : decode cX10_idle 127 = .ok (.iload_n 1, 1) := by decide +kernel
theorem dX10_idle_128 : decode cX10_idle 128 = .ok (.iload_n 3, 1) := by decide +kernel
theorem dX10_idle_129 : decode cX10_idle 129 = .ok (.ifCond .eq 9, 3) := by decide +kernel
theorem dX10_idle_132 : decode cX10_idle 132 = .ok (.iconst 1, 1) := by decide +kernel
theorem dX10_idle_133 : decode cX10_idle 133 = .ok (.iload_n 2, 1) := by decide +kernel
theorem dX10_idle_134 : decode cX10_idle 134 = .ok (.ishl, 1) := by decide +kernel
theorem dX10_idle_135 : decode cX10_idle 135 = .ok (.goto 4, 3) := by decide +kernel
theorem dX10_idle_138 : decode cX10_idle 138 = .ok (.iconst 0, 1) := by decide +kernel
theorem dX10_idle_139 : decode cX10_idle 139 = .ok (.ior, 1) := by decide +kernel
theorem dX10_idle_140 : decode cX10_idle 140 = .ok (.istore_n 1, 1) := by decide +kernel
theorem dX10_idle_141 : decode cX10_idle 141 = .ok (.iinc 2 1, 3) := by decide +kernel
theorem dX10_idle_144 : decode cX10_idle 144 = .ok (.goto (-96), 3) := by decide +kernel
theorem dX10_idle_147 : decode cX10_idle 147 = .ok (.aload_n 0, 1) := by decide +kernel
theorem dX10_idle_148 : decode cX10_idle 148 = .ok (.iconst 0, 1) := by decide +kernel
theorem dX10_idle_149 : decode cX10_idle 149 = .ok (.putfield 230, 3) := by decide +kernel
theorem dX10_idle_152 : decode cX10_idle 152 = .ok (.iload_n 1, 1) := by decide +kernel
theorem dX10_idle_153 : decode cX10_idle 153 = .ok (.ireturn, 1) := by decide +kernel
theorem dX10_least_0 : decode cX10_least 0 = .ok (.aload_n 0, 1) := by decide +kernel
theorem dX10_least_1 : decode cX10_least 1 = .ok (.iload_n 1, 1) := by decide +kernel
theorem dX10_least_2 : decode cX10_least 2 = .ok (.invokevirtual 202, 3) := by decide +kernel
theorem dX10_least_5 : decode cX10_least 5 = .ok (.ifCond .ne 5, 3) := by decide +kernel
theorem dX10_least_8 : decode cX10_least 8 = .ok (.iconst (-1), 1) := by decide +kernel
theorem dX10_least_9 : decode cX10_least 9 = .ok (.ireturn, 1) := by decide +kernel
theorem dX10_least_10 : decode cX10_least 10 = .ok (.iconst 0, 1) := by decide +kernel
theorem dX10_least_11 : decode cX10_least 11 = .ok (.istore_n 2, 1) := by decide +kernel
theorem dX10_least_12 : decode cX10_least 12 = .ok (.iload_n 2, 1) := by decide +kernel
theorem dX10_least_13 : decode cX10_least 13 = .ok (.sipush 1024, 3) := by decide +kernel
theorem dX10_least_16 : decode cX10_least 16 = .ok (.if_icmp .ge 16, 3) := by decide +kernel
theorem dX10_least_19 : decode cX10_least 19 = .ok (.aload_n 0, 1) := by decide +kernel
theorem dX10_least_20 : decode cX10_least 20 = .ok (.getfield 66, 3) := by decide +kernel
theorem dX10_least_23 : decode cX10_least 23 = .ok (.iload_n 2, 1) := by decide +kernel
theorem dX10_least_24 : decode cX10_least 24 = .ok (.iconst 0, 1) := by decide +kernel
theorem dX10_least_25 : decode cX10_least 25 = .ok (.iastore, 1) := by decide +kernel
theorem dX10_least_26 : decode cX10_least 26 = .ok (.iinc 2 1, 3) := by decide +kernel
theorem dX10_least_29 : decode cX10_least 29 = .ok (.goto (-17), 3) := by decide +kernel
theorem dX10_least_32 : decode cX10_least 32 = .ok (.iconst 0, 1) := by decide +kernel
theorem dX10_least_33 : decode cX10_least 33 = .ok (.istore_n 2, 1) := by decide +kernel
theorem dX10_least_34 : decode cX10_least 34 = .ok (.iload_n 2, 1) := by decide +kernel
theorem dX10_least_35 : decode cX10_least 35 = .ok (.bipush 6, 2) := by decide +kernel
theorem dX10_least_37 : decode cX10_least 37 = .ok (.if_icmp .ge 20, 3) := by decide +kernel
theorem dX10_least_40 : decode cX10_least 40 = .ok (.aload_n 0, 1) := by decide +kernel
theorem dX10_least_41 : decode cX10_least 41 = .ok (.getfield 66, 3) := by decide +kernel
theorem dX10_least_44 : decode cX10_least 44 = .ok (.aload_n 0, 1) := by decide +kernel
theorem dX10_least_45 : decode cX10_least 45 = .ok (.iload_n 2, 1) := by decide +kernel
theorem dX10_least_46 : decode cX10_least 46 = .ok (.invokevirtual 239, 3) := by decide +kernel
theorem dX10_least_49 : decode cX10_least 49 = .ok (.iconst 1, 1) := by decide +kernel
theorem dX10_least_50 : decode cX10_least 50 = .ok (.iastore, 1) := by decide +kernel
theorem dX10_least_51 : decode cX10_least 51 = .ok (.iinc 2 1, 3) := by decide +kernel
theorem dX10_least_54 : decode cX10_least 54 = .ok (.goto (-20), 3) := by decide +kernel
theorem dX10_least_57 : decode cX10_least 57 = .ok (.aload_n 0, 1) := by decide +kernel
theorem dX10_least_58 : decode cX10_least 58 = .ok (.getfield 66, 3) := by decide +kernel
theorem dX10_least_61 : decode cX10_least 61 = .ok (.iconst 0, 1) := by decide +kernel
theorem dX10_least_62 : decode cX10_least 62 = .ok (.iconst 0, 1) := by decide +kernel
theorem dX10_least_63 : decode cX10_least 63 = .ok (.iastore, 1) := by decide +kernel
theorem dX10_least_64 : decode cX10_least 64 = .ok (.iconst 1, 1) := by decide +kernel
theorem dX10_least_65 : decode cX10_least 65 = .ok (.istore_n 2, 1) := by decide +kernel
theorem dX10_least_66 : decode cX10_least 66 = .ok (.iload_n 2, 1) := by decide +kernel
theorem dX10_least_67 : decode cX10_least 67 = .ok (.bipush 9, 2) := by decide +kernel
theorem dX10_least_69 : decode cX10_least 69 = .ok (.if_icmp .ge 164, 3) := by decide +kernel
theorem dX10_least_72 : decode cX10_least 72 = .ok (.iconst 0, 1) := by decide +kernel
theorem dX10_least_73 : decode cX10_least 73 = .ok (.istore_n 3, 1) := by decide +kernel
theorem dX10_least_74 : decode cX10_least 74 = .ok (.iconst 1, 1) := by decide +kernel
theorem dX10_least_75 : decode cX10_least 75 = .ok (.istore 4, 2) := by decide +kernel
theorem dX10_least_77 : decode cX10_least 77 = .ok (.iload 4, 2) := by decide +kernel
theorem dX10_least_79 : decode cX10_least 79 = .ok (.iconst 1, 1) := by decide +kernel
theorem dX10_least_80 : decode cX10_least 80 = .ok (.aload_n 0, 1) := by decide +kernel
theorem dX10_least_81 : decode cX10_least 81 = .ok (.getfield 121, 3) := by decide +kernel
theorem dX10_least_84 : decode cX10_least 84 = .ok (.ishl, 1) := by decide +kernel
theorem dX10_least_85 : decode cX10_least 85 = .ok (.if_icmp .ge 44, 3) := by decide +kernel
theorem dX10_least_88 : decode cX10_least 88 = .ok (.iload_n 3, 1) := by decide +kernel
theorem dX10_least_89 : decode cX10_least 89 = .ok (.ifCond .ne 28, 3) := by decide +kernel
theorem dX10_least_92 : decode cX10_least 92 = .ok (.aload_n 0, 1) := by decide +kernel
theorem dX10_least_93 : decode cX10_least 93 = .ok (.getfield 66, 3) := by decide +kernel
theorem dX10_least_96 : decode cX10_least 96 = .ok (.iload 4, 2) := by decide +kernel
theorem dX10_least_98 : decode cX10_least 98 = .ok (.iaload, 1) := by decide +kernel
theorem dX10_least_99 : decode cX10_least 99 = .ok (.iload_n 2, 1) := by decide +kernel
theorem dX10_least_100 : decode cX10_least 100 = .ok (.if_icmp .ne 21, 3) := by decide +kernel
theorem dX10_least_103 : decode cX10_least 103 = .ok (.iload 4, 2) := by decide +kernel
theorem dX10_least_105 : decode cX10_least 105 = .ok (.aload_n 0, 1) := by decide +kernel
theorem dX10_least_106 : decode cX10_least 106 = .ok (.getfield 7, 3) := by decide +kernel
theorem dX10_least_109 : decode cX10_least 109 = .ok (.iconst 4, 1) := by decide +kernel
theorem dX10_least_110 : decode cX10_least 110 = .ok (.iload_n 1, 1) := by decide +kernel
theorem dX10_least_111 : decode cX10_least 111 = .ok (.iadd, 1) := by decide +kernel
theorem dX10_least_112 : decode cX10_least 112 = .ok (.iaload, 1) := by decide +kernel
theorem dX10_least_113 : decode cX10_least 113 = .ok (.iand, 1) := by decide +kernel
theorem dX10_least_114 : decode cX10_least 114 = .ok (.ifCond .eq 7, 3) := by decide +kernel
theorem dX10_least_117 : decode cX10_least 117 = .ok (.iconst 1, 1) := by decide +kernel
theorem dX10_least_118 : decode cX10_least 118 = .ok (.goto 4, 3) := by decide +kernel
theorem dX10_least_121 : decode cX10_least 121 = .ok (.iconst 0, 1) := by decide +kernel
theorem dX10_least_122 : decode cX10_least 122 = .ok (.istore_n 3, 1) := by decide +kernel
theorem dX10_least_123 : decode cX10_least 123 = .ok (.iinc 4 1, 3) := by decide +kernel
theorem dX10_least_126 : decode cX10_least 126 = .ok (.goto (-49), 3) := by decide +kernel
theorem dX10_least_129 : decode cX10_least 129 = .ok (.iload_n 3, 1) := by decide +kernel
theorem dX10_least_130 : decode cX10_least 130 = .ok (.ifCond .eq 5, 3) := by decide +kernel
theorem dX10_least_133 : decode cX10_least 133 = .ok (.iload_n 2, 1) := by decide +kernel
theorem dX10_least_134 : decode cX10_least 134 = .ok (.ireturn, 1) := by decide +kernel
theorem dX10_least_135 : decode cX10_least 135 = .ok (.iconst 1, 1) := by decide +kernel
theorem dX10_least_136 : decode cX10_least 136 = .ok (.istore 4, 2) := by decide +kernel
theorem dX10_least_138 : decode cX10_least 138 = .ok (.iload 4, 2) := by decide +kernel
theorem dX10_least_140 : decode cX10_least 140 = .ok (.iconst 1, 1) := by decide +kernel
theorem dX10_least_141 : decode cX10_least 141 = .ok (.aload_n 0, 1) := by decide +kernel
theorem dX10_least_142 : decode cX10_least 142 = .ok (.getfield 121, 3) := by decide +kernel
theorem dX10_least_145 : decode cX10_least 145 = .ok (.ishl, 1) := by decide +kernel
theorem dX10_least_146 : decode cX10_least 146 = .ok (.if_icmp .ge 81, 3) := by decide +kernel
theorem dX10_least_149 : decode cX10_least 149 = .ok (.iconst 0, 1) := by decide +kernel
theorem dX10_least_150 : decode cX10_least 150 = .ok (.istore 5, 2) := by decide +kernel
theorem dX10_least_152 : decode cX10_least 152 = .ok (.iload 5, 2) := by decide +kernel
theorem dX10_least_154 : decode cX10_least 154 = .ok (.bipush 6, 2) := by decide +kernel
theorem dX10_least_156 : decode cX10_least 156 = .ok (.if_icmp .ge 65, 3) := by decide +kernel
theorem dX10_least_159 : decode cX10_least 159 = .ok (.aload_n 0, 1) := by decide +kernel
theorem dX10_least_160 : decode cX10_least 160 = .ok (.getfield 66, 3) := by decide +kernel
theorem dX10_least_163 : decode cX10_least 163 = .ok (.iload 4, 2) := by decide +kernel
theorem dX10_least_165 : decode cX10_least 165 = .ok (.iaload, 1) := by decide +kernel
theorem dX10_least_166 : decode cX10_least 166 = .ok (.iload_n 2, 1) := by decide +kernel
theorem dX10_least_167 : decode cX10_least 167 = .ok (.if_icmp .ne 54, 3) := by decide +kernel
theorem dX10_least_170 : decode cX10_least 170 = .ok (.aload_n 0, 1) := by decide +kernel
theorem dX10_least_171 : decode cX10_least 171 = .ok (.iload 4, 2) := by decide +kernel
theorem dX10_least_173 : decode cX10_least 173 = .ok (.iload 5, 2) := by decide +kernel
theorem dX10_least_175 : decode cX10_least 175 = .ok (.invokevirtual 236, 3) := by decide +kernel
theorem dX10_least_178 : decode cX10_least 178 = .ok (.istore 6, 2) := by decide +kernel
theorem dX10_least_180 : decode cX10_least 180 = .ok (.aload_n 0, 1) := by decide +kernel
theorem dX10_least_181 : decode cX10_least 181 = .ok (.getfield 66, 3) := by decide +kernel
theorem dX10_least_184 : decode cX10_least 184 = .ok (.iload 6, 2) := by decide +kernel
theorem dX10_least_186 : decode cX10_least 186 = .ok (.iload 6, 2) := by decide +kernel
theorem dX10_least_188 : decode cX10_least 188 = .ok (.ifCond .eq 19, 3) := by decide +kernel
theorem dX10_least_191 : decode cX10_least 191 = .ok (.aload_n 0, 1) := by decide +kernel
theorem dX10_least_192 : decode cX10_least 192 = .ok (.getfield 66, 3) := by decide +kernel
theorem dX10_least_195 : decode cX10_least 195 = .ok (.iload 6, 2) := by decide +kernel
theorem dX10_least_197 : decode cX10_least 197 = .ok (.iaload, 1) := by decide +kernel
theorem dX10_least_198 : decode cX10_least 198 = .ok (.ifCond .ne 9, 3) := by decide +kernel
theorem dX10_least_201 : decode cX10_least 201 = .ok (.iload_n 2, 1) := by decide +kernel
theorem dX10_least_202 : decode cX10_least 202 = .ok (.iconst 1, 1) := by decide +kernel
theorem dX10_least_203 : decode cX10_least 203 = .ok (.iadd, 1) := by decide +kernel
theorem dX10_least_204 : decode cX10_least 204 = .ok (.goto 10, 3) := by decide +kernel
theorem dX10_least_207 : decode cX10_least 207 = .ok (.aload_n 0, 1) := by decide +kernel
theorem dX10_least_208 : decode cX10_least 208 = .ok (.getfield 66, 3) := by decide +kernel
theorem dX10_least_211 : decode cX10_least 211 = .ok (.iload 6, 2) := by decide +kernel
theorem dX10_least_213 : decode cX10_least 213 = .ok (.iaload, 1) := by decide +kernel
theorem dX10_least_214 : decode cX10_least 214 = .ok (.iastore, 1) := by decide +kernel
theorem dX10_least_215 : decode cX10_least 215 = .ok (.iinc 5 1, 3) := by decide +kernel
theorem dX10_least_218 : decode cX10_least 218 = .ok (.goto (-66), 3) := by decide +kernel
theorem dX10_least_221 : decode cX10_least 221 = .ok (.iinc 4 1, 3) := by decide +kernel
theorem dX10_least_224 : decode cX10_least 224 = .ok (.goto (-86), 3) := by decide +kernel
theorem dX10_least_227 : decode cX10_least 227 = .ok (.iinc 2 1, 3) := by decide +kernel
theorem dX10_least_230 : decode cX10_least 230 = .ok (.goto (-164), 3) := by decide +kernel
theorem dX10_least_233 : decode cX10_least 233 = .ok (.bipush (-4), 2) := by decide +kernel
theorem dX10_least_235 : decode cX10_least 235 = .ok (.ireturn, 1) := by decide +kernel
theorem dX10_day_0 : decode cX10_day 0 = .ok (.iload_n 1, 1) := by decide +kernel
theorem dX10_day_1 : decode cX10_day 1 = .ok (.i2l, 1) := by decide +kernel
theorem dX10_day_2 : decode cX10_day 2 = .ok (.lconst 0, 1) := by decide +kernel
theorem dX10_day_3 : decode cX10_day 3 = .ok (.ldc2_w 290, 3) := by decide +kernel
theorem dX10_day_6 : decode cX10_day 6 = .ok (.invokestatic 144, 3) := by decide +kernel
theorem dX10_day_9 : decode cX10_day 9 = .ok (.ifCond .eq 27, 3) := by decide +kernel
theorem dX10_day_12 : decode cX10_day 12 = .ok (.iload_n 2, 1) := by decide +kernel
theorem dX10_day_13 : decode cX10_day 13 = .ok (.i2l, 1) := by decide +kernel
theorem dX10_day_14 : decode cX10_day 14 = .ok (.lconst 1, 1) := by decide +kernel
theorem dX10_day_15 : decode cX10_day 15 = .ok (.ldc2_w 292, 3) := by decide +kernel
theorem dX10_day_18 : decode cX10_day 18 = .ok (.invokestatic 144, 3) := by decide +kernel
theorem dX10_day_21 : decode cX10_day 21 = .ok (.ifCond .eq 15, 3) := by decide +kernel
theorem dX10_day_24 : decode cX10_day 24 = .ok (.iload_n 3, 1) := by decide +kernel
theorem dX10_day_25 : decode cX10_day 25 = .ok (.i2l, 1) := by decide +kernel
theorem dX10_day_26 : decode cX10_day 26 = .ok (.lconst 0, 1) := by decide +kernel
theorem dX10_day_27 : decode cX10_day 27 = .ok (.ldc2_w 294, 3) := by decide +kernel
theorem dX10_day_30 : decode cX10_day 30 = .ok (.invokestatic 144, 3) := by decide +kernel
theorem dX10_day_33 : decode cX10_day 33 = .ok (.ifCond .ne 5, 3) := by decide +kernel
theorem dX10_day_36 : decode cX10_day 36 = .ok (.iconst (-1), 1) := by decide +kernel
theorem dX10_day_37 : decode cX10_day 37 = .ok (.ireturn, 1) := by decide +kernel
theorem dX10_day_38 : decode cX10_day 38 = .ok (.aload_n 0, 1) := by decide +kernel
theorem dX10_day_39 : decode cX10_day 39 = .ok (.iconst 0, 1) := by decide +kernel
theorem dX10_day_40 : decode cX10_day 40 = .ok (.sipush 671, 3) := by decide +kernel
theorem dX10_day_43 : decode cX10_day 43 = .ok (.invokevirtual 212, 3) := by decide +kernel
theorem dX10_day_46 : decode cX10_day 46 = .ok (.iconst 0, 1) := by decide +kernel
theorem dX10_day_47 : decode cX10_day 47 = .ok (.istore 4, 2) := by decide +kernel
theorem dX10_day_49 : decode cX10_day 49 = .ok (.iload 4, 2) := by decide +kernel
theorem dX10_day_51 : decode cX10_day 51 = .ok (.iload_n 2, 1) := by decide +kernel
theorem dX10_day_52 : decode cX10_day 52 = .ok (.if_icmp .ge 159, 3) := by decide +kernel
theorem dX10_day_55 : decode cX10_day 55 = .ok (.ldc2_w 296, 3) := by decide +kernel
theorem dX10_day_58 : decode cX10_day 58 = .ok (.iload_n 1, 1) := by decide +kernel
theorem dX10_day_59 : decode cX10_day 59 = .ok (.i2l, 1) := by decide +kernel
theorem dX10_day_60 : decode cX10_day 60 = .ok (.lmul, 1) := by decide +kernel
theorem dX10_day_61 : decode cX10_day 61 = .ok (.ldc2_w 298, 3) := by decide +kernel
theorem dX10_day_64 : decode cX10_day 64 = .ok (.iload 4, 2) := by decide +kernel
theorem dX10_day_66 : decode cX10_day 66 = .ok (.i2l, 1) := by decide +kernel
theorem dX10_day_67 : decode cX10_day 67 = .ok (.lmul, 1) := by decide +kernel
theorem dX10_day_68 : decode cX10_day 68 = .ok (.ladd, 1) := by decide +kernel
theorem dX10_day_69 : decode cX10_day 69 = .ok (.lconst 1, 1) := by decide +kernel
theorem dX10_day_70 : decode cX10_day 70 = .ok (.ladd, 1) := by decide +kernel
theorem dX10_day_71 : decode cX10_day 71 = .ok (.lstore 5, 2) := by decide +kernel
theorem dX10_day_73 : decode cX10_day 73 = .ok (.lload 5, 2) := by decide +kernel
theorem dX10_day_75 : decode cX10_day 75 = .ok (.lload 5, 2) := by decide +kernel
theorem dX10_day_77 : decode cX10_day 77 = .ok (.lmul, 1) := by decide +kernel
theorem dX10_day_78 : decode cX10_day 78 = .ok (.ldc2_w 300, 3) := by decide +kernel
theorem dX10_day_81 : decode cX10_day 81 = .ok (.lrem, 1) := by decide +kernel
theorem dX10_day_82 : decode cX10_day 82 = .ok (.l2i, 1) := by decide +kernel
theorem dX10_day_83 : decode cX10_day 83 = .ok (.istore 7, 2) := by decide +kernel
theorem dX10_day_85 : decode cX10_day 85 = .ok (.iload 7, 2) := by decide +kernel
theorem dX10_day_87 : decode cX10_day 87 = .ok (.iconst 4, 1) := by decide +kernel
theorem dX10_day_88 : decode cX10_day 88 = .ok (.irem, 1) := by decide +kernel
theorem dX10_day_89 : decode cX10_day 89 = .ok (.istore 8, 2) := by decide +kernel
theorem dX10_day_91 : decode cX10_day 91 = .ok (.aload_n 0, 1) := by decide +kernel
theorem dX10_day_92 : decode cX10_day 92 = .ok (.getfield 31, 3) := by decide +kernel
theorem dX10_day_95 : decode cX10_day 95 = .ok (.sipush 701, 3) := by decide +kernel
theorem dX10_day_98 : decode cX10_day 98 = .ok (.iaload, 1) := by decide +kernel
theorem dX10_day_99 : decode cX10_day 99 = .ok (.istore 9, 2) := by decide +kernel
theorem dX10_day_101 : decode cX10_day 101 = .ok (.iload 8, 2) := by decide +kernel
theorem dX10_day_103 : decode cX10_day 103 = .ok (.iconst 2, 1) := by decide +kernel
theorem dX10_day_104 : decode cX10_day 104 = .ok (.if_icmp .ge 39, 3) := by decide +kernel
theorem dX10_day_107 : decode cX10_day 107 = .ok (.iload 9, 2) := by decide +kernel
theorem dX10_day_109 : decode cX10_day 109 = .ok (.bipush 30, 2) := by decide +kernel
theorem dX10_day_111 : decode cX10_day 111 = .ok (.if_icmp .ge 32, 3) := by decide +kernel
theorem dX10_day_114 : decode cX10_day 114 = .ok (.aload_n 0, 1) := by decide +kernel
theorem dX10_day_115 : decode cX10_day 115 = .ok (.sipush 671, 3) := by decide +kernel
theorem dX10_day_118 : decode cX10_day 118 = .ok (.iload 7, 2) := by decide +kernel
theorem dX10_day_120 : decode cX10_day 120 = .ok (.sipush 256, 3) := by decide +kernel
theorem dX10_day_123 : decode cX10_day 123 = .ok (.idiv, 1) := by decide +kernel
theorem dX10_day_124 : decode cX10_day 124 = .ok (.iload 9, 2) := by decide +kernel
theorem dX10_day_126 : decode cX10_day 126 = .ok (.iconst 1, 1) := by decide +kernel
theorem dX10_day_127 : decode cX10_day 127 = .ok (.iadd, 1) := by decide +kernel
theorem dX10_day_128 : decode cX10_day 128 = .ok (.irem, 1) := by decide +kernel
theorem dX10_day_129 : decode cX10_day 129 = .ok (.iload 7, 2) := by decide +kernel
theorem dX10_day_131 : decode cX10_day 131 = .ok (.bipush 8, 2) := by decide +kernel
theorem dX10_day_133 : decode cX10_day 133 = .ok (.idiv, 1) := by decide +kernel
theorem dX10_day_134 : decode cX10_day 134 = .ok (.bipush 26, 2) := by decide +kernel
theorem dX10_day_136 : decode cX10_day 136 = .ok (.irem, 1) := by decide +kernel
theorem dX10_day_137 : decode cX10_day 137 = .ok (.invokevirtual 218, 3) := by decide +kernel
theorem dX10_day_140 : decode cX10_day 140 = .ok (.goto 65, 3) := by decide +kernel
theorem dX10_day_143 : decode cX10_day 143 = .ok (.iload 8, 2) := by decide +kernel
theorem dX10_day_145 : decode cX10_day 145 = .ok (.iconst 2, 1) := by decide +kernel
theorem dX10_day_146 : decode cX10_day 146 = .ok (.if_icmp .ne 27, 3) := by decide +kernel
theorem dX10_day_149 : decode cX10_day 149 = .ok (.iload 9, 2) := by decide +kernel
theorem dX10_day_151 : decode cX10_day 151 = .ok (.ifCond .le 22, 3) := by decide +kernel
theorem dX10_day_154 : decode cX10_day 154 = .ok (.aload_n 0, 1) := by decide +kernel
theorem dX10_day_155 : decode cX10_day 155 = .ok (.sipush 671, 3) := by decide +kernel
theorem dX10_day_158 : decode cX10_day 158 = .ok (.iload 7, 2) := by decide +kernel
theorem dX10_day_160 : decode cX10_day 160 = .ok (.sipush 256, 3) := by decide +kernel
theorem dX10_day_163 : decode cX10_day 163 = .ok (.idiv, 1) := by decide +kernel
theorem dX10_day_164 : decode cX10_day 164 = .ok (.iload 9, 2) := by decide +kernel
theorem dX10_day_166 : decode cX10_day 166 = .ok (.irem, 1) := by decide +kernel
theorem dX10_day_167 : decode cX10_day 167 = .ok (.invokevirtual 222, 3) := by decide +kernel
theorem dX10_day_170 : decode cX10_day 170 = .ok (.goto 35, 3) := by decide +kernel
theorem dX10_day_173 : decode cX10_day 173 = .ok (.iload 8, 2) := by decide +kernel
theorem dX10_day_175 : decode cX10_day 175 = .ok (.iconst 3, 1) := by decide +kernel
theorem dX10_day_176 : decode cX10_day 176 = .ok (.if_icmp .ne 29, 3) := by decide +kernel
theorem dX10_day_179 : decode cX10_day 179 = .ok (.aload_n 0, 1) := by decide +kernel
theorem dX10_day_180 : decode cX10_day 180 = .ok (.getfield 31, 3) := by decide +kernel
theorem dX10_day_183 : decode cX10_day 183 = .ok (.sipush 671, 3) := by decide +kernel
theorem dX10_day_186 : decode cX10_day 186 = .ok (.iload 7, 2) := by decide +kernel
theorem dX10_day_188 : decode cX10_day 188 = .ok (.bipush 8, 2) := by decide +kernel
theorem dX10_day_190 : decode cX10_day 190 = .ok (.idiv, 1) := by decide +kernel
theorem dX10_day_191 : decode cX10_day 191 = .ok (.bipush 26, 2) := by decide +kernel
theorem dX10_day_193 : decode cX10_day 193 = .ok (.irem, 1) := by decide +kernel
theorem dX10_day_194 : decode cX10_day 194 = .ok (.iadd, 1) := by decide +kernel
theorem dX10_day_195 : decode cX10_day 195 = .ok (.iload 7, 2) := by decide +kernel
theorem dX10_day_197 : decode cX10_day 197 = .ok (.sipush 256, 3) := by decide +kernel
theorem dX10_day_200 : decode cX10_day 200 = .ok (.idiv, 1) := by decide +kernel
theorem dX10_day_201 : decode cX10_day 201 = .ok (.bipush 6, 2) := by decide +kernel
theorem dX10_day_203 : decode cX10_day 203 = .ok (.irem, 1) := by decide +kernel
theorem dX10_day_204 : decode cX10_day 204 = .ok (.iastore, 1) := by decide +kernel
theorem dX10_day_205 : decode cX10_day 205 = .ok (.iinc 4 1, 3) := by decide +kernel
theorem dX10_day_208 : decode cX10_day 208 = .ok (.goto (-159), 3) := by decide +kernel
theorem dX10_day_211 : decode cX10_day 211 = .ok (.aload_n 0, 1) := by decide +kernel
theorem dX10_day_212 : decode cX10_day 212 = .ok (.sipush 671, 3) := by decide +kernel
theorem dX10_day_215 : decode cX10_day 215 = .ok (.invokevirtual 242, 3) := by decide +kernel
theorem dX10_day_218 : decode cX10_day 218 = .ok (.iconst 0, 1) := by decide +kernel
theorem dX10_day_219 : decode cX10_day 219 = .ok (.istore 4, 2) := by decide +kernel
theorem dX10_day_221 : decode cX10_day 221 = .ok (.iconst 0, 1) := by decide +kernel
theorem dX10_day_222 : decode cX10_day 222 = .ok (.istore 5, 2) := by decide +kernel
theorem dX10_day_224 : decode cX10_day 224 = .ok (.iconst 0, 1) := by decide +kernel
theorem dX10_day_225 : decode cX10_day 225 = .ok (.istore 6, 2) := by decide +kernel
theorem dX10_day_227 : decode cX10_day 227 = .ok (.iload 6, 2) := by decide +kernel
theorem dX10_day_229 : decode cX10_day 229 = .ok (.aload_n 0, 1) := by decide +kernel
theorem dX10_day_230 : decode cX10_day 230 = .ok (.getfield 31, 3) := by decide +kernel
theorem dX10_day_233 : decode cX10_day 233 = .ok (.sipush 701, 3) := by decide +kernel
theorem dX10_day_236 : decode cX10_day 236 = .ok (.iaload, 1) := by decide +kernel
theorem dX10_day_237 : decode cX10_day 237 = .ok (.if_icmp .ge 38, 3) := by decide +kernel
theorem dX10_day_240 : decode cX10_day 240 = .ok (.aload_n 0, 1) := by decide +kernel
theorem dX10_day_241 : decode cX10_day 241 = .ok (.getfield 51, 3) := by decide +kernel
theorem dX10_day_244 : decode cX10_day 244 = .ok (.iload 6, 2) := by decide +kernel
theorem dX10_day_246 : decode cX10_day 246 = .ok (.baload, 1) := by decide +kernel
theorem dX10_day_247 : decode cX10_day 247 = .ok (.ifCond .eq 7, 3) := by decide +kernel
theorem dX10_day_250 : decode cX10_day 250 = .ok (.iconst 1, 1) := by decide +kernel
theorem dX10_day_251 : decode cX10_day 251 = .ok (.goto 7, 3) := by decide +kernel
theorem dX10_day_254 : decode cX10_day 254 = .ok (.iload 5, 2) := by decide +kernel
theorem dX10_day_256 : decode cX10_day 256 = .ok (.iconst 1, 1) := by decide +kernel
theorem dX10_day_257 : decode cX10_day 257 = .ok (.iadd, 1) := by decide +kernel
theorem dX10_day_258 : decode cX10_day 258 = .ok (.istore 5, 2) := by decide +kernel
theorem dX10_day_260 : decode cX10_day 260 = .ok (.iload 4, 2) := by decide +kernel
theorem dX10_day_262 : decode cX10_day 262 = .ok (.iload 5, 2) := by decide +kernel
theorem dX10_day_264 : decode cX10_day 264 = .ok (.invokestatic 269, 3) := by decide +kernel
theorem dX10_day_267 : decode cX10_day 267 = .ok (.istore 4, 2) := by decide +kernel
theorem dX10_day_269 : decode cX10_day 269 = .ok (.iinc 6 1, 3) := by decide +kernel
theorem dX10_day_272 : decode cX10_day 272 = .ok (.goto (-45), 3) := by decide +kernel
theorem dX10_day_275 : decode cX10_day 275 = .ok (.iload_n 3, 1) := by decide +kernel
theorem dX10_day_276 : decode cX10_day 276 = .ok (.ifCond .ne 14, 3) := by decide +kernel
theorem dX10_day_279 : decode cX10_day 279 = .ok (.aload_n 0, 1) := by decide +kernel
theorem dX10_day_280 : decode cX10_day 280 = .ok (.getfield 31, 3) := by decide +kernel
theorem dX10_day_283 : decode cX10_day 283 = .ok (.sipush 701, 3) := by decide +kernel
theorem dX10_day_286 : decode cX10_day 286 = .ok (.iaload, 1) := by decide +kernel
theorem dX10_day_287 : decode cX10_day 287 = .ok (.goto 20, 3) := by decide +kernel
theorem dX10_day_290 : decode cX10_day 290 = .ok (.iload_n 3, 1) := by decide +kernel
theorem dX10_day_291 : decode cX10_day 291 = .ok (.iconst 1, 1) := by decide +kernel
theorem dX10_day_292 : decode cX10_day 292 = .ok (.if_icmp .ne 13, 3) := by decide +kernel
theorem dX10_day_295 : decode cX10_day 295 = .ok (.aload_n 0, 1) := by decide +kernel
theorem dX10_day_296 : decode cX10_day 296 = .ok (.sipush 671, 3) := by decide +kernel
theorem dX10_day_299 : decode cX10_day 299 = .ok (.invokevirtual 245, 3) := by decide +kernel
theorem dX10_day_302 : decode cX10_day 302 = .ok (.goto 5, 3) := by decide +kernel
theorem dX10_day_305 : decode cX10_day 305 = .ok (.iload 4, 2) := by decide +kernel
theorem dX10_day_307 : decode cX10_day 307 = .ok (.ireturn, 1) := by decide +kernel
theorem dX10_keep_0 : decode cX10_keep 0 = .ok (.aload_n 0, 1) := by decide +kernel
theorem dX10_keep_1 : decode cX10_keep 1 = .ok (.getfield 127, 3) := by decide +kernel
theorem dX10_keep_4 : decode cX10_keep 4 = .ok (.iconst 2, 1) := by decide +kernel
theorem dX10_keep_5 : decode cX10_keep 5 = .ok (.if_icmp .ne 6, 3) := by decide +kernel
theorem dX10_keep_8 : decode cX10_keep 8 = .ok (.bipush (-3), 2) := by decide +kernel
theorem dX10_keep_10 : decode cX10_keep 10 = .ok (.ireturn, 1) := by decide +kernel
theorem dX10_keep_11 : decode cX10_keep 11 = .ok (.aload_n 0, 1) := by decide +kernel
theorem dX10_keep_12 : decode cX10_keep 12 = .ok (.iconst 0, 1) := by decide +kernel
theorem dX10_keep_13 : decode cX10_keep 13 = .ok (.sipush 549, 3) := by decide +kernel
theorem dX10_keep_16 : decode cX10_keep 16 = .ok (.aload_n 0, 1) := by decide +kernel
theorem dX10_keep_17 : decode cX10_keep 17 = .ok (.getfield 127, 3) := by decide +kernel
theorem dX10_keep_20 : decode cX10_keep 20 = .ok (.bipush 61, 2) := by decide +kernel
theorem dX10_keep_22 : decode cX10_keep 22 = .ok (.imul, 1) := by decide +kernel
theorem dX10_keep_23 : decode cX10_keep 23 = .ok (.iadd, 1) := by decide +kernel
theorem dX10_keep_24 : decode cX10_keep 24 = .ok (.invokevirtual 212, 3) := by decide +kernel
theorem dX10_keep_27 : decode cX10_keep 27 = .ok (.aload_n 0, 1) := by decide +kernel
theorem dX10_keep_28 : decode cX10_keep 28 = .ok (.dup, 1) := by decide +kernel
theorem dX10_keep_29 : decode cX10_keep 29 = .ok (.getfield 127, 3) := by decide +kernel
theorem dX10_keep_32 : decode cX10_keep 32 = .ok (.iconst 1, 1) := by decide +kernel
theorem dX10_keep_33 : decode cX10_keep 33 = .ok (.iadd, 1) := by decide +kernel
theorem dX10_keep_34 : decode cX10_keep 34 = .ok (.putfield 127, 3) := by decide +kernel
theorem dX10_keep_37 : decode cX10_keep 37 = .ok (.aload_n 0, 1) := by decide +kernel
theorem dX10_keep_38 : decode cX10_keep 38 = .ok (.getfield 127, 3) := by decide +kernel
theorem dX10_keep_41 : decode cX10_keep 41 = .ok (.ireturn, 1) := by decide +kernel
theorem dX10_restore_0 : decode cX10_restore 0 = .ok (.aload_n 0, 1) := by decide +kernel
theorem dX10_restore_1 : decode cX10_restore 1 = .ok (.getfield 127, 3) := by decide +kernel
theorem dX10_restore_4 : decode cX10_restore 4 = .ok (.ifCond .ne 6, 3) := by decide +kernel
theorem dX10_restore_7 : decode cX10_restore 7 = .ok (.bipush (-2), 2) := by decide +kernel
theorem dX10_restore_9 : decode cX10_restore 9 = .ok (.ireturn, 1) := by decide +kernel
theorem dX10_restore_10 : decode cX10_restore 10 = .ok (.aload_n 0, 1) := by decide +kernel
theorem dX10_restore_11 : decode cX10_restore 11 = .ok (.dup, 1) := by decide +kernel
theorem dX10_restore_12 : decode cX10_restore 12 = .ok (.getfield 127, 3) := by decide +kernel
theorem dX10_restore_15 : decode cX10_restore 15 = .ok (.iconst 1, 1) := by decide +kernel
theorem dX10_restore_16 : decode cX10_restore 16 = .ok (.isub, 1) := by decide +kernel
theorem dX10_restore_17 : decode cX10_restore 17 = .ok (.putfield 127, 3) := by decide +kernel
theorem dX10_restore_20 : decode cX10_restore 20 = .ok (.aload_n 0, 1) := by decide +kernel
theorem dX10_restore_21 : decode cX10_restore 21 = .ok (.sipush 549, 3) := by decide +kernel
theorem dX10_restore_24 : decode cX10_restore 24 = .ok (.aload_n 0, 1) := by decide +kernel
theorem dX10_restore_25 : decode cX10_restore 25 = .ok (.getfield 127, 3) := by decide +kernel
theorem dX10_restore_28 : decode cX10_restore 28 = .ok (.bipush 61, 2) := by decide +kernel
theorem dX10_restore_30 : decode cX10_restore 30 = .ok (.imul, 1) := by decide +kernel
theorem dX10_restore_31 : decode cX10_restore 31 = .ok (.iadd, 1) := by decide +kernel
theorem dX10_restore_32 : decode cX10_restore 32 = .ok (.iconst 0, 1) := by decide +kernel
theorem dX10_restore_33 : decode cX10_restore 33 = .ok (.invokevirtual 212, 3) := by decide +kernel
theorem dX10_restore_36 : decode cX10_restore 36 = .ok (.aload_n 0, 1) := by decide +kernel
theorem dX10_restore_37 : decode cX10_restore 37 = .ok (.iconst 0, 1) := by decide +kernel
theorem dX10_restore_38 : decode cX10_restore 38 = .ok (.putfield 124, 3) := by decide +kernel
theorem dX10_restore_41 : decode cX10_restore 41 = .ok (.aload_n 0, 1) := by decide +kernel
theorem dX10_restore_42 : decode cX10_restore 42 = .ok (.getfield 127, 3) := by decide +kernel
theorem dX10_restore_45 : decode cX10_restore 45 = .ok (.ireturn, 1) := by decide +kernel
theorem dX10_count_0 : decode cX10_count 0 = .ok (.iload_n 1, 1) := by decide +kernel
theorem dX10_count_1 : decode cX10_count 1 = .ok (.i2l, 1) := by decide +kernel
theorem dX10_count_2 : decode cX10_count 2 = .ok (.lconst 0, 1) := by decide +kernel
theorem dX10_count_3 : decode cX10_count 3 = .ok (.ldc2_w 302, 3) := by decide +kernel
theorem dX10_count_6 : decode cX10_count 6 = .ok (.invokestatic 144, 3) := by decide +kernel
theorem dX10_count_9 : decode cX10_count 9 = .ok (.ifCond .ne 5, 3) := by decide +kernel
theorem dX10_count_12 : decode cX10_count 12 = .ok (.iconst (-1), 1) := by decide +kernel
theorem dX10_count_13 : decode cX10_count 13 = .ok (.ireturn, 1) := by decide +kernel
theorem dX10_count_14 : decode cX10_count 14 = .ok (.aload_n 0, 1) := by decide +kernel
theorem dX10_count_15 : decode cX10_count 15 = .ok (.iconst 0, 1) := by decide +kernel
theorem dX10_count_16 : decode cX10_count 16 = .ok (.invokevirtual 242, 3) := by decide +kernel
theorem dX10_count_19 : decode cX10_count 19 = .ok (.iload_n 1, 1) := by decide +kernel
theorem dX10_count_20 : decode cX10_count 20 = .ok (.ifCond .ne 10, 3) := by decide +kernel
theorem dX10_count_23 : decode cX10_count 23 = .ok (.aload_n 0, 1) := by decide +kernel
theorem dX10_count_24 : decode cX10_count 24 = .ok (.getfield 118, 3) := by decide +kernel
theorem dX10_count_27 : decode cX10_count 27 = .ok (.goto 71, 3) := by decide +kernel
theorem dX10_count_30 : decode cX10_count 30 = .ok (.iload_n 1, 1) := by decide +kernel
theorem dX10_count_31 : decode cX10_count 31 = .ok (.iconst 1, 1) := by decide +kernel
theorem dX10_count_32 : decode cX10_count 32 = .ok (.if_icmp .ne 10, 3) := by decide +kernel
theorem dX10_count_35 : decode cX10_count 35 = .ok (.aload_n 0, 1) := by decide +kernel
theorem dX10_count_36 : decode cX10_count 36 = .ok (.getfield 121, 3) := by decide +kernel
theorem dX10_count_39 : decode cX10_count 39 = .ok (.goto 59, 3) := by decide +kernel
theorem dX10_count_42 : decode cX10_count 42 = .ok (.iload_n 1, 1) := by decide +kernel
theorem dX10_count_43 : decode cX10_count 43 = .ok (.iconst 2, 1) := by decide +kernel
theorem dX10_count_44 : decode cX10_count 44 = .ok (.if_icmp .ne 13, 3) := by decide +kernel
theorem dX10_count_47 : decode cX10_count 47 = .ok (.aload_n 0, 1) := by decide +kernel
theorem dX10_count_48 : decode cX10_count 48 = .ok (.getfield 31, 3) := by decide +kernel
theorem dX10_count_51 : decode cX10_count 51 = .ok (.bipush 30, 2) := by decide +kernel
theorem dX10_count_53 : decode cX10_count 53 = .ok (.iaload, 1) := by decide +kernel
theorem dX10_count_54 : decode cX10_count 54 = .ok (.goto 44, 3) := by decide +kernel
theorem dX10_count_57 : decode cX10_count 57 = .ok (.iload_n 1, 1) := by decide +kernel
theorem dX10_count_58 : decode cX10_count 58 = .ok (.iconst 3, 1) := by decide +kernel
theorem dX10_count_59 : decode cX10_count 59 = .ok (.if_icmp .ne 11, 3) := by decide +kernel
theorem dX10_count_62 : decode cX10_count 62 = .ok (.aload_n 0, 1) := by decide +kernel
theorem dX10_count_63 : decode cX10_count 63 = .ok (.iconst 0, 1) := by decide +kernel
theorem dX10_count_64 : decode cX10_count 64 = .ok (.invokevirtual 245, 3) := by decide +kernel
theorem dX10_count_67 : decode cX10_count 67 = .ok (.goto 31, 3) := by decide +kernel
theorem dX10_count_70 : decode cX10_count 70 = .ok (.iload_n 1, 1) := by decide +kernel
theorem dX10_count_71 : decode cX10_count 71 = .ok (.iconst 4, 1) := by decide +kernel
theorem dX10_count_72 : decode cX10_count 72 = .ok (.if_icmp .ne 10, 3) := by decide +kernel
theorem dX10_count_75 : decode cX10_count 75 = .ok (.aload_n 0, 1) := by decide +kernel
theorem dX10_count_76 : decode cX10_count 76 = .ok (.getfield 124, 3) := by decide +kernel
theorem dX10_count_79 : decode cX10_count 79 = .ok (.goto 19, 3) := by decide +kernel
theorem dX10_count_82 : decode cX10_count 82 = .ok (.iload_n 1, 1) := by decide +kernel
theorem dX10_count_83 : decode cX10_count 83 = .ok (.iconst 5, 1) := by decide +kernel
theorem dX10_count_84 : decode cX10_count 84 = .ok (.if_icmp .ne 10, 3) := by decide +kernel
theorem dX10_count_87 : decode cX10_count 87 = .ok (.aload_n 0, 1) := by decide +kernel
theorem dX10_count_88 : decode cX10_count 88 = .ok (.getfield 127, 3) := by decide +kernel
theorem dX10_count_91 : decode cX10_count 91 = .ok (.goto 7, 3) := by decide +kernel
theorem dX10_count_94 : decode cX10_count 94 = .ok (.aload_n 0, 1) := by decide +kernel
theorem dX10_count_95 : decode cX10_count 95 = .ok (.getfield 148, 3) := by decide +kernel
theorem dX10_count_98 : decode cX10_count 98 = .ok (.ireturn, 1) := by decide +kernel

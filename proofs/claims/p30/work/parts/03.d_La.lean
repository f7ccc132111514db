theorem dL_cell_0 : decode cL_cell 0 = .ok (.iload_n 1, 1) := by decide +kernel
theorem dL_cell_1 : decode cL_cell 1 = .ok (.aload_n 0, 1) := by decide +kernel
theorem dL_cell_2 : decode cL_cell 2 = .ok (.arraylength, 1) := by decide +kernel
theorem dL_cell_3 : decode cL_cell 3 = .ok (.if_icmp .ge 9, 3) := by decide +kernel
theorem dL_cell_6 : decode cL_cell 6 = .ok (.aload_n 0, 1) := by decide +kernel
theorem dL_cell_7 : decode cL_cell 7 = .ok (.iload_n 1, 1) := by decide +kernel
theorem dL_cell_8 : decode cL_cell 8 = .ok (.iaload, 1) := by decide +kernel
theorem dL_cell_9 : decode cL_cell 9 = .ok (.goto 9, 3) := by decide +kernel
theorem dL_cell_12 : decode cL_cell 12 = .ok (.ldc 7, 2) := by decide +kernel
theorem dL_cell_14 : decode cL_cell 14 = .ok (.iload_n 1, 1) := by decide +kernel
theorem dL_cell_15 : decode cL_cell 15 = .ok (.iconst 3, 1) := by decide +kernel
theorem dL_cell_16 : decode cL_cell 16 = .ok (.iadd, 1) := by decide +kernel
theorem dL_cell_17 : decode cL_cell 17 = .ok (.imul, 1) := by decide +kernel
theorem dL_cell_18 : decode cL_cell 18 = .ok (.ireturn, 1) := by decide +kernel
theorem dL_low_0 : decode cL_low 0 = .ok (.iload_n 0, 1) := by decide +kernel
theorem dL_low_1 : decode cL_low 1 = .ok (.ldc 8, 2) := by decide +kernel
theorem dL_low_3 : decode cL_low 3 = .ok (.iand, 1) := by decide +kernel
theorem dL_low_4 : decode cL_low 4 = .ok (.iload_n 1, 1) := by decide +kernel
theorem dL_low_5 : decode cL_low 5 = .ok (.irem, 1) := by decide +kernel
theorem dL_low_6 : decode cL_low 6 = .ok (.ireturn, 1) := by decide +kernel
theorem dL_sign_0 : decode cL_sign 0 = .ok (.aload_n 0, 1) := by decide +kernel
theorem dL_sign_1 : decode cL_sign 1 = .ok (.iload_n 1, 1) := by decide +kernel
theorem dL_sign_2 : decode cL_sign 2 = .ok (.iload_n 2, 1) := by decide +kernel
theorem dL_sign_3 : decode cL_sign 3 = .ok (.iastore, 1) := by decide +kernel
theorem dL_sign_4 : decode cL_sign 4 = .ok (.iload_n 1, 1) := by decide +kernel
theorem dL_sign_5 : decode cL_sign 5 = .ok (.iconst 1, 1) := by decide +kernel
theorem dL_sign_6 : decode cL_sign 6 = .ok (.iadd, 1) := by decide +kernel
theorem dL_sign_7 : decode cL_sign 7 = .ok (.ireturn, 1) := by decide +kernel
theorem dL_unary_0 : decode cL_unary 0 = .ok (.iload_n 0, 1) := by decide +kernel
theorem dL_unary_1 : decode cL_unary 1 = .ok (.iconst 5, 1) := by decide +kernel
theorem dL_unary_2 : decode cL_unary 2 = .ok (.invokestatic 9, 3) := by decide +kernel
theorem dL_unary_5 : decode cL_unary 5 = .ok (.ifCond .ne 8, 3) := by decide +kernel
theorem dL_unary_8 : decode cL_unary 8 = .ok (.bipush 42, 2) := by decide +kernel
theorem dL_unary_10 : decode cL_unary 10 = .ok (.goto 32, 3) := by decide +kernel
theorem dL_unary_13 : decode cL_unary 13 = .ok (.iload_n 0, 1) := by decide +kernel
theorem dL_unary_14 : decode cL_unary 14 = .ok (.iconst 5, 1) := by decide +kernel
theorem dL_unary_15 : decode cL_unary 15 = .ok (.invokestatic 9, 3) := by decide +kernel
theorem dL_unary_18 : decode cL_unary 18 = .ok (.iconst 1, 1) := by decide +kernel
theorem dL_unary_19 : decode cL_unary 19 = .ok (.if_icmp .ne 8, 3) := by decide +kernel
theorem dL_unary_22 : decode cL_unary 22 = .ok (.bipush 43, 2) := by decide +kernel
theorem dL_unary_24 : decode cL_unary 24 = .ok (.goto 18, 3) := by decide +kernel
theorem dL_unary_27 : decode cL_unary 27 = .ok (.iload_n 0, 1) := by decide +kernel
theorem dL_unary_28 : decode cL_unary 28 = .ok (.iconst 5, 1) := by decide +kernel
theorem dL_unary_29 : decode cL_unary 29 = .ok (.invokestatic 9, 3) := by decide +kernel
theorem dL_unary_32 : decode cL_unary 32 = .ok (.iconst 2, 1) := by decide +kernel
theorem dL_unary_33 : decode cL_unary 33 = .ok (.if_icmp .ne 8, 3) := by decide +kernel
theorem dL_unary_36 : decode cL_unary 36 = .ok (.bipush 63, 2) := by decide +kernel
theorem dL_unary_38 : decode cL_unary 38 = .ok (.goto 4, 3) := by decide +kernel
theorem dL_unary_41 : decode cL_unary 41 = .ok (.iconst 0, 1) := by decide +kernel
theorem dL_unary_42 : decode cL_unary 42 = .ok (.ireturn, 1) := by decide +kernel
theorem dL_draws_0 : decode cL_draws 0 = .ok (.aload_n 0, 1) := by decide +kernel
theorem dL_draws_1 : decode cL_draws 1 = .ok (.iconst 0, 1) := by decide +kernel
theorem dL_draws_2 : decode cL_draws 2 = .ok (.invokestatic 15, 3) := by decide +kernel
theorem dL_draws_5 : decode cL_draws 5 = .ok (.istore 4, 2) := by decide +kernel
theorem dL_draws_7 : decode cL_draws 7 = .ok (.iconst 0, 1) := by decide +kernel
theorem dL_draws_8 : decode cL_draws 8 = .ok (.istore 5, 2) := by decide +kernel
theorem dL_draws_10 : decode cL_draws 10 = .ok (.iload 5, 2) := by decide +kernel
theorem dL_draws_12 : decode cL_draws 12 = .ok (.bipush 38, 2) := by decide +kernel
theorem dL_draws_14 : decode cL_draws 14 = .ok (.if_icmp .ge 14, 3) := by decide +kernel
theorem dL_draws_17 : decode cL_draws 17 = .ok (.aload_n 1, 1) := by decide +kernel
theorem dL_draws_18 : decode cL_draws 18 = .ok (.iload 5, 2) := by decide +kernel
theorem dL_draws_20 : decode cL_draws 20 = .ok (.iconst 0, 1) := by decide +kernel
theorem dL_draws_21 : decode cL_draws 21 = .ok (.iastore, 1) := by decide +kernel
theorem dL_draws_22 : decode cL_draws 22 = .ok (.iinc 5 1, 3) := by decide +kernel
theorem dL_draws_25 : decode cL_draws 25 = .ok (.goto (-15), 3) := by decide +kernel
theorem dL_draws_28 : decode cL_draws 28 = .ok (.iconst 0, 1) := by decide +kernel
theorem dL_draws_29 : decode cL_draws 29 = .ok (.istore 5, 2) := by decide +kernel
theorem dL_draws_31 : decode cL_draws 31 = .ok (.iload 5, 2) := by decide +kernel
theorem dL_draws_33 : decode cL_draws 33 = .ok (.bipush 61, 2) := by decide +kernel
theorem dL_draws_35 : decode cL_draws 35 = .ok (.if_icmp .ge 14, 3) := by decide +kernel
theorem dL_draws_38 : decode cL_draws 38 = .ok (.aload_n 3, 1) := by decide +kernel
theorem dL_draws_39 : decode cL_draws 39 = .ok (.iload 5, 2) := by decide +kernel
theorem dL_draws_41 : decode cL_draws 41 = .ok (.iconst 0, 1) := by decide +kernel
theorem dL_draws_42 : decode cL_draws 42 = .ok (.iastore, 1) := by decide +kernel
theorem dL_draws_43 : decode cL_draws 43 = .ok (.iinc 5 1, 3) := by decide +kernel
theorem dL_draws_46 : decode cL_draws 46 = .ok (.goto (-15), 3) := by decide +kernel
theorem dL_draws_49 : decode cL_draws 49 = .ok (.aload_n 1, 1) := by decide +kernel
theorem dL_draws_50 : decode cL_draws 50 = .ok (.iconst 0, 1) := by decide +kernel
theorem dL_draws_51 : decode cL_draws 51 = .ok (.iconst 1, 1) := by decide +kernel
theorem dL_draws_52 : decode cL_draws 52 = .ok (.iload 4, 2) := by decide +kernel
theorem dL_draws_54 : decode cL_draws 54 = .ok (.iconst 3, 1) := by decide +kernel
theorem dL_draws_55 : decode cL_draws 55 = .ok (.invokestatic 9, 3) := by decide +kernel
theorem dL_draws_58 : decode cL_draws 58 = .ok (.iadd, 1) := by decide +kernel
theorem dL_draws_59 : decode cL_draws 59 = .ok (.iastore, 1) := by decide +kernel
theorem dL_draws_60 : decode cL_draws 60 = .ok (.iconst 0, 1) := by decide +kernel
theorem dL_draws_61 : decode cL_draws 61 = .ok (.istore 5, 2) := by decide +kernel
theorem dL_draws_63 : decode cL_draws 63 = .ok (.iload 5, 2) := by decide +kernel
theorem dL_draws_65 : decode cL_draws 65 = .ok (.aload_n 1, 1) := by decide +kernel
theorem dL_draws_66 : decode cL_draws 66 = .ok (.iconst 0, 1) := by decide +kernel
theorem dL_draws_67 : decode cL_draws 67 = .ok (.iaload, 1) := by decide +kernel
theorem dL_draws_68 : decode cL_draws 68 = .ok (.if_icmp .ge 425, 3) := by decide +kernel
theorem dL_draws_71 : decode cL_draws 71 = .ok (.aload_n 0, 1) := by decide +kernel
theorem dL_draws_72 : decode cL_draws 72 = .ok (.iconst 1, 1) := by decide +kernel
theorem dL_draws_73 : decode cL_draws 73 = .ok (.iconst 2, 1) := by decide +kernel
theorem dL_draws_74 : decode cL_draws 74 = .ok (.iload 5, 2) := by decide +kernel
theorem dL_draws_76 : decode cL_draws 76 = .ok (.imul, 1) := by decide +kernel
theorem dL_draws_77 : decode cL_draws 77 = .ok (.iadd, 1) := by decide +kernel
theorem dL_draws_78 : decode cL_draws 78 = .ok (.invokestatic 15, 3) := by decide +kernel
theorem dL_draws_81 : decode cL_draws 81 = .ok (.istore 6, 2) := by decide +kernel
theorem dL_draws_83 : decode cL_draws 83 = .ok (.aload_n 0, 1) := by decide +kernel
theorem dL_draws_84 : decode cL_draws 84 = .ok (.iconst 2, 1) := by decide +kernel
theorem dL_draws_85 : decode cL_draws 85 = .ok (.iconst 2, 1) := by decide +kernel
theorem dL_draws_86 : decode cL_draws 86 = .ok (.iload 5, 2) := by decide +kernel
theorem dL_draws_88 : decode cL_draws 88 = .ok (.imul, 1) := by decide +kernel
theorem dL_draws_89 : decode cL_draws 89 = .ok (.iadd, 1) := by decide +kernel
theorem dL_draws_90 : decode cL_draws 90 = .ok (.invokestatic 15, 3) := by decide +kernel
theorem dL_draws_93 : decode cL_draws 93 = .ok (.istore 7, 2) := by decide +kernel
theorem dL_draws_95 : decode cL_draws 95 = .ok (.iconst 1, 1) := by decide +kernel
theorem dL_draws_96 : decode cL_draws 96 = .ok (.iload 6, 2) := by decide +kernel
theorem dL_draws_98 : decode cL_draws 98 = .ok (.iload 5, 2) := by decide +kernel
theorem dL_draws_100 : decode cL_draws 100 = .ok (.iconst 2, 1) := by decide +kernel
theorem dL_draws_101 : decode cL_draws 101 = .ok (.if_icmp .ne 7, 3) := by decide +kernel
theorem dL_draws_104 : decode cL_draws 104 = .ok (.iconst 1, 1) := by decide +kernel
theorem dL_draws_105 : decode cL_draws 105 = .ok (.goto 14, 3) := by decide +kernel
theorem dL_draws_108 : decode cL_draws 108 = .ok (.iload 5, 2) := by decide +kernel
theorem dL_draws_110 : decode cL_draws 110 = .ok (.iconst 1, 1) := by decide +kernel
theorem dL_draws_111 : decode cL_draws 111 = .ok (.if_icmp .ne 7, 3) := by decide +kernel
theorem dL_draws_114 : decode cL_draws 114 = .ok (.iconst 2, 1) := by decide +kernel
theorem dL_draws_115 : decode cL_draws 115 = .ok (.goto 4, 3) := by decide +kernel
theorem dL_draws_118 : decode cL_draws 118 = .ok (.iconst 3, 1) := by decide +kernel
theorem dL_draws_119 : decode cL_draws 119 = .ok (.invokestatic 9, 3) := by decide +kernel
theorem dL_draws_122 : decode cL_draws 122 = .ok (.iadd, 1) := by decide +kernel
theorem dL_draws_123 : decode cL_draws 123 = .ok (.istore 8, 2) := by decide +kernel
theorem dL_draws_125 : decode cL_draws 125 = .ok (.aload_n 1, 1) := by decide +kernel
theorem dL_draws_126 : decode cL_draws 126 = .ok (.iconst 1, 1) := by decide +kernel
theorem dL_draws_127 : decode cL_draws 127 = .ok (.iaload, 1) := by decide +kernel
theorem dL_draws_128 : decode cL_draws 128 = .ok (.istore 9, 2) := by decide +kernel
theorem dL_draws_130 : decode cL_draws 130 = .ok (.iconst 0, 1) := by decide +kernel
theorem dL_draws_131 : decode cL_draws 131 = .ok (.istore 10, 2) := by decide +kernel
theorem dL_draws_133 : decode cL_draws 133 = .ok (.iconst 4, 1) := by decide +kernel
theorem dL_draws_134 : decode cL_draws 134 = .ok (.newarray .int, 2) := by decide +kernel
theorem dL_draws_136 : decode cL_draws 136 = .ok (.astore 11, 2) := by decide +kernel
theorem dL_draws_138 : decode cL_draws 138 = .ok (.iconst 0, 1) := by decide +kernel
theorem dL_draws_139 : decode cL_draws 139 = .ok (.istore 12, 2) := by decide +kernel
theorem dL_draws_141 : decode cL_draws 141 = .ok (.iload 12, 2) := by decide +kernel
theorem dL_draws_143 : decode cL_draws 143 = .ok (.iload 8, 2) := by decide +kernel
theorem dL_draws_145 : decode cL_draws 145 = .ok (.if_icmp .ge 304, 3) := by decide +kernel
theorem dL_draws_148 : decode cL_draws 148 = .ok (.iload 7, 2) := by decide +kernel
theorem dL_draws_150 : decode cL_draws 150 = .ok (.bipush 9, 2) := by decide +kernel
theorem dL_draws_152 : decode cL_draws 152 = .ok (.iload 12, 2) := by decide +kernel
theorem dL_draws_154 : decode cL_draws 154 = .ok (.imul, 1) := by decide +kernel
theorem dL_draws_155 : decode cL_draws 155 = .ok (.ishr, 1) := by decide +kernel
theorem dL_draws_156 : decode cL_draws 156 = .ok (.istore 13, 2) := by decide +kernel
theorem dL_draws_158 : decode cL_draws 158 = .ok (.iload 12, 2) := by decide +kernel
theorem dL_draws_160 : decode cL_draws 160 = .ok (.iload 8, 2) := by decide +kernel
theorem dL_draws_162 : decode cL_draws 162 = .ok (.iconst 1, 1) := by decide +kernel
theorem dL_draws_163 : decode cL_draws 163 = .ok (.isub, 1) := by decide +kernel
theorem dL_draws_164 : decode cL_draws 164 = .ok (.if_icmp .ge 116, 3) := by decide +kernel
theorem dL_draws_167 : decode cL_draws 167 = .ok (.aload 11, 2) := by decide +kernel
theorem dL_draws_169 : decode cL_draws 169 = .ok (.iload 12, 2) := by decide +kernel
theorem dL_draws_171 : decode cL_draws 171 = .ok (.iload 6, 2) := by decide +kernel
theorem dL_draws_173 : decode cL_draws 173 = .ok (.bipush 9, 2) := by decide +kernel
theorem dL_draws_175 : decode cL_draws 175 = .ok (.iconst 2, 1) := by decide +kernel
theorem dL_draws_176 : decode cL_draws 176 = .ok (.iload 12, 2) := by decide +kernel
theorem dL_draws_178 : decode cL_draws 178 = .ok (.imul, 1) := by decide +kernel
theorem dL_draws_179 : decode cL_draws 179 = .ok (.iadd, 1) := by decide +kernel
theorem dL_draws_180 : decode cL_draws 180 = .ok (.ishr, 1) := by decide +kernel
theorem dL_draws_181 : decode cL_draws 181 = .ok (.iconst 3, 1) := by decide +kernel
theorem dL_draws_182 : decode cL_draws 182 = .ok (.invokestatic 9, 3) := by decide +kernel
theorem dL_draws_185 : decode cL_draws 185 = .ok (.ifCond .ne 8, 3) := by decide +kernel
theorem dL_draws_188 : decode cL_draws 188 = .ok (.bipush 124, 2) := by decide +kernel
theorem dL_draws_190 : decode cL_draws 190 = .ok (.goto 5, 3) := by decide +kernel
theorem dL_draws_193 : decode cL_draws 193 = .ok (.bipush 38, 2) := by decide +kernel
theorem dL_draws_195 : decode cL_draws 195 = .ok (.iastore, 1) := by decide +kernel
theorem dL_draws_196 : decode cL_draws 196 = .ok (.iload 6, 2) := by decide +kernel
theorem dL_draws_198 : decode cL_draws 198 = .ok (.iconst 5, 1) := by decide +kernel
theorem dL_draws_199 : decode cL_draws 199 = .ok (.iload 12, 2) := by decide +kernel
theorem dL_draws_201 : decode cL_draws 201 = .ok (.iadd, 1) := by decide +kernel
theorem dL_draws_202 : decode cL_draws 202 = .ok (.ishr, 1) := by decide +kernel
theorem dL_draws_203 : decode cL_draws 203 = .ok (.iconst 4, 1) := by decide +kernel
theorem dL_draws_204 : decode cL_draws 204 = .ok (.invokestatic 9, 3) := by decide +kernel
theorem dL_draws_207 : decode cL_draws 207 = .ok (.ifCond .ne 13, 3) := by decide +kernel
theorem dL_draws_210 : decode cL_draws 210 = .ok (.iload 13, 2) := by decide +kernel
theorem dL_draws_212 : decode cL_draws 212 = .ok (.iconst 5, 1) := by decide +kernel
theorem dL_draws_213 : decode cL_draws 213 = .ok (.ishr, 1) := by decide +kernel
theorem dL_draws_214 : decode cL_draws 214 = .ok (.invokestatic 19, 3) := by decide +kernel
theorem dL_draws_217 : decode cL_draws 217 = .ok (.goto 4, 3) := by decide +kernel
theorem dL_draws_220 : decode cL_draws 220 = .ok (.iconst 0, 1) := by decide +kernel
theorem dL_draws_221 : decode cL_draws 221 = .ok (.istore 14, 2) := by decide +kernel
theorem dL_draws_223 : decode cL_draws 223 = .ok (.iload 14, 2) := by decide +kernel
theorem dL_draws_225 : decode cL_draws 225 = .ok (.ifCond .ne 8, 3) := by decide +kernel
theorem dL_draws_228 : decode cL_draws 228 = .ok (.iload 10, 2) := by decide +kernel
theorem dL_draws_230 : decode cL_draws 230 = .ok (.goto 23, 3) := by decide +kernel
theorem dL_draws_233 : decode cL_draws 233 = .ok (.aload_n 2, 1) := by decide +kernel
theorem dL_draws_234 : decode cL_draws 234 = .ok (.bipush 16, 2) := by decide +kernel
theorem dL_draws_236 : decode cL_draws 236 = .ok (.iload 5, 2) := by decide +kernel
theorem dL_draws_238 : decode cL_draws 238 = .ok (.imul, 1) := by decide +kernel
theorem dL_draws_239 : decode cL_draws 239 = .ok (.iload 10, 2) := by decide +kernel
theorem dL_draws_241 : decode cL_draws 241 = .ok (.iadd, 1) := by decide +kernel
theorem dL_draws_242 : decode cL_draws 242 = .ok (.iload 14, 2) := by decide +kernel
theorem dL_draws_244 : decode cL_draws 244 = .ok (.invokestatic 23, 3) := by decide +kernel
theorem dL_draws_247 : decode cL_draws 247 = .ok (.bipush 16, 2) := by decide +kernel
theorem dL_draws_249 : decode cL_draws 249 = .ok (.iload 5, 2) := by decide +kernel
theorem dL_draws_251 : decode cL_draws 251 = .ok (.imul, 1) := by decide +kernel
theorem dL_draws_252 : decode cL_draws 252 = .ok (.isub, 1) := by decide +kernel
theorem dL_draws_253 : decode cL_draws 253 = .ok (.istore 10, 2) := by decide +kernel
theorem dL_draws_255 : decode cL_draws 255 = .ok (.aload_n 2, 1) := by decide +kernel
theorem dL_draws_256 : decode cL_draws 256 = .ok (.bipush 16, 2) := by decide +kernel
theorem dL_draws_258 : decode cL_draws 258 = .ok (.iload 5, 2) := by decide +kernel
theorem dL_draws_260 : decode cL_draws 260 = .ok (.imul, 1) := by decide +kernel
theorem dL_draws_261 : decode cL_draws 261 = .ok (.iload 10, 2) := by decide +kernel
theorem dL_draws_263 : decode cL_draws 263 = .ok (.iadd, 1) := by decide +kernel
theorem dL_draws_264 : decode cL_draws 264 = .ok (.aload 11, 2) := by decide +kernel
theorem dL_draws_266 : decode cL_draws 266 = .ok (.iload 12, 2) := by decide +kernel
theorem dL_draws_268 : decode cL_draws 268 = .ok (.iaload, 1) := by decide +kernel
theorem dL_draws_269 : decode cL_draws 269 = .ok (.invokestatic 23, 3) := by decide +kernel
theorem dL_draws_272 : decode cL_draws 272 = .ok (.bipush 16, 2) := by decide +kernel
theorem dL_draws_274 : decode cL_draws 274 = .ok (.iload 5, 2) := by decide +kernel
theorem dL_draws_276 : decode cL_draws 276 = .ok (.imul, 1) := by decide +kernel
theorem dL_draws_277 : decode cL_draws 277 = .ok (.isub, 1) := by decide +kernel
theorem dL_draws_278 : decode cL_draws 278 = .ok (.istore 10, 2) := by decide +kernel
theorem dL_draws_280 : decode cL_draws 280 = .ok (.iload 13, 2) := by decide +kernel
theorem dL_draws_282 : decode cL_draws 282 = .ok (.invokestatic 19, 3) := by decide +kernel
theorem dL_draws_285 : decode cL_draws 285 = .ok (.istore 14, 2) := by decide +kernel
theorem dL_draws_287 : decode cL_draws 287 = .ok (.iload 14, 2) := by decide +kernel
theorem dL_draws_289 : decode cL_draws 289 = .ok (.ifCond .ne 8, 3) := by decide +kernel
theorem dL_draws_292 : decode cL_draws 292 = .ok (.iload 10, 2) := by decide +kernel
theorem dL_draws_294 : decode cL_draws 294 = .ok (.goto 23, 3) := by decide +kernel
theorem dL_draws_297 : decode cL_draws 297 = .ok (.aload_n 2, 1) := by decide +kernel
theorem dL_draws_298 : decode cL_draws 298 = .ok (.bipush 16, 2) := by decide +kernel
theorem dL_draws_300 : decode cL_draws 300 = .ok (.iload 5, 2) := by decide +kernel
theorem dL_draws_302 : decode cL_draws 302 = .ok (.imul, 1) := by decide +kernel
theorem dL_draws_303 : decode cL_draws 303 = .ok (.iload 10, 2) := by decide +kernel
theorem dL_draws_305 : decode cL_draws 305 = .ok (.iadd, 1) := by decide +kernel
theorem dL_draws_306 : decode cL_draws 306 = .ok (.iload 14, 2) := by decide +kernel
theorem dL_draws_308 : decode cL_draws 308 = .ok (.invokestatic 23, 3) := by decide +kernel
theorem dL_draws_311 : decode cL_draws 311 = .ok (.bipush 16, 2) := by decide +kernel
theorem dL_draws_313 : decode cL_draws 313 = .ok (.iload 5, 2) := by decide +kernel
theorem dL_draws_315 : decode cL_draws 315 = .ok (.imul, 1) := by decide +kernel
theorem dL_draws_316 : decode cL_draws 316 = .ok (.isub, 1) := by decide +kernel
theorem dL_draws_317 : decode cL_draws 317 = .ok (.istore 10, 2) := by decide +kernel
theorem dL_draws_319 : decode cL_draws 319 = .ok (.iload 13, 2) := by decide +kernel
theorem dL_draws_321 : decode cL_draws 321 = .ok (.iconst 3, 1) := by decide +kernel
theorem dL_draws_322 : decode cL_draws 322 = .ok (.ishr, 1) := by decide +kernel
theorem dL_draws_323 : decode cL_draws 323 = .ok (.bipush 9, 2) := by decide +kernel
theorem dL_draws_325 : decode cL_draws 325 = .ok (.invokestatic 9, 3) := by decide +kernel
theorem dL_draws_328 : decode cL_draws 328 = .ok (.ifCond .ne 8, 3) := by decide +kernel
theorem dL_draws_331 : decode cL_draws 331 = .ok (.bipush 6, 2) := by decide +kernel
theorem dL_draws_333 : decode cL_draws 333 = .ok (.goto 28, 3) := by decide +kernel
theorem dL_draws_336 : decode cL_draws 336 = .ok (.iload 13, 2) := by decide +kernel
theorem dL_draws_338 : decode cL_draws 338 = .ok (.iconst 3, 1) := by decide +kernel
theorem dL_draws_339 : decode cL_draws 339 = .ok (.ishr, 1) := by decide +kernel
theorem dL_draws_340 : decode cL_draws 340 = .ok (.iload 13, 2) := by decide +kernel
theorem dL_draws_342 : decode cL_draws 342 = .ok (.bipush 7, 2) := by decide +kernel
theorem dL_draws_344 : decode cL_draws 344 = .ok (.ishr, 1) := by decide +kernel
theorem dL_draws_345 : decode cL_draws 345 = .ok (.iconst 4, 1) := by decide +kernel
theorem dL_draws_346 : decode cL_draws 346 = .ok (.invokestatic 9, 3) := by decide +kernel
theorem dL_draws_349 : decode cL_draws 349 = .ok (.ifCond .ne 8, 3) := by decide +kernel
theorem dL_draws_352 : decode cL_draws 352 = .ok (.bipush 6, 2) := by decide +kernel
theorem dL_draws_354 : decode cL_draws 354 = .ok (.goto 4, 3) := by decide +kernel
theorem dL_draws_357 : decode cL_draws 357 = .ok (.iconst 3, 1) := by decide +kernel
theorem dL_draws_358 : decode cL_draws 358 = .ok (.invokestatic 9, 3) := by decide +kernel
theorem dL_draws_361 : decode cL_draws 361 = .ok (.istore 15, 2) := by decide +kernel
theorem dL_draws_363 : decode cL_draws 363 = .ok (.iload 6, 2) := by decide +kernel
theorem dL_draws_365 : decode cL_draws 365 = .ok (.bipush 16, 2) := by decide +kernel
theorem dL_draws_367 : decode cL_draws 367 = .ok (.iconst 2, 1) := by decide +kernel
theorem dL_draws_368 : decode cL_draws 368 = .ok (.iload 12, 2) := by decide +kernel
theorem dL_draws_370 : decode cL_draws 370 = .ok (.imul, 1) := by decide +kernel
theorem dL_draws_371 : decode cL_draws 371 = .ok (.iadd, 1) := by decide +kernel
theorem dL_draws_372 : decode cL_draws 372 = .ok (.ishr, 1) := by decide +kernel
theorem dL_draws_373 : decode cL_draws 373 = .ok (.bipush 7, 2) := by decide +kernel
theorem dL_draws_375 : decode cL_draws 375 = .ok (.invokestatic 9, 3) := by decide +kernel
theorem dL_draws_378 : decode cL_draws 378 = .ok (.ifCond .ne 7, 3) := by decide +kernel
theorem dL_draws_381 : decode cL_draws 381 = .ok (.iconst 5, 1) := by decide +kernel
theorem dL_draws_382 : decode cL_draws 382 = .ok (.goto 5, 3) := by decide +kernel
theorem dL_draws_385 : decode cL_draws 385 = .ok (.iload 15, 2) := by decide +kernel
theorem dL_draws_387 : decode cL_draws 387 = .ok (.istore 15, 2) := by decide +kernel
theorem dL_draws_389 : decode cL_draws 389 = .ok (.aload_n 1, 1) := by decide +kernel
theorem dL_draws_390 : decode cL_draws 390 = .ok (.bipush 24, 2) := by decide +kernel
theorem dL_draws_392 : decode cL_draws 392 = .ok (.aload_n 1, 1) := by decide +kernel
theorem dL_draws_393 : decode cL_draws 393 = .ok (.iconst 1, 1) := by decide +kernel
theorem dL_draws_394 : decode cL_draws 394 = .ok (.iaload, 1) := by decide +kernel
theorem dL_draws_395 : decode cL_draws 395 = .ok (.iadd, 1) := by decide +kernel
theorem dL_draws_396 : decode cL_draws 396 = .ok (.iload 15, 2) := by decide +kernel
theorem dL_draws_398 : decode cL_draws 398 = .ok (.iastore, 1) := by decide +kernel
theorem dL_draws_399 : decode cL_draws 399 = .ok (.aload_n 1, 1) := by decide +kernel
theorem dL_draws_400 : decode cL_draws 400 = .ok (.iconst 1, 1) := by decide +kernel
theorem dL_draws_401 : decode cL_draws 401 = .ok (.dup2, 1) := by decide +kernel
theorem dL_draws_402 : decode cL_draws 402 = .ok (.iaload, 1) := by decide +kernel
theorem dL_draws_403 : decode cL_draws 403 = .ok (.iconst 1, 1) := by decide +kernel
theorem dL_draws_404 : decode cL_draws 404 = .ok (.iadd, 1) := by decide +kernel
theorem dL_draws_405 : decode cL_draws 405 = .ok (.iastore, 1) := by decide +kernel
theorem dL_draws_406 : decode cL_draws 406 = .ok (.aload_n 2, 1) := by decide +kernel
theorem dL_draws_407 : decode cL_draws 407 = .ok (.bipush 16, 2) := by decide +kernel
theorem dL_draws_409 : decode cL_draws 409 = .ok (.iload 5, 2) := by decide +kernel
theorem dL_draws_411 : decode cL_draws 411 = .ok (.imul, 1) := by decide +kernel
theorem dL_draws_412 : decode cL_draws 412 = .ok (.iload 10, 2) := by decide +kernel
theorem dL_draws_414 : decode cL_draws 414 = .ok (.iadd, 1) := by decide +kernel
theorem dL_draws_415 : decode cL_draws 415 = .ok (.iload 15, 2) := by decide +kernel
theorem dL_draws_417 : decode cL_draws 417 = .ok (.bipush 6, 2) := by decide +kernel
theorem dL_draws_419 : decode cL_draws 419 = .ok (.if_icmp .ne 8, 3) := by decide +kernel
theorem dL_draws_422 : decode cL_draws 422 = .ok (.bipush 46, 2) := by decide +kernel
theorem dL_draws_424 : decode cL_draws 424 = .ok (.goto 8, 3) := by decide +kernel
theorem dL_draws_427 : decode cL_draws 427 = .ok (.bipush 48, 2) := by decide +kernel
theorem dL_draws_429 : decode cL_draws 429 = .ok (.iload 15, 2) := by decide +kernel
theorem dL_draws_431 : decode cL_draws 431 = .ok (.iadd, 1) := by decide +kernel
theorem dL_draws_432 : decode cL_draws 432 = .ok (.invokestatic 23, 3) := by decide +kernel
theorem dL_draws_435 : decode cL_draws 435 = .ok (.bipush 16, 2) := by decide +kernel
theorem dL_draws_437 : decode cL_draws 437 = .ok (.iload 5, 2) := by decide +kernel
theorem dL_draws_439 : decode cL_draws 439 = .ok (.imul, 1) := by decide +kernel
theorem dL_draws_440 : decode cL_draws 440 = .ok (.isub, 1) := by decide +kernel
theorem dL_draws_441 : decode cL_draws 441 = .ok (.istore 10, 2) := by decide +kernel
theorem dL_draws_443 : decode cL_draws 443 = .ok (.iinc 12 1, 3) := by decide +kernel
theorem dL_draws_446 : decode cL_draws 446 = .ok (.goto (-305), 3) := by decide +kernel
theorem dL_draws_449 : decode cL_draws 449 = .ok (.aload_n 1, 1) := by decide +kernel
theorem dL_draws_450 : decode cL_draws 450 = .ok (.bipush 34, 2) := by decide +kernel
theorem dL_draws_452 : decode cL_draws 452 = .ok (.iload 5, 2) := by decide +kernel
theorem dL_draws_454 : decode cL_draws 454 = .ok (.iadd, 1) := by decide +kernel
theorem dL_draws_455 : decode cL_draws 455 = .ok (.iload 10, 2) := by decide +kernel
theorem dL_draws_457 : decode cL_draws 457 = .ok (.iastore, 1) := by decide +kernel
theorem dL_draws_458 : decode cL_draws 458 = .ok (.aload_n 1, 1) := by decide +kernel
theorem dL_draws_459 : decode cL_draws 459 = .ok (.aload_n 2, 1) := by decide +kernel
theorem dL_draws_460 : decode cL_draws 460 = .ok (.iload 5, 2) := by decide +kernel
theorem dL_draws_462 : decode cL_draws 462 = .ok (.iload 9, 2) := by decide +kernel
theorem dL_draws_464 : decode cL_draws 464 = .ok (.invokestatic 27, 3) := by decide +kernel
theorem dL_draws_467 : decode cL_draws 467 = .ok (.aload_n 3, 1) := by decide +kernel
theorem dL_draws_468 : decode cL_draws 468 = .ok (.bipush 26, 2) := by decide +kernel
theorem dL_draws_470 : decode cL_draws 470 = .ok (.iload 5, 2) := by decide +kernel
theorem dL_draws_472 : decode cL_draws 472 = .ok (.iadd, 1) := by decide +kernel
theorem dL_draws_473 : decode cL_draws 473 = .ok (.iload 4, 2) := by decide +kernel
theorem dL_draws_475 : decode cL_draws 475 = .ok (.iconst 3, 1) := by decide +kernel
theorem dL_draws_476 : decode cL_draws 476 = .ok (.iconst 2, 1) := by decide +kernel
theorem dL_draws_477 : decode cL_draws 477 = .ok (.iload 5, 2) := by decide +kernel
theorem dL_draws_479 : decode cL_draws 479 = .ok (.imul, 1) := by decide +kernel
theorem dL_draws_480 : decode cL_draws 480 = .ok (.iadd, 1) := by decide +kernel
theorem dL_draws_481 : decode cL_draws 481 = .ok (.ishr, 1) := by decide +kernel
theorem dL_draws_482 : decode cL_draws 482 = .ok (.iconst 4, 1) := by decide +kernel
theorem dL_draws_483 : decode cL_draws 483 = .ok (.invokestatic 9, 3) := by decide +kernel
theorem dL_draws_486 : decode cL_draws 486 = .ok (.iastore, 1) := by decide +kernel
theorem dL_draws_487 : decode cL_draws 487 = .ok (.iinc 5 1, 3) := by decide +kernel
theorem dL_draws_490 : decode cL_draws 490 = .ok (.goto (-427), 3) := by decide +kernel
theorem dL_draws_493 : decode cL_draws 493 = .ok (.iconst 0, 1) := by decide +kernel
theorem dL_draws_494 : decode cL_draws 494 = .ok (.istore 5, 2) := by decide +kernel
theorem dL_draws_496 : decode cL_draws 496 = .ok (.iload 5, 2) := by decide +kernel
theorem dL_draws_498 : decode cL_draws 498 = .ok (.bipush 26, 2) := by decide +kernel
theorem dL_draws_500 : decode cL_draws 500 = .ok (.if_icmp .ge 58, 3) := by decide +kernel
theorem dL_draws_503 : decode cL_draws 503 = .ok (.aload_n 0, 1) := by decide +kernel
theorem dL_draws_504 : decode cL_draws 504 = .ok (.bipush 7, 2) := by decide +kernel
theorem dL_draws_506 : decode cL_draws 506 = .ok (.invokestatic 15, 3) := by decide +kernel
theorem dL_draws_509 : decode cL_draws 509 = .ok (.iconst 3, 1) := by decide +kernel
theorem dL_draws_510 : decode cL_draws 510 = .ok (.iload 5, 2) := by decide +kernel
theorem dL_draws_512 : decode cL_draws 512 = .ok (.imul, 1) := by decide +kernel
theorem dL_draws_513 : decode cL_draws 513 = .ok (.bipush 29, 2) := by decide +kernel
theorem dL_draws_515 : decode cL_draws 515 = .ok (.invokestatic 9, 3) := by decide +kernel
theorem dL_draws_518 : decode cL_draws 518 = .ok (.ishr, 1) := by decide +kernel
theorem dL_draws_519 : decode cL_draws 519 = .ok (.istore 6, 2) := by decide +kernel
theorem dL_draws_521 : decode cL_draws 521 = .ok (.aload_n 3, 1) := by decide +kernel
theorem dL_draws_522 : decode cL_draws 522 = .ok (.iload 5, 2) := by decide +kernel
theorem dL_draws_524 : decode cL_draws 524 = .ok (.iload 6, 2) := by decide +kernel
theorem dL_draws_526 : decode cL_draws 526 = .ok (.bipush 6, 2) := by decide +kernel
theorem dL_draws_528 : decode cL_draws 528 = .ok (.invokestatic 9, 3) := by decide +kernel
theorem dL_draws_531 : decode cL_draws 531 = .ok (.iconst 4, 1) := by decide +kernel
theorem dL_draws_532 : decode cL_draws 532 = .ok (.if_icmp .ge 12, 3) := by decide +kernel
theorem dL_draws_535 : decode cL_draws 535 = .ok (.iload 6, 2) := by decide +kernel
theorem dL_draws_537 : decode cL_draws 537 = .ok (.iconst 3, 1) := by decide +kernel
theorem dL_draws_538 : decode cL_draws 538 = .ok (.invokestatic 9, 3) := by decide +kernel
theorem dL_draws_541 : decode cL_draws 541 = .ok (.goto 10, 3) := by decide +kernel
theorem dL_draws_544 : decode cL_draws 544 = .ok (.iload 6, 2) := by decide +kernel
theorem dL_draws_546 : decode cL_draws 546 = .ok (.bipush 6, 2) := by decide +kernel
theorem dL_draws_548 : decode cL_draws 548 = .ok (.invokestatic 9, 3) := by decide +kernel
theorem dL_draws_551 : decode cL_draws 551 = .ok (.iastore, 1) := by decide +kernel
theorem dL_draws_552 : decode cL_draws 552 = .ok (.iinc 5 1, 3) := by decide +kernel
theorem dL_draws_555 : decode cL_draws 555 = .ok (.goto (-59), 3) := by decide +kernel
theorem dL_draws_558 : decode cL_draws 558 = .ok (.aload_n 3, 1) := by decide +kernel
theorem dL_draws_559 : decode cL_draws 559 = .ok (.bipush 30, 2) := by decide +kernel
theorem dL_draws_561 : decode cL_draws 561 = .ok (.iload 4, 2) := by decide +kernel
theorem dL_draws_563 : decode cL_draws 563 = .ok (.bipush 9, 2) := by decide +kernel
theorem dL_draws_565 : decode cL_draws 565 = .ok (.ishr, 1) := by decide +kernel
theorem dL_draws_566 : decode cL_draws 566 = .ok (.iload 4, 2) := by decide +kernel
theorem dL_draws_568 : decode cL_draws 568 = .ok (.bipush 14, 2) := by decide +kernel
theorem dL_draws_570 : decode cL_draws 570 = .ok (.ishr, 1) := by decide +kernel
theorem dL_draws_571 : decode cL_draws 571 = .ok (.iconst 5, 1) := by decide +kernel
theorem dL_draws_572 : decode cL_draws 572 = .ok (.invokestatic 9, 3) := by decide +kernel
theorem dL_draws_575 : decode cL_draws 575 = .ok (.ifCond .ne 8, 3) := by decide +kernel
theorem dL_draws_578 : decode cL_draws 578 = .ok (.bipush 31, 2) := by decide +kernel
theorem dL_draws_580 : decode cL_draws 580 = .ok (.goto 5, 3) := by decide +kernel
theorem dL_draws_583 : decode cL_draws 583 = .ok (.bipush 13, 2) := by decide +kernel
theorem dL_draws_585 : decode cL_draws 585 = .ok (.invokestatic 9, 3) := by decide +kernel
theorem dL_draws_588 : decode cL_draws 588 = .ok (.iastore, 1) := by decide +kernel
theorem dL_draws_589 : decode cL_draws 589 = .ok (.iconst 0, 1) := by decide +kernel
theorem dL_draws_590 : decode cL_draws 590 = .ok (.istore 5, 2) := by decide +kernel
theorem dL_draws_592 : decode cL_draws 592 = .ok (.iload 5, 2) := by decide +kernel
theorem dL_draws_594 : decode cL_draws 594 = .ok (.aload_n 3, 1) := by decide +kernel
theorem dL_draws_595 : decode cL_draws 595 = .ok (.bipush 30, 2) := by decide +kernel
theorem dL_draws_597 : decode cL_draws 597 = .ok (.iaload, 1) := by decide +kernel
theorem dL_draws_598 : decode cL_draws 598 = .ok (.if_icmp .ge 41, 3) := by decide +kernel
theorem dL_draws_601 : decode cL_draws 601 = .ok (.aload_n 3, 1) := by decide +kernel
theorem dL_draws_602 : decode cL_draws 602 = .ok (.bipush 31, 2) := by decide +kernel
theorem dL_draws_604 : decode cL_draws 604 = .ok (.iload 5, 2) := by decide +kernel
theorem dL_draws_606 : decode cL_draws 606 = .ok (.iadd, 1) := by decide +kernel
theorem dL_draws_607 : decode cL_draws 607 = .ok (.aload_n 0, 1) := by decide +kernel
theorem dL_draws_608 : decode cL_draws 608 = .ok (.bipush 8, 2) := by decide +kernel
theorem dL_draws_610 : decode cL_draws 610 = .ok (.iload 5, 2) := by decide +kernel
theorem dL_draws_612 : decode cL_draws 612 = .ok (.bipush 6, 2) := by decide +kernel
theorem dL_draws_614 : decode cL_draws 614 = .ok (.idiv, 1) := by decide +kernel
theorem dL_draws_615 : decode cL_draws 615 = .ok (.iadd, 1) := by decide +kernel
theorem dL_draws_616 : decode cL_draws 616 = .ok (.invokestatic 15, 3) := by decide +kernel
theorem dL_draws_619 : decode cL_draws 619 = .ok (.iconst 5, 1) := by decide +kernel
theorem dL_draws_620 : decode cL_draws 620 = .ok (.iload 5, 2) := by decide +kernel
theorem dL_draws_622 : decode cL_draws 622 = .ok (.bipush 6, 2) := by decide +kernel
theorem dL_draws_624 : decode cL_draws 624 = .ok (.irem, 1) := by decide +kernel
theorem dL_draws_625 : decode cL_draws 625 = .ok (.imul, 1) := by decide +kernel
theorem dL_draws_626 : decode cL_draws 626 = .ok (.ishr, 1) := by decide +kernel
theorem dL_draws_627 : decode cL_draws 627 = .ok (.bipush 26, 2) := by decide +kernel
theorem dL_draws_629 : decode cL_draws 629 = .ok (.invokestatic 9, 3) := by decide +kernel
theorem dL_draws_632 : decode cL_draws 632 = .ok (.iastore, 1) := by decide +kernel
theorem dL_draws_633 : decode cL_draws 633 = .ok (.iinc 5 1, 3) := by decide +kernel
theorem dL_draws_636 : decode cL_draws 636 = .ok (.goto (-44), 3) := by decide +kernel
theorem dL_draws_639 : decode cL_draws 639 = .ok (.return_, 1) := by decide +kernel
theorem dL_reads_0 : decode cL_reads 0 = .ok (.bipush 17, 2) := by decide +kernel
theorem dL_reads_2 : decode cL_reads 2 = .ok (.newarray .int, 2) := by decide +kernel
theorem dL_reads_4 : decode cL_reads 4 = .ok (.astore 4, 2) := by decide +kernel
theorem dL_reads_6 : decode cL_reads 6 = .ok (.bipush 17, 2) := by decide +kernel
theorem dL_reads_8 : decode cL_reads 8 = .ok (.newarray .int, 2) := by decide +kernel
theorem dL_reads_10 : decode cL_reads 10 = .ok (.astore 5, 2) := by decide +kernel
theorem dL_reads_12 : decode cL_reads 12 = .ok (.bipush 17, 2) := by decide +kernel
theorem dL_reads_14 : decode cL_reads 14 = .ok (.newarray .int, 2) := by decide +kernel
theorem dL_reads_16 : decode cL_reads 16 = .ok (.astore 6, 2) := by decide +kernel
theorem dL_reads_18 : decode cL_reads 18 = .ok (.iconst 0, 1) := by decide +kernel
theorem dL_reads_19 : decode cL_reads 19 = .ok (.istore 7, 2) := by decide +kernel
theorem dL_reads_21 : decode cL_reads 21 = .ok (.aload_n 0, 1) := by decide +kernel
theorem dL_reads_22 : decode cL_reads 22 = .ok (.iconst 1, 1) := by decide +kernel
theorem dL_reads_23 : decode cL_reads 23 = .ok (.iaload, 1) := by decide +kernel
theorem dL_reads_24 : decode cL_reads 24 = .ok (.istore 8, 2) := by decide +kernel
theorem dL_reads_26 : decode cL_reads 26 = .ok (.aload_n 0, 1) := by decide +kernel
theorem dL_reads_27 : decode cL_reads 27 = .ok (.bipush 34, 2) := by decide +kernel
theorem dL_reads_29 : decode cL_reads 29 = .ok (.iload_n 2, 1) := by decide +kernel
theorem dL_reads_30 : decode cL_reads 30 = .ok (.iadd, 1) := by decide +kernel
theorem dL_reads_31 : decode cL_reads 31 = .ok (.iaload, 1) := by decide +kernel
theorem dL_reads_32 : decode cL_reads 32 = .ok (.iconst 1, 1) := by decide +kernel
theorem dL_reads_33 : decode cL_reads 33 = .ok (.isub, 1) := by decide +kernel
theorem dL_reads_34 : decode cL_reads 34 = .ok (.istore 9, 2) := by decide +kernel
theorem dL_reads_36 : decode cL_reads 36 = .ok (.iload 9, 2) := by decide +kernel
theorem dL_reads_38 : decode cL_reads 38 = .ok (.ifCond .lt 362, 3) := by decide +kernel
theorem dL_reads_41 : decode cL_reads 41 = .ok (.aload_n 1, 1) := by decide +kernel
theorem dL_reads_42 : decode cL_reads 42 = .ok (.bipush 16, 2) := by decide +kernel
theorem dL_reads_44 : decode cL_reads 44 = .ok (.iload_n 2, 1) := by decide +kernel
theorem dL_reads_45 : decode cL_reads 45 = .ok (.imul, 1) := by decide +kernel
theorem dL_reads_46 : decode cL_reads 46 = .ok (.iload 9, 2) := by decide +kernel
theorem dL_reads_48 : decode cL_reads 48 = .ok (.iadd, 1) := by decide +kernel
theorem dL_reads_49 : decode cL_reads 49 = .ok (.iaload, 1) := by decide +kernel
theorem dL_reads_50 : decode cL_reads 50 = .ok (.istore 10, 2) := by decide +kernel
theorem dL_reads_52 : decode cL_reads 52 = .ok (.iload 10, 2) := by decide +kernel
theorem dL_reads_54 : decode cL_reads 54 = .ok (.bipush 38, 2) := by decide +kernel
theorem dL_reads_56 : decode cL_reads 56 = .ok (.if_icmp .eq 10, 3) := by decide +kernel
theorem dL_reads_59 : decode cL_reads 59 = .ok (.iload 10, 2) := by decide +kernel
theorem dL_reads_61 : decode cL_reads 61 = .ok (.bipush 124, 2) := by decide +kernel
theorem dL_reads_63 : decode cL_reads 63 = .ok (.if_icmp .ne 194, 3) := by decide +kernel
theorem dL_reads_66 : decode cL_reads 66 = .ok (.iload 7, 2) := by decide +kernel
theorem dL_reads_68 : decode cL_reads 68 = .ok (.iconst 1, 1) := by decide +kernel
theorem dL_reads_69 : decode cL_reads 69 = .ok (.isub, 1) := by decide +kernel
theorem dL_reads_70 : decode cL_reads 70 = .ok (.istore 11, 2) := by decide +kernel
theorem dL_reads_72 : decode cL_reads 72 = .ok (.iload 7, 2) := by decide +kernel
theorem dL_reads_74 : decode cL_reads 74 = .ok (.iconst 2, 1) := by decide +kernel
theorem dL_reads_75 : decode cL_reads 75 = .ok (.isub, 1) := by decide +kernel
theorem dL_reads_76 : decode cL_reads 76 = .ok (.istore 12, 2) := by decide +kernel
theorem dL_reads_78 : decode cL_reads 78 = .ok (.iload 10, 2) := by decide +kernel
theorem dL_reads_80 : decode cL_reads 80 = .ok (.bipush 38, 2) := by decide +kernel
theorem dL_reads_82 : decode cL_reads 82 = .ok (.if_icmp .ne 130, 3) := by decide +kernel
theorem dL_reads_85 : decode cL_reads 85 = .ok (.iload_n 3, 1) := by decide +kernel
theorem dL_reads_86 : decode cL_reads 86 = .ok (.istore 13, 2) := by decide +kernel
theorem dL_reads_88 : decode cL_reads 88 = .ok (.iload 13, 2) := by decide +kernel
theorem dL_reads_90 : decode cL_reads 90 = .ok (.aload_n 0, 1) := by decide +kernel
theorem dL_reads_91 : decode cL_reads 91 = .ok (.iconst 1, 1) := by decide +kernel
theorem dL_reads_92 : decode cL_reads 92 = .ok (.iaload, 1) := by decide +kernel
theorem dL_reads_93 : decode cL_reads 93 = .ok (.if_icmp .ge 42, 3) := by decide +kernel
theorem dL_reads_96 : decode cL_reads 96 = .ok (.aload_n 0, 1) := by decide +kernel
theorem dL_reads_97 : decode cL_reads 97 = .ok (.bipush 14, 2) := by decide +kernel
theorem dL_reads_99 : decode cL_reads 99 = .ok (.iload 13, 2) := by decide +kernel
theorem dL_reads_101 : decode cL_reads 101 = .ok (.iadd, 1) := by decide +kernel
theorem dL_reads_102 : decode cL_reads 102 = .ok (.dup2, 1) := by decide +kernel
theorem dL_reads_103 : decode cL_reads 103 = .ok (.iaload, 1) := by decide +kernel
theorem dL_reads_104 : decode cL_reads 104 = .ok (.aload 5, 2) := by decide +kernel
theorem dL_reads_106 : decode cL_reads 106 = .ok (.iload 11, 2) := by decide +kernel
theorem dL_reads_108 : decode cL_reads 108 = .ok (.iaload, 1) := by decide +kernel
theorem dL_reads_109 : decode cL_reads 109 = .ok (.iload 13, 2) := by decide +kernel
theorem dL_reads_111 : decode cL_reads 111 = .ok (.ishr, 1) := by decide +kernel
theorem dL_reads_112 : decode cL_reads 112 = .ok (.iconst 1, 1) := by decide +kernel
theorem dL_reads_113 : decode cL_reads 113 = .ok (.iand, 1) := by decide +kernel
theorem dL_reads_114 : decode cL_reads 114 = .ok (.iconst 1, 1) := by decide +kernel
theorem dL_reads_115 : decode cL_reads 115 = .ok (.if_icmp .ne 11, 3) := by decide +kernel
theorem dL_reads_118 : decode cL_reads 118 = .ok (.aload 4, 2) := by decide +kernel
theorem dL_reads_120 : decode cL_reads 120 = .ok (.iload 12, 2) := by decide +kernel
theorem dL_reads_122 : decode cL_reads 122 = .ok (.iaload, 1) := by decide +kernel
theorem dL_reads_123 : decode cL_reads 123 = .ok (.goto 4, 3) := by decide +kernel
theorem dL_reads_126 : decode cL_reads 126 = .ok (.iconst 0, 1) := by decide +kernel
theorem dL_reads_127 : decode cL_reads 127 = .ok (.ior, 1) := by decide +kernel
theorem dL_reads_128 : decode cL_reads 128 = .ok (.iastore, 1) := by decide +kernel
theorem dL_reads_129 : decode cL_reads 129 = .ok (.iinc 13 1, 3) := by decide +kernel
theorem dL_reads_132 : decode cL_reads 132 = .ok (.goto (-44), 3) := by decide +kernel
theorem dL_reads_135 : decode cL_reads 135 = .ok (.aload 4, 2) := by decide +kernel
theorem dL_reads_137 : decode cL_reads 137 = .ok (.iload 12, 2) := by decide +kernel
theorem dL_reads_139 : decode cL_reads 139 = .ok (.aload 4, 2) := by decide +kernel
theorem dL_reads_141 : decode cL_reads 141 = .ok (.iload 11, 2) := by decide +kernel
theorem dL_reads_143 : decode cL_reads 143 = .ok (.iaload, 1) := by decide +kernel
theorem dL_reads_144 : decode cL_reads 144 = .ok (.aload 6, 2) := by decide +kernel
theorem dL_reads_146 : decode cL_reads 146 = .ok (.iload 11, 2) := by decide +kernel
theorem dL_reads_148 : decode cL_reads 148 = .ok (.iaload, 1) := by decide +kernel
theorem dL_reads_149 : decode cL_reads 149 = .ok (.iconst 1, 1) := by decide +kernel
theorem dL_reads_150 : decode cL_reads 150 = .ok (.if_icmp .ne 11, 3) := by decide +kernel
theorem dL_reads_153 : decode cL_reads 153 = .ok (.aload 4, 2) := by decide +kernel
theorem dL_reads_155 : decode cL_reads 155 = .ok (.iload 12, 2) := by decide +kernel
theorem dL_reads_157 : decode cL_reads 157 = .ok (.iaload, 1) := by decide +kernel
theorem dL_reads_158 : decode cL_reads 158 = .ok (.goto 4, 3) := by decide +kernel
theorem dL_reads_161 : decode cL_reads 161 = .ok (.iconst 0, 1) := by decide +kernel
theorem dL_reads_162 : decode cL_reads 162 = .ok (.ior, 1) := by decide +kernel
theorem dL_reads_163 : decode cL_reads 163 = .ok (.iastore, 1) := by decide +kernel
theorem dL_reads_164 : decode cL_reads 164 = .ok (.aload 5, 2) := by decide +kernel
theorem dL_reads_166 : decode cL_reads 166 = .ok (.iload 12, 2) := by decide +kernel
theorem dL_reads_168 : decode cL_reads 168 = .ok (.aload 5, 2) := by decide +kernel
theorem dL_reads_170 : decode cL_reads 170 = .ok (.iload 12, 2) := by decide +kernel
theorem dL_reads_172 : decode cL_reads 172 = .ok (.iaload, 1) := by decide +kernel
theorem dL_reads_173 : decode cL_reads 173 = .ok (.aload 6, 2) := by decide +kernel
theorem dL_reads_175 : decode cL_reads 175 = .ok (.iload 12, 2) := by decide +kernel
theorem dL_reads_177 : decode cL_reads 177 = .ok (.iaload, 1) := by decide +kernel
theorem dL_reads_178 : decode cL_reads 178 = .ok (.iconst 1, 1) := by decide +kernel
theorem dL_reads_179 : decode cL_reads 179 = .ok (.if_icmp .ne 11, 3) := by decide +kernel
theorem dL_reads_182 : decode cL_reads 182 = .ok (.aload 5, 2) := by decide +kernel
theorem dL_reads_184 : decode cL_reads 184 = .ok (.iload 11, 2) := by decide +kernel
theorem dL_reads_186 : decode cL_reads 186 = .ok (.iaload, 1) := by decide +kernel
theorem dL_reads_187 : decode cL_reads 187 = .ok (.goto 4, 3) := by decide +kernel
theorem dL_reads_190 : decode cL_reads 190 = .ok (.iconst 0, 1) := by decide +kernel
theorem dL_reads_191 : decode cL_reads 191 = .ok (.ior, 1) := by decide +kernel
theorem dL_reads_192 : decode cL_reads 192 = .ok (.iastore, 1) := by decide +kernel
theorem dL_reads_193 : decode cL_reads 193 = .ok (.aload 6, 2) := by decide +kernel
theorem dL_reads_195 : decode cL_reads 195 = .ok (.iload 12, 2) := by decide +kernel
theorem dL_reads_197 : decode cL_reads 197 = .ok (.aload 6, 2) := by decide +kernel
theorem dL_reads_199 : decode cL_reads 199 = .ok (.iload 11, 2) := by decide +kernel
theorem dL_reads_201 : decode cL_reads 201 = .ok (.iaload, 1) := by decide +kernel
theorem dL_reads_202 : decode cL_reads 202 = .ok (.aload 6, 2) := by decide +kernel
theorem dL_reads_204 : decode cL_reads 204 = .ok (.iload 12, 2) := by decide +kernel
theorem dL_reads_206 : decode cL_reads 206 = .ok (.iaload, 1) := by decide +kernel
theorem dL_reads_207 : decode cL_reads 207 = .ok (.imul, 1) := by decide +kernel
theorem dL_reads_208 : decode cL_reads 208 = .ok (.iastore, 1) := by decide +kernel
theorem dL_reads_209 : decode cL_reads 209 = .ok (.goto 42, 3) := by decide +kernel
theorem dL_reads_212 : decode cL_reads 212 = .ok (.aload 4, 2) := by decide +kernel
theorem dL_reads_214 : decode cL_reads 214 = .ok (.iload 12, 2) := by decide +kernel
theorem dL_reads_216 : decode cL_reads 216 = .ok (.dup2, 1) := by decide +kernel
theorem dL_reads_217 : decode cL_reads 217 = .ok (.iaload, 1) := by decide +kernel
theorem dL_reads_218 : decode cL_reads 218 = .ok (.aload 4, 2) := by decide +kernel
theorem dL_reads_220 : decode cL_reads 220 = .ok (.iload 11, 2) := by decide +kernel
theorem dL_reads_222 : decode cL_reads 222 = .ok (.iaload, 1) := by decide +kernel
theorem dL_reads_223 : decode cL_reads 223 = .ok (.ior, 1) := by decide +kernel
theorem dL_reads_224 : decode cL_reads 224 = .ok (.iastore, 1) := by decide +kernel
theorem dL_reads_225 : decode cL_reads 225 = .ok (.aload 5, 2) := by decide +kernel
theorem dL_reads_227 : decode cL_reads 227 = .ok (.iload 12, 2) := by decide +kernel
theorem dL_reads_229 : decode cL_reads 229 = .ok (.dup2, 1) := by decide +kernel
theorem dL_reads_230 : decode cL_reads 230 = .ok (.iaload, 1) := by decide +kernel
theorem dL_reads_231 : decode cL_reads 231 = .ok (.aload 5, 2) := by decide +kernel
theorem dL_reads_233 : decode cL_reads 233 = .ok (.iload 11, 2) := by decide +kernel
theorem dL_reads_235 : decode cL_reads 235 = .ok (.iaload, 1) := by decide +kernel
theorem dL_reads_236 : decode cL_reads 236 = .ok (.ior, 1) := by decide +kernel
theorem dL_reads_237 : decode cL_reads 237 = .ok (.iastore, 1) := by decide +kernel
theorem dL_reads_238 : decode cL_reads 238 = .ok (.aload 6, 2) := by decide +kernel
theorem dL_reads_240 : decode cL_reads 240 = .ok (.iload 12, 2) := by decide +kernel
theorem dL_reads_242 : decode cL_reads 242 = .ok (.dup2, 1) := by decide +kernel
theorem dL_reads_243 : decode cL_reads 243 = .ok (.iaload, 1) := by decide +kernel
theorem dL_reads_244 : decode cL_reads 244 = .ok (.aload 6, 2) := by decide +kernel
theorem dL_reads_246 : decode cL_reads 246 = .ok (.iload 11, 2) := by decide +kernel
theorem dL_reads_248 : decode cL_reads 248 = .ok (.iaload, 1) := by decide +kernel
theorem dL_reads_249 : decode cL_reads 249 = .ok (.ior, 1) := by decide +kernel
theorem dL_reads_250 : decode cL_reads 250 = .ok (.iastore, 1) := by decide +kernel
theorem dL_reads_251 : decode cL_reads 251 = .ok (.iinc 7 (-1), 3) := by decide +kernel
theorem dL_reads_254 : decode cL_reads 254 = .ok (.goto 140, 3) := by decide +kernel
theorem dL_reads_257 : decode cL_reads 257 = .ok (.iload 10, 2) := by decide +kernel
theorem dL_reads_259 : decode cL_reads 259 = .ok (.bipush 42, 2) := by decide +kernel
theorem dL_reads_261 : decode cL_reads 261 = .ok (.if_icmp .eq 17, 3) := by decide +kernel
theorem dL_reads_264 : decode cL_reads 264 = .ok (.iload 10, 2) := by decide +kernel
theorem dL_reads_266 : decode cL_reads 266 = .ok (.bipush 43, 2) := by decide +kernel
theorem dL_reads_268 : decode cL_reads 268 = .ok (.if_icmp .eq 10, 3) := by decide +kernel
theorem dL_reads_271 : decode cL_reads 271 = .ok (.iload 10, 2) := by decide +kernel
theorem dL_reads_273 : decode cL_reads 273 = .ok (.bipush 63, 2) := by decide +kernel
theorem dL_reads_275 : decode cL_reads 275 = .ok (.if_icmp .ne 89, 3) := by decide +kernel
theorem dL_reads_278 : decode cL_reads 278 = .ok (.iload_n 3, 1) := by decide +kernel
theorem dL_reads_279 : decode cL_reads 279 = .ok (.istore 11, 2) := by decide +kernel
theorem dL_reads_281 : decode cL_reads 281 = .ok (.iload 11, 2) := by decide +kernel
theorem dL_reads_283 : decode cL_reads 283 = .ok (.aload_n 0, 1) := by decide +kernel
theorem dL_reads_284 : decode cL_reads 284 = .ok (.iconst 1, 1) := by decide +kernel
theorem dL_reads_285 : decode cL_reads 285 = .ok (.iaload, 1) := by decide +kernel
theorem dL_reads_286 : decode cL_reads 286 = .ok (.if_icmp .ge 53, 3) := by decide +kernel
theorem dL_reads_289 : decode cL_reads 289 = .ok (.iload 10, 2) := by decide +kernel
theorem dL_reads_291 : decode cL_reads 291 = .ok (.bipush 63, 2) := by decide +kernel
theorem dL_reads_293 : decode cL_reads 293 = .ok (.if_icmp .eq 46, 3) := by decide +kernel
theorem dL_reads_296 : decode cL_reads 296 = .ok (.aload_n 0, 1) := by decide +kernel
theorem dL_reads_297 : decode cL_reads 297 = .ok (.bipush 14, 2) := by decide +kernel
theorem dL_reads_299 : decode cL_reads 299 = .ok (.iload 11, 2) := by decide +kernel
theorem dL_reads_301 : decode cL_reads 301 = .ok (.iadd, 1) := by decide +kernel
theorem dL_reads_302 : decode cL_reads 302 = .ok (.dup2, 1) := by decide +kernel
theorem dL_reads_303 : decode cL_reads 303 = .ok (.iaload, 1) := by decide +kernel
theorem dL_reads_304 : decode cL_reads 304 = .ok (.aload 5, 2) := by decide +kernel
theorem dL_reads_306 : decode cL_reads 306 = .ok (.iload 7, 2) := by decide +kernel
theorem dL_reads_308 : decode cL_reads 308 = .ok (.iconst 1, 1) := by decide +kernel
theorem dL_reads_309 : decode cL_reads 309 = .ok (.isub, 1) := by decide +kernel
theorem dL_reads_310 : decode cL_reads 310 = .ok (.iaload, 1) := by decide +kernel
theorem dL_reads_311 : decode cL_reads 311 = .ok (.iload 11, 2) := by decide +kernel
theorem dL_reads_313 : decode cL_reads 313 = .ok (.ishr, 1) := by decide +kernel
theorem dL_reads_314 : decode cL_reads 314 = .ok (.iconst 1, 1) := by decide +kernel
theorem dL_reads_315 : decode cL_reads 315 = .ok (.iand, 1) := by decide +kernel
theorem dL_reads_316 : decode cL_reads 316 = .ok (.iconst 1, 1) := by decide +kernel
theorem dL_reads_317 : decode cL_reads 317 = .ok (.if_icmp .ne 13, 3) := by decide +kernel
theorem dL_reads_320 : decode cL_reads 320 = .ok (.aload 4, 2) := by decide +kernel
theorem dL_reads_322 : decode cL_reads 322 = .ok (.iload 7, 2) := by decide +kernel
theorem dL_reads_324 : decode cL_reads 324 = .ok (.iconst 1, 1) := by decide +kernel
theorem dL_reads_325 : decode cL_reads 325 = .ok (.isub, 1) := by decide +kernel
theorem dL_reads_326 : decode cL_reads 326 = .ok (.iaload, 1) := by decide +kernel
theorem dL_reads_327 : decode cL_reads 327 = .ok (.goto 4, 3) := by decide +kernel
theorem dL_reads_330 : decode cL_reads 330 = .ok (.iconst 0, 1) := by decide +kernel
theorem dL_reads_331 : decode cL_reads 331 = .ok (.ior, 1) := by decide +kernel
theorem dL_reads_332 : decode cL_reads 332 = .ok (.iastore, 1) := by decide +kernel
theorem dL_reads_333 : decode cL_reads 333 = .ok (.iinc 11 1, 3) := by decide +kernel
theorem dL_reads_336 : decode cL_reads 336 = .ok (.goto (-55), 3) := by decide +kernel
theorem dL_reads_339 : decode cL_reads 339 = .ok (.aload 6, 2) := by decide +kernel
theorem dL_reads_341 : decode cL_reads 341 = .ok (.iload 7, 2) := by decide +kernel
theorem dL_reads_343 : decode cL_reads 343 = .ok (.iconst 1, 1) := by decide +kernel
theorem dL_reads_344 : decode cL_reads 344 = .ok (.isub, 1) := by decide +kernel
theorem dL_reads_345 : decode cL_reads 345 = .ok (.dup2, 1) := by decide +kernel
theorem dL_reads_346 : decode cL_reads 346 = .ok (.iaload, 1) := by decide +kernel
theorem dL_reads_347 : decode cL_reads 347 = .ok (.iload 10, 2) := by decide +kernel
theorem dL_reads_349 : decode cL_reads 349 = .ok (.bipush 43, 2) := by decide +kernel
theorem dL_reads_351 : decode cL_reads 351 = .ok (.if_icmp .ne 7, 3) := by decide +kernel
theorem dL_reads_354 : decode cL_reads 354 = .ok (.iconst 0, 1) := by decide +kernel
theorem dL_reads_355 : decode cL_reads 355 = .ok (.goto 4, 3) := by decide +kernel
theorem dL_reads_358 : decode cL_reads 358 = .ok (.iconst 1, 1) := by decide +kernel
theorem dL_reads_359 : decode cL_reads 359 = .ok (.ior, 1) := by decide +kernel
theorem dL_reads_360 : decode cL_reads 360 = .ok (.iastore, 1) := by decide +kernel
theorem dL_reads_361 : decode cL_reads 361 = .ok (.goto 33, 3) := by decide +kernel
theorem dL_reads_364 : decode cL_reads 364 = .ok (.iinc 8 (-1), 3) := by decide +kernel
theorem dL_reads_367 : decode cL_reads 367 = .ok (.aload 4, 2) := by decide +kernel
theorem dL_reads_369 : decode cL_reads 369 = .ok (.iload 7, 2) := by decide +kernel
theorem dL_reads_371 : decode cL_reads 371 = .ok (.iconst 1, 1) := by decide +kernel
theorem dL_reads_372 : decode cL_reads 372 = .ok (.iload 8, 2) := by decide +kernel
theorem dL_reads_374 : decode cL_reads 374 = .ok (.ishl, 1) := by decide +kernel
theorem dL_reads_375 : decode cL_reads 375 = .ok (.iastore, 1) := by decide +kernel
theorem dL_reads_376 : decode cL_reads 376 = .ok (.aload 5, 2) := by decide +kernel
theorem dL_reads_378 : decode cL_reads 378 = .ok (.iload 7, 2) := by decide +kernel
theorem dL_reads_380 : decode cL_reads 380 = .ok (.iconst 1, 1) := by decide +kernel
theorem dL_reads_381 : decode cL_reads 381 = .ok (.iload 8, 2) := by decide +kernel
theorem dL_reads_383 : decode cL_reads 383 = .ok (.ishl, 1) := by decide +kernel
theorem dL_reads_384 : decode cL_reads 384 = .ok (.iastore, 1) := by decide +kernel
theorem dL_reads_385 : decode cL_reads 385 = .ok (.aload 6, 2) := by decide +kernel
theorem dL_reads_387 : decode cL_reads 387 = .ok (.iload 7, 2) := by decide +kernel
theorem dL_reads_389 : decode cL_reads 389 = .ok (.iconst 0, 1) := by decide +kernel
theorem dL_reads_390 : decode cL_reads 390 = .ok (.iastore, 1) := by decide +kernel
theorem dL_reads_391 : decode cL_reads 391 = .ok (.iinc 7 1, 3) := by decide +kernel
theorem dL_reads_394 : decode cL_reads 394 = .ok (.iinc 9 (-1), 3) := by decide +kernel
theorem dL_reads_397 : decode cL_reads 397 = .ok (.goto (-361), 3) := by decide +kernel
theorem dL_reads_400 : decode cL_reads 400 = .ok (.aload_n 0, 1) := by decide +kernel
theorem dL_reads_401 : decode cL_reads 401 = .ok (.iconst 2, 1) := by decide +kernel
theorem dL_reads_402 : decode cL_reads 402 = .ok (.iload_n 2, 1) := by decide +kernel
theorem dL_reads_403 : decode cL_reads 403 = .ok (.iadd, 1) := by decide +kernel
theorem dL_reads_404 : decode cL_reads 404 = .ok (.aload 4, 2) := by decide +kernel
theorem dL_reads_406 : decode cL_reads 406 = .ok (.iconst 0, 1) := by decide +kernel
theorem dL_reads_407 : decode cL_reads 407 = .ok (.iaload, 1) := by decide +kernel
theorem dL_reads_408 : decode cL_reads 408 = .ok (.iastore, 1) := by decide +kernel
theorem dL_reads_409 : decode cL_reads 409 = .ok (.aload_n 0, 1) := by decide +kernel
theorem dL_reads_410 : decode cL_reads 410 = .ok (.bipush 6, 2) := by decide +kernel
theorem dL_reads_412 : decode cL_reads 412 = .ok (.iload_n 2, 1) := by decide +kernel
theorem dL_reads_413 : decode cL_reads 413 = .ok (.iadd, 1) := by decide +kernel
theorem dL_reads_414 : decode cL_reads 414 = .ok (.aload 5, 2) := by decide +kernel
theorem dL_reads_416 : decode cL_reads 416 = .ok (.iconst 0, 1) := by decide +kernel
theorem dL_reads_417 : decode cL_reads 417 = .ok (.iaload, 1) := by decide +kernel
theorem dL_reads_418 : decode cL_reads 418 = .ok (.iastore, 1) := by decide +kernel
theorem dL_reads_419 : decode cL_reads 419 = .ok (.aload_n 0, 1) := by decide +kernel
theorem dL_reads_420 : decode cL_reads 420 = .ok (.bipush 10, 2) := by decide +kernel
theorem dL_reads_422 : decode cL_reads 422 = .ok (.iload_n 2, 1) := by decide +kernel
theorem dL_reads_423 : decode cL_reads 423 = .ok (.iadd, 1) := by decide +kernel
theorem dL_reads_424 : decode cL_reads 424 = .ok (.iconst 1, 1) := by decide +kernel
theorem dL_reads_425 : decode cL_reads 425 = .ok (.aload_n 0, 1) := by decide +kernel
theorem dL_reads_426 : decode cL_reads 426 = .ok (.iconst 1, 1) := by decide +kernel
theorem dL_reads_427 : decode cL_reads 427 = .ok (.iaload, 1) := by decide +kernel
theorem dL_reads_428 : decode cL_reads 428 = .ok (.ishl, 1) := by decide +kernel
theorem dL_reads_429 : decode cL_reads 429 = .ok (.iconst 1, 1) := by decide +kernel
theorem dL_reads_430 : decode cL_reads 430 = .ok (.iload_n 3, 1) := by decide +kernel
theorem dL_reads_431 : decode cL_reads 431 = .ok (.ishl, 1) := by decide +kernel
theorem dL_reads_432 : decode cL_reads 432 = .ok (.isub, 1) := by decide +kernel
theorem dL_reads_433 : decode cL_reads 433 = .ok (.iastore, 1) := by decide +kernel
theorem dL_reads_434 : decode cL_reads 434 = .ok (.return_, 1) := by decide +kernel
theorem dL_lays_0 : decode cL_lays 0 = .ok (.aload_n 0, 1) := by decide +kernel
theorem dL_lays_1 : decode cL_lays 1 = .ok (.invokevirtual 31, 3) := by decide +kernel
theorem dL_lays_4 : decode cL_lays 4 = .ok (.istore 4, 2) := by decide +kernel
theorem dL_lays_6 : decode cL_lays 6 = .ok (.iconst 1, 1) := by decide +kernel
theorem dL_lays_7 : decode cL_lays 7 = .ok (.istore 5, 2) := by decide +kernel
theorem dL_lays_9 : decode cL_lays 9 = .ok (.iload 5, 2) := by decide +kernel
theorem dL_lays_11 : decode cL_lays 11 = .ok (.bipush 6, 2) := by decide +kernel
theorem dL_lays_13 : decode cL_lays 13 = .ok (.if_icmp .ge 101, 3) := by decide +kernel
theorem dL_lays_16 : decode cL_lays 16 = .ok (.iconst 0, 1) := by decide +kernel
theorem dL_lays_17 : decode cL_lays 17 = .ok (.istore 6, 2) := by decide +kernel
theorem dL_lays_19 : decode cL_lays 19 = .ok (.iconst 0, 1) := by decide +kernel
theorem dL_lays_20 : decode cL_lays 20 = .ok (.istore 7, 2) := by decide +kernel
theorem dL_lays_22 : decode cL_lays 22 = .ok (.iload 7, 2) := by decide +kernel
theorem dL_lays_24 : decode cL_lays 24 = .ok (.bipush 26, 2) := by decide +kernel
theorem dL_lays_26 : decode cL_lays 26 = .ok (.if_icmp .ge 64, 3) := by decide +kernel
theorem dL_lays_29 : decode cL_lays 29 = .ok (.aload_n 3, 1) := by decide +kernel
theorem dL_lays_30 : decode cL_lays 30 = .ok (.iload 7, 2) := by decide +kernel
theorem dL_lays_32 : decode cL_lays 32 = .ok (.iaload, 1) := by decide +kernel
theorem dL_lays_33 : decode cL_lays 33 = .ok (.iload 5, 2) := by decide +kernel
theorem dL_lays_35 : decode cL_lays 35 = .ok (.if_icmp .ne 49, 3) := by decide +kernel
theorem dL_lays_38 : decode cL_lays 38 = .ok (.iload 6, 2) := by decide +kernel
theorem dL_lays_40 : decode cL_lays 40 = .ok (.ifCond .ne 30, 3) := by decide +kernel
theorem dL_lays_43 : decode cL_lays 43 = .ok (.aload_n 0, 1) := by decide +kernel

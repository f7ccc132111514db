theorem dL_lays_44 : decode cL_lays 44 = .ok (.bipush 99, 2) := by decide +kernel
theorem dL_lays_46 : decode cL_lays 46 = .ok (.invokevirtual 37, 3) := by decide +kernel
theorem dL_lays_49 : decode cL_lays 49 = .ok (.istore 4, 2) := by decide +kernel
theorem dL_lays_51 : decode cL_lays 51 = .ok (.aload_n 0, 1) := by decide +kernel
theorem dL_lays_52 : decode cL_lays 52 = .ok (.bipush 48, 2) := by decide +kernel
theorem dL_lays_54 : decode cL_lays 54 = .ok (.iload 5, 2) := by decide +kernel
theorem dL_lays_56 : decode cL_lays 56 = .ok (.iadd, 1) := by decide +kernel
theorem dL_lays_57 : decode cL_lays 57 = .ok (.invokevirtual 37, 3) := by decide +kernel
theorem dL_lays_60 : decode cL_lays 60 = .ok (.istore 4, 2) := by decide +kernel
theorem dL_lays_62 : decode cL_lays 62 = .ok (.aload_n 0, 1) := by decide +kernel
theorem dL_lays_63 : decode cL_lays 63 = .ok (.bipush 44, 2) := by decide +kernel
theorem dL_lays_65 : decode cL_lays 65 = .ok (.invokevirtual 37, 3) := by decide +kernel
theorem dL_lays_68 : decode cL_lays 68 = .ok (.istore 4, 2) := by decide +kernel
theorem dL_lays_70 : decode cL_lays 70 = .ok (.iconst 1, 1) := by decide +kernel
theorem dL_lays_71 : decode cL_lays 71 = .ok (.istore 6, 2) := by decide +kernel
theorem dL_lays_73 : decode cL_lays 73 = .ok (.aload_n 0, 1) := by decide +kernel
theorem dL_lays_74 : decode cL_lays 74 = .ok (.bipush 97, 2) := by decide +kernel
theorem dL_lays_76 : decode cL_lays 76 = .ok (.iload 7, 2) := by decide +kernel
theorem dL_lays_78 : decode cL_lays 78 = .ok (.iadd, 1) := by decide +kernel
theorem dL_lays_79 : decode cL_lays 79 = .ok (.invokevirtual 37, 3) := by decide +kernel
theorem dL_lays_82 : decode cL_lays 82 = .ok (.istore 4, 2) := by decide +kernel
theorem dL_lays_84 : decode cL_lays 84 = .ok (.iinc 7 1, 3) := by decide +kernel
theorem dL_lays_87 : decode cL_lays 87 = .ok (.goto (-65), 3) := by decide +kernel
theorem dL_lays_90 : decode cL_lays 90 = .ok (.iload 6, 2) := by decide +kernel
theorem dL_lays_92 : decode cL_lays 92 = .ok (.ifCond .eq 12, 3) := by decide +kernel
theorem dL_lays_95 : decode cL_lays 95 = .ok (.aload_n 0, 1) := by decide +kernel
theorem dL_lays_96 : decode cL_lays 96 = .ok (.bipush 59, 2) := by decide +kernel
theorem dL_lays_98 : decode cL_lays 98 = .ok (.invokevirtual 37, 3) := by decide +kernel
theorem dL_lays_101 : decode cL_lays 101 = .ok (.goto 5, 3) := by decide +kernel
theorem dL_lays_104 : decode cL_lays 104 = .ok (.iload 4, 2) := by decide +kernel
theorem dL_lays_106 : decode cL_lays 106 = .ok (.istore 4, 2) := by decide +kernel
theorem dL_lays_108 : decode cL_lays 108 = .ok (.iinc 5 1, 3) := by decide +kernel
theorem dL_lays_111 : decode cL_lays 111 = .ok (.goto (-102), 3) := by decide +kernel
theorem dL_lays_114 : decode cL_lays 114 = .ok (.iconst 0, 1) := by decide +kernel
theorem dL_lays_115 : decode cL_lays 115 = .ok (.istore 5, 2) := by decide +kernel
theorem dL_lays_117 : decode cL_lays 117 = .ok (.iload 5, 2) := by decide +kernel
theorem dL_lays_119 : decode cL_lays 119 = .ok (.aload_n 1, 1) := by decide +kernel
theorem dL_lays_120 : decode cL_lays 120 = .ok (.iconst 0, 1) := by decide +kernel
theorem dL_lays_121 : decode cL_lays 121 = .ok (.iaload, 1) := by decide +kernel
theorem dL_lays_122 : decode cL_lays 122 = .ok (.if_icmp .ge 86, 3) := by decide +kernel
theorem dL_lays_125 : decode cL_lays 125 = .ok (.aload_n 0, 1) := by decide +kernel
theorem dL_lays_126 : decode cL_lays 126 = .ok (.bipush 114, 2) := by decide +kernel
theorem dL_lays_128 : decode cL_lays 128 = .ok (.invokevirtual 37, 3) := by decide +kernel
theorem dL_lays_131 : decode cL_lays 131 = .ok (.istore 4, 2) := by decide +kernel
theorem dL_lays_133 : decode cL_lays 133 = .ok (.aload_n 0, 1) := by decide +kernel
theorem dL_lays_134 : decode cL_lays 134 = .ok (.bipush 48, 2) := by decide +kernel
theorem dL_lays_136 : decode cL_lays 136 = .ok (.aload_n 3, 1) := by decide +kernel
theorem dL_lays_137 : decode cL_lays 137 = .ok (.bipush 26, 2) := by decide +kernel
theorem dL_lays_139 : decode cL_lays 139 = .ok (.iload 5, 2) := by decide +kernel
theorem dL_lays_141 : decode cL_lays 141 = .ok (.iadd, 1) := by decide +kernel
theorem dL_lays_142 : decode cL_lays 142 = .ok (.iaload, 1) := by decide +kernel
theorem dL_lays_143 : decode cL_lays 143 = .ok (.iadd, 1) := by decide +kernel
theorem dL_lays_144 : decode cL_lays 144 = .ok (.invokevirtual 37, 3) := by decide +kernel
theorem dL_lays_147 : decode cL_lays 147 = .ok (.istore 4, 2) := by decide +kernel
theorem dL_lays_149 : decode cL_lays 149 = .ok (.aload_n 0, 1) := by decide +kernel
theorem dL_lays_150 : decode cL_lays 150 = .ok (.bipush 44, 2) := by decide +kernel
theorem dL_lays_152 : decode cL_lays 152 = .ok (.invokevirtual 37, 3) := by decide +kernel
theorem dL_lays_155 : decode cL_lays 155 = .ok (.istore 4, 2) := by decide +kernel
theorem dL_lays_157 : decode cL_lays 157 = .ok (.iconst 0, 1) := by decide +kernel
theorem dL_lays_158 : decode cL_lays 158 = .ok (.istore 6, 2) := by decide +kernel
theorem dL_lays_160 : decode cL_lays 160 = .ok (.iload 6, 2) := by decide +kernel
theorem dL_lays_162 : decode cL_lays 162 = .ok (.aload_n 1, 1) := by decide +kernel
theorem dL_lays_163 : decode cL_lays 163 = .ok (.bipush 34, 2) := by decide +kernel
theorem dL_lays_165 : decode cL_lays 165 = .ok (.iload 5, 2) := by decide +kernel
theorem dL_lays_167 : decode cL_lays 167 = .ok (.iadd, 1) := by decide +kernel
theorem dL_lays_168 : decode cL_lays 168 = .ok (.iaload, 1) := by decide +kernel
theorem dL_lays_169 : decode cL_lays 169 = .ok (.if_icmp .ge 25, 3) := by decide +kernel
theorem dL_lays_172 : decode cL_lays 172 = .ok (.aload_n 0, 1) := by decide +kernel
theorem dL_lays_173 : decode cL_lays 173 = .ok (.aload_n 2, 1) := by decide +kernel
theorem dL_lays_174 : decode cL_lays 174 = .ok (.bipush 16, 2) := by decide +kernel
theorem dL_lays_176 : decode cL_lays 176 = .ok (.iload 5, 2) := by decide +kernel
theorem dL_lays_178 : decode cL_lays 178 = .ok (.imul, 1) := by decide +kernel
theorem dL_lays_179 : decode cL_lays 179 = .ok (.iload 6, 2) := by decide +kernel
theorem dL_lays_181 : decode cL_lays 181 = .ok (.iadd, 1) := by decide +kernel
theorem dL_lays_182 : decode cL_lays 182 = .ok (.iaload, 1) := by decide +kernel
theorem dL_lays_183 : decode cL_lays 183 = .ok (.invokevirtual 37, 3) := by decide +kernel
theorem dL_lays_186 : decode cL_lays 186 = .ok (.istore 4, 2) := by decide +kernel
theorem dL_lays_188 : decode cL_lays 188 = .ok (.iinc 6 1, 3) := by decide +kernel
theorem dL_lays_191 : decode cL_lays 191 = .ok (.goto (-31), 3) := by decide +kernel
theorem dL_lays_194 : decode cL_lays 194 = .ok (.aload_n 0, 1) := by decide +kernel
theorem dL_lays_195 : decode cL_lays 195 = .ok (.bipush 59, 2) := by decide +kernel
theorem dL_lays_197 : decode cL_lays 197 = .ok (.invokevirtual 37, 3) := by decide +kernel
theorem dL_lays_200 : decode cL_lays 200 = .ok (.istore 4, 2) := by decide +kernel
theorem dL_lays_202 : decode cL_lays 202 = .ok (.iinc 5 1, 3) := by decide +kernel
theorem dL_lays_205 : decode cL_lays 205 = .ok (.goto (-88), 3) := by decide +kernel
theorem dL_lays_208 : decode cL_lays 208 = .ok (.aload_n 0, 1) := by decide +kernel
theorem dL_lays_209 : decode cL_lays 209 = .ok (.bipush 115, 2) := by decide +kernel
theorem dL_lays_211 : decode cL_lays 211 = .ok (.invokevirtual 37, 3) := by decide +kernel
theorem dL_lays_214 : decode cL_lays 214 = .ok (.istore 4, 2) := by decide +kernel
theorem dL_lays_216 : decode cL_lays 216 = .ok (.iconst 0, 1) := by decide +kernel
theorem dL_lays_217 : decode cL_lays 217 = .ok (.istore 5, 2) := by decide +kernel
theorem dL_lays_219 : decode cL_lays 219 = .ok (.iload 5, 2) := by decide +kernel
theorem dL_lays_221 : decode cL_lays 221 = .ok (.aload_n 3, 1) := by decide +kernel
theorem dL_lays_222 : decode cL_lays 222 = .ok (.bipush 30, 2) := by decide +kernel
theorem dL_lays_224 : decode cL_lays 224 = .ok (.iaload, 1) := by decide +kernel
theorem dL_lays_225 : decode cL_lays 225 = .ok (.if_icmp .ge 25, 3) := by decide +kernel
theorem dL_lays_228 : decode cL_lays 228 = .ok (.aload_n 0, 1) := by decide +kernel
theorem dL_lays_229 : decode cL_lays 229 = .ok (.bipush 97, 2) := by decide +kernel
theorem dL_lays_231 : decode cL_lays 231 = .ok (.aload_n 3, 1) := by decide +kernel
theorem dL_lays_232 : decode cL_lays 232 = .ok (.bipush 31, 2) := by decide +kernel
theorem dL_lays_234 : decode cL_lays 234 = .ok (.iload 5, 2) := by decide +kernel
theorem dL_lays_236 : decode cL_lays 236 = .ok (.iadd, 1) := by decide +kernel
theorem dL_lays_237 : decode cL_lays 237 = .ok (.iaload, 1) := by decide +kernel
theorem dL_lays_238 : decode cL_lays 238 = .ok (.iadd, 1) := by decide +kernel
theorem dL_lays_239 : decode cL_lays 239 = .ok (.invokevirtual 37, 3) := by decide +kernel
theorem dL_lays_242 : decode cL_lays 242 = .ok (.istore 4, 2) := by decide +kernel
theorem dL_lays_244 : decode cL_lays 244 = .ok (.iinc 5 1, 3) := by decide +kernel
theorem dL_lays_247 : decode cL_lays 247 = .ok (.goto (-28), 3) := by decide +kernel
theorem dL_lays_250 : decode cL_lays 250 = .ok (.aload_n 0, 1) := by decide +kernel
theorem dL_lays_251 : decode cL_lays 251 = .ok (.bipush 59, 2) := by decide +kernel
theorem dL_lays_253 : decode cL_lays 253 = .ok (.invokevirtual 37, 3) := by decide +kernel
theorem dL_lays_256 : decode cL_lays 256 = .ok (.istore 4, 2) := by decide +kernel
theorem dL_lays_258 : decode cL_lays 258 = .ok (.aload_n 0, 1) := by decide +kernel
theorem dL_lays_259 : decode cL_lays 259 = .ok (.invokevirtual 40, 3) := by decide +kernel
theorem dL_lays_262 : decode cL_lays 262 = .ok (.ireturn, 1) := by decide +kernel
theorem dL_into_0 : decode cL_into 0 = .ok (.iconst 0, 1) := by decide +kernel
theorem dL_into_1 : decode cL_into 1 = .ok (.istore_n 2, 1) := by decide +kernel
theorem dL_into_2 : decode cL_into 2 = .ok (.iload_n 2, 1) := by decide +kernel
theorem dL_into_3 : decode cL_into 3 = .ok (.bipush 61, 2) := by decide +kernel
theorem dL_into_5 : decode cL_into 5 = .ok (.if_icmp .ge 15, 3) := by decide +kernel
theorem dL_into_8 : decode cL_into 8 = .ok (.aload_n 1, 1) := by decide +kernel
theorem dL_into_9 : decode cL_into 9 = .ok (.iload_n 2, 1) := by decide +kernel
theorem dL_into_10 : decode cL_into 10 = .ok (.aload_n 0, 1) := by decide +kernel
theorem dL_into_11 : decode cL_into 11 = .ok (.iload_n 2, 1) := by decide +kernel
theorem dL_into_12 : decode cL_into 12 = .ok (.iaload, 1) := by decide +kernel
theorem dL_into_13 : decode cL_into 13 = .ok (.iastore, 1) := by decide +kernel
theorem dL_into_14 : decode cL_into 14 = .ok (.iinc 2 1, 3) := by decide +kernel
theorem dL_into_17 : decode cL_into 17 = .ok (.goto (-15), 3) := by decide +kernel
theorem dL_into_20 : decode cL_into 20 = .ok (.return_, 1) := by decide +kernel
theorem dL_taking_0 : decode cL_taking 0 = .ok (.iconst 0, 1) := by decide +kernel
theorem dL_taking_1 : decode cL_taking 1 = .ok (.istore_n 3, 1) := by decide +kernel
theorem dL_taking_2 : decode cL_taking 2 = .ok (.iconst 0, 1) := by decide +kernel
theorem dL_taking_3 : decode cL_taking 3 = .ok (.istore 4, 2) := by decide +kernel
theorem dL_taking_5 : decode cL_taking 5 = .ok (.iload 4, 2) := by decide +kernel
theorem dL_taking_7 : decode cL_taking 7 = .ok (.aload_n 0, 1) := by decide +kernel
theorem dL_taking_8 : decode cL_taking 8 = .ok (.iconst 1, 1) := by decide +kernel
theorem dL_taking_9 : decode cL_taking 9 = .ok (.iaload, 1) := by decide +kernel
theorem dL_taking_10 : decode cL_taking 10 = .ok (.if_icmp .ge 53, 3) := by decide +kernel
theorem dL_taking_13 : decode cL_taking 13 = .ok (.iload_n 3, 1) := by decide +kernel
theorem dL_taking_14 : decode cL_taking 14 = .ok (.iload_n 1, 1) := by decide +kernel
theorem dL_taking_15 : decode cL_taking 15 = .ok (.iload 4, 2) := by decide +kernel
theorem dL_taking_17 : decode cL_taking 17 = .ok (.ishr, 1) := by decide +kernel
theorem dL_taking_18 : decode cL_taking 18 = .ok (.iconst 1, 1) := by decide +kernel
theorem dL_taking_19 : decode cL_taking 19 = .ok (.iand, 1) := by decide +kernel
theorem dL_taking_20 : decode cL_taking 20 = .ok (.iconst 1, 1) := by decide +kernel
theorem dL_taking_21 : decode cL_taking 21 = .ok (.if_icmp .ne 33, 3) := by decide +kernel
theorem dL_taking_24 : decode cL_taking 24 = .ok (.aload_n 0, 1) := by decide +kernel
theorem dL_taking_25 : decode cL_taking 25 = .ok (.bipush 24, 2) := by decide +kernel
theorem dL_taking_27 : decode cL_taking 27 = .ok (.iload 4, 2) := by decide +kernel
theorem dL_taking_29 : decode cL_taking 29 = .ok (.iadd, 1) := by decide +kernel
theorem dL_taking_30 : decode cL_taking 30 = .ok (.iaload, 1) := by decide +kernel
theorem dL_taking_31 : decode cL_taking 31 = .ok (.bipush 6, 2) := by decide +kernel
theorem dL_taking_33 : decode cL_taking 33 = .ok (.if_icmp .eq 14, 3) := by decide +kernel
theorem dL_taking_36 : decode cL_taking 36 = .ok (.aload_n 0, 1) := by decide +kernel
theorem dL_taking_37 : decode cL_taking 37 = .ok (.bipush 24, 2) := by decide +kernel
theorem dL_taking_39 : decode cL_taking 39 = .ok (.iload 4, 2) := by decide +kernel
theorem dL_taking_41 : decode cL_taking 41 = .ok (.iadd, 1) := by decide +kernel
theorem dL_taking_42 : decode cL_taking 42 = .ok (.iaload, 1) := by decide +kernel
theorem dL_taking_43 : decode cL_taking 43 = .ok (.iload_n 2, 1) := by decide +kernel
theorem dL_taking_44 : decode cL_taking 44 = .ok (.if_icmp .ne 10, 3) := by decide +kernel
theorem dL_taking_47 : decode cL_taking 47 = .ok (.iconst 1, 1) := by decide +kernel
theorem dL_taking_48 : decode cL_taking 48 = .ok (.iload 4, 2) := by decide +kernel
theorem dL_taking_50 : decode cL_taking 50 = .ok (.ishl, 1) := by decide +kernel
theorem dL_taking_51 : decode cL_taking 51 = .ok (.goto 4, 3) := by decide +kernel
theorem dL_taking_54 : decode cL_taking 54 = .ok (.iconst 0, 1) := by decide +kernel
theorem dL_taking_55 : decode cL_taking 55 = .ok (.ior, 1) := by decide +kernel
theorem dL_taking_56 : decode cL_taking 56 = .ok (.istore_n 3, 1) := by decide +kernel
theorem dL_taking_57 : decode cL_taking 57 = .ok (.iinc 4 1, 3) := by decide +kernel
theorem dL_taking_60 : decode cL_taking 60 = .ok (.goto (-55), 3) := by decide +kernel
theorem dL_taking_63 : decode cL_taking 63 = .ok (.iload_n 3, 1) := by decide +kernel
theorem dL_taking_64 : decode cL_taking 64 = .ok (.ireturn, 1) := by decide +kernel
theorem dL_begun_0 : decode cL_begun 0 = .ok (.iconst 0, 1) := by decide +kernel
theorem dL_begun_1 : decode cL_begun 1 = .ok (.istore_n 3, 1) := by decide +kernel
theorem dL_begun_2 : decode cL_begun 2 = .ok (.iconst 0, 1) := by decide +kernel
theorem dL_begun_3 : decode cL_begun 3 = .ok (.istore 4, 2) := by decide +kernel
theorem dL_begun_5 : decode cL_begun 5 = .ok (.iload 4, 2) := by decide +kernel
theorem dL_begun_7 : decode cL_begun 7 = .ok (.aload_n 0, 1) := by decide +kernel
theorem dL_begun_8 : decode cL_begun 8 = .ok (.iconst 0, 1) := by decide +kernel
theorem dL_begun_9 : decode cL_begun 9 = .ok (.iaload, 1) := by decide +kernel
theorem dL_begun_10 : decode cL_begun 10 = .ok (.if_icmp .ge 32, 3) := by decide +kernel
theorem dL_begun_13 : decode cL_begun 13 = .ok (.iload_n 3, 1) := by decide +kernel
theorem dL_begun_14 : decode cL_begun 14 = .ok (.iload_n 2, 1) := by decide +kernel
theorem dL_begun_15 : decode cL_begun 15 = .ok (.iload 4, 2) := by decide +kernel
theorem dL_begun_17 : decode cL_begun 17 = .ok (.ishr, 1) := by decide +kernel
theorem dL_begun_18 : decode cL_begun 18 = .ok (.iconst 1, 1) := by decide +kernel
theorem dL_begun_19 : decode cL_begun 19 = .ok (.iand, 1) := by decide +kernel
theorem dL_begun_20 : decode cL_begun 20 = .ok (.iconst 1, 1) := by decide +kernel
theorem dL_begun_21 : decode cL_begun 21 = .ok (.if_icmp .ne 7, 3) := by decide +kernel
theorem dL_begun_24 : decode cL_begun 24 = .ok (.iconst 0, 1) := by decide +kernel
theorem dL_begun_25 : decode cL_begun 25 = .ok (.goto 9, 3) := by decide +kernel
theorem dL_begun_28 : decode cL_begun 28 = .ok (.aload_n 0, 1) := by decide +kernel
theorem dL_begun_29 : decode cL_begun 29 = .ok (.iconst 2, 1) := by decide +kernel
theorem dL_begun_30 : decode cL_begun 30 = .ok (.iload 4, 2) := by decide +kernel
theorem dL_begun_32 : decode cL_begun 32 = .ok (.iadd, 1) := by decide +kernel
theorem dL_begun_33 : decode cL_begun 33 = .ok (.iaload, 1) := by decide +kernel
theorem dL_begun_34 : decode cL_begun 34 = .ok (.ior, 1) := by decide +kernel
theorem dL_begun_35 : decode cL_begun 35 = .ok (.istore_n 3, 1) := by decide +kernel
theorem dL_begun_36 : decode cL_begun 36 = .ok (.iinc 4 1, 3) := by decide +kernel
theorem dL_begun_39 : decode cL_begun 39 = .ok (.goto (-34), 3) := by decide +kernel
theorem dL_begun_42 : decode cL_begun 42 = .ok (.aload_n 0, 1) := by decide +kernel
theorem dL_begun_43 : decode cL_begun 43 = .ok (.iload_n 3, 1) := by decide +kernel
theorem dL_begun_44 : decode cL_begun 44 = .ok (.iload_n 1, 1) := by decide +kernel
theorem dL_begun_45 : decode cL_begun 45 = .ok (.invokestatic 43, 3) := by decide +kernel
theorem dL_begun_48 : decode cL_begun 48 = .ok (.ireturn, 1) := by decide +kernel
theorem dL_goes_0 : decode cL_goes 0 = .ok (.iconst 0, 1) := by decide +kernel
theorem dL_goes_1 : decode cL_goes 1 = .ok (.istore 4, 2) := by decide +kernel
theorem dL_goes_3 : decode cL_goes 3 = .ok (.iconst 0, 1) := by decide +kernel
theorem dL_goes_4 : decode cL_goes 4 = .ok (.istore 5, 2) := by decide +kernel
theorem dL_goes_6 : decode cL_goes 6 = .ok (.iload 5, 2) := by decide +kernel
theorem dL_goes_8 : decode cL_goes 8 = .ok (.aload_n 0, 1) := by decide +kernel
theorem dL_goes_9 : decode cL_goes 9 = .ok (.iconst 1, 1) := by decide +kernel
theorem dL_goes_10 : decode cL_goes 10 = .ok (.iaload, 1) := by decide +kernel
theorem dL_goes_11 : decode cL_goes 11 = .ok (.if_icmp .ge 143, 3) := by decide +kernel
theorem dL_goes_14 : decode cL_goes 14 = .ok (.iload_n 2, 1) := by decide +kernel
theorem dL_goes_15 : decode cL_goes 15 = .ok (.iload 5, 2) := by decide +kernel
theorem dL_goes_17 : decode cL_goes 17 = .ok (.ishr, 1) := by decide +kernel
theorem dL_goes_18 : decode cL_goes 18 = .ok (.iconst 1, 1) := by decide +kernel
theorem dL_goes_19 : decode cL_goes 19 = .ok (.iand, 1) := by decide +kernel
theorem dL_goes_20 : decode cL_goes 20 = .ok (.iconst 1, 1) := by decide +kernel
theorem dL_goes_21 : decode cL_goes 21 = .ok (.if_icmp .ne 127, 3) := by decide +kernel
theorem dL_goes_24 : decode cL_goes 24 = .ok (.iconst 0, 1) := by decide +kernel
theorem dL_goes_25 : decode cL_goes 25 = .ok (.istore 6, 2) := by decide +kernel
theorem dL_goes_27 : decode cL_goes 27 = .ok (.aload_n 0, 1) := by decide +kernel
theorem dL_goes_28 : decode cL_goes 28 = .ok (.bipush 10, 2) := by decide +kernel
theorem dL_goes_30 : decode cL_goes 30 = .ok (.iload 6, 2) := by decide +kernel
theorem dL_goes_32 : decode cL_goes 32 = .ok (.iadd, 1) := by decide +kernel
theorem dL_goes_33 : decode cL_goes 33 = .ok (.iaload, 1) := by decide +kernel
theorem dL_goes_34 : decode cL_goes 34 = .ok (.iload 5, 2) := by decide +kernel
theorem dL_goes_36 : decode cL_goes 36 = .ok (.ishr, 1) := by decide +kernel
theorem dL_goes_37 : decode cL_goes 37 = .ok (.iconst 1, 1) := by decide +kernel
theorem dL_goes_38 : decode cL_goes 38 = .ok (.iand, 1) := by decide +kernel
theorem dL_goes_39 : decode cL_goes 39 = .ok (.ifCond .ne 9, 3) := by decide +kernel
theorem dL_goes_42 : decode cL_goes 42 = .ok (.iinc 6 1, 3) := by decide +kernel
theorem dL_goes_45 : decode cL_goes 45 = .ok (.goto (-18), 3) := by decide +kernel
theorem dL_goes_48 : decode cL_goes 48 = .ok (.aload_n 1, 1) := by decide +kernel
theorem dL_goes_49 : decode cL_goes 49 = .ok (.bipush 26, 2) := by decide +kernel
theorem dL_goes_51 : decode cL_goes 51 = .ok (.iload 6, 2) := by decide +kernel
theorem dL_goes_53 : decode cL_goes 53 = .ok (.iadd, 1) := by decide +kernel
theorem dL_goes_54 : decode cL_goes 54 = .ok (.iaload, 1) := by decide +kernel
theorem dL_goes_55 : decode cL_goes 55 = .ok (.istore 7, 2) := by decide +kernel
theorem dL_goes_57 : decode cL_goes 57 = .ok (.iload 7, 2) := by decide +kernel
theorem dL_goes_59 : decode cL_goes 59 = .ok (.iconst 2, 1) := by decide +kernel
theorem dL_goes_60 : decode cL_goes 60 = .ok (.if_icmp .eq 9, 3) := by decide +kernel
theorem dL_goes_63 : decode cL_goes 63 = .ok (.iload 7, 2) := by decide +kernel
theorem dL_goes_65 : decode cL_goes 65 = .ok (.iconst 3, 1) := by decide +kernel
theorem dL_goes_66 : decode cL_goes 66 = .ok (.if_icmp .ne 23, 3) := by decide +kernel
theorem dL_goes_69 : decode cL_goes 69 = .ok (.aload_n 0, 1) := by decide +kernel
theorem dL_goes_70 : decode cL_goes 70 = .ok (.bipush 6, 2) := by decide +kernel
theorem dL_goes_72 : decode cL_goes 72 = .ok (.iload 6, 2) := by decide +kernel
theorem dL_goes_74 : decode cL_goes 74 = .ok (.iadd, 1) := by decide +kernel
theorem dL_goes_75 : decode cL_goes 75 = .ok (.iaload, 1) := by decide +kernel
theorem dL_goes_76 : decode cL_goes 76 = .ok (.iload 5, 2) := by decide +kernel
theorem dL_goes_78 : decode cL_goes 78 = .ok (.ishr, 1) := by decide +kernel
theorem dL_goes_79 : decode cL_goes 79 = .ok (.iconst 1, 1) := by decide +kernel
theorem dL_goes_80 : decode cL_goes 80 = .ok (.iand, 1) := by decide +kernel
theorem dL_goes_81 : decode cL_goes 81 = .ok (.iconst 1, 1) := by decide +kernel
theorem dL_goes_82 : decode cL_goes 82 = .ok (.if_icmp .ne 7, 3) := by decide +kernel
theorem dL_goes_85 : decode cL_goes 85 = .ok (.iconst 1, 1) := by decide +kernel
theorem dL_goes_86 : decode cL_goes 86 = .ok (.goto 4, 3) := by decide +kernel
theorem dL_goes_89 : decode cL_goes 89 = .ok (.iconst 0, 1) := by decide +kernel
theorem dL_goes_90 : decode cL_goes 90 = .ok (.istore 8, 2) := by decide +kernel
theorem dL_goes_92 : decode cL_goes 92 = .ok (.iload 4, 2) := by decide +kernel
theorem dL_goes_94 : decode cL_goes 94 = .ok (.iload 8, 2) := by decide +kernel
theorem dL_goes_96 : decode cL_goes 96 = .ok (.ifCond .eq 7, 3) := by decide +kernel
theorem dL_goes_99 : decode cL_goes 99 = .ok (.iconst 0, 1) := by decide +kernel
theorem dL_goes_100 : decode cL_goes 100 = .ok (.goto 15, 3) := by decide +kernel
theorem dL_goes_103 : decode cL_goes 103 = .ok (.aload_n 0, 1) := by decide +kernel
theorem dL_goes_104 : decode cL_goes 104 = .ok (.aload_n 0, 1) := by decide +kernel
theorem dL_goes_105 : decode cL_goes 105 = .ok (.bipush 14, 2) := by decide +kernel
theorem dL_goes_107 : decode cL_goes 107 = .ok (.iload 5, 2) := by decide +kernel
theorem dL_goes_109 : decode cL_goes 109 = .ok (.iadd, 1) := by decide +kernel
theorem dL_goes_110 : decode cL_goes 110 = .ok (.iaload, 1) := by decide +kernel
theorem dL_goes_111 : decode cL_goes 111 = .ok (.iload_n 3, 1) := by decide +kernel
theorem dL_goes_112 : decode cL_goes 112 = .ok (.invokestatic 43, 3) := by decide +kernel
theorem dL_goes_115 : decode cL_goes 115 = .ok (.ior, 1) := by decide +kernel
theorem dL_goes_116 : decode cL_goes 116 = .ok (.istore 4, 2) := by decide +kernel
theorem dL_goes_118 : decode cL_goes 118 = .ok (.iload 4, 2) := by decide +kernel
theorem dL_goes_120 : decode cL_goes 120 = .ok (.iload_n 3, 1) := by decide +kernel
theorem dL_goes_121 : decode cL_goes 121 = .ok (.iconst 5, 1) := by decide +kernel
theorem dL_goes_122 : decode cL_goes 122 = .ok (.if_icmp .ne 22, 3) := by decide +kernel
theorem dL_goes_125 : decode cL_goes 125 = .ok (.iload 7, 2) := by decide +kernel
theorem dL_goes_127 : decode cL_goes 127 = .ok (.iconst 1, 1) := by decide +kernel
theorem dL_goes_128 : decode cL_goes 128 = .ok (.if_icmp .eq 9, 3) := by decide +kernel
theorem dL_goes_131 : decode cL_goes 131 = .ok (.iload 7, 2) := by decide +kernel
theorem dL_goes_133 : decode cL_goes 133 = .ok (.iconst 3, 1) := by decide +kernel
theorem dL_goes_134 : decode cL_goes 134 = .ok (.if_icmp .ne 10, 3) := by decide +kernel
theorem dL_goes_137 : decode cL_goes 137 = .ok (.iconst 1, 1) := by decide +kernel
theorem dL_goes_138 : decode cL_goes 138 = .ok (.iload 5, 2) := by decide +kernel
theorem dL_goes_140 : decode cL_goes 140 = .ok (.ishl, 1) := by decide +kernel
theorem dL_goes_141 : decode cL_goes 141 = .ok (.goto 4, 3) := by decide +kernel
theorem dL_goes_144 : decode cL_goes 144 = .ok (.iconst 0, 1) := by decide +kernel
theorem dL_goes_145 : decode cL_goes 145 = .ok (.ior, 1) := by decide +kernel
theorem dL_goes_146 : decode cL_goes 146 = .ok (.istore 4, 2) := by decide +kernel
theorem dL_goes_148 : decode cL_goes 148 = .ok (.iinc 5 1, 3) := by decide +kernel
theorem dL_goes_151 : decode cL_goes 151 = .ok (.goto (-145), 3) := by decide +kernel
theorem dL_goes_154 : decode cL_goes 154 = .ok (.iload 4, 2) := by decide +kernel
theorem dL_goes_156 : decode cL_goes 156 = .ok (.ireturn, 1) := by decide +kernel
theorem dL_walk_0 : decode cL_walk 0 = .ok (.iconst 0, 1) := by decide +kernel
theorem dL_walk_1 : decode cL_walk 1 = .ok (.istore 4, 2) := by decide +kernel
theorem dL_walk_3 : decode cL_walk 3 = .ok (.iconst 0, 1) := by decide +kernel
theorem dL_walk_4 : decode cL_walk 4 = .ok (.istore 5, 2) := by decide +kernel
theorem dL_walk_6 : decode cL_walk 6 = .ok (.iconst 0, 1) := by decide +kernel
theorem dL_walk_7 : decode cL_walk 7 = .ok (.istore 6, 2) := by decide +kernel
theorem dL_walk_9 : decode cL_walk 9 = .ok (.iload 6, 2) := by decide +kernel
theorem dL_walk_11 : decode cL_walk 11 = .ok (.aload_n 1, 1) := by decide +kernel
theorem dL_walk_12 : decode cL_walk 12 = .ok (.bipush 30, 2) := by decide +kernel
theorem dL_walk_14 : decode cL_walk 14 = .ok (.iaload, 1) := by decide +kernel
theorem dL_walk_15 : decode cL_walk 15 = .ok (.if_icmp .ge 99, 3) := by decide +kernel
theorem dL_walk_18 : decode cL_walk 18 = .ok (.aload_n 1, 1) := by decide +kernel
theorem dL_walk_19 : decode cL_walk 19 = .ok (.aload_n 1, 1) := by decide +kernel
theorem dL_walk_20 : decode cL_walk 20 = .ok (.bipush 31, 2) := by decide +kernel
theorem dL_walk_22 : decode cL_walk 22 = .ok (.iload 6, 2) := by decide +kernel
theorem dL_walk_24 : decode cL_walk 24 = .ok (.iadd, 1) := by decide +kernel
theorem dL_walk_25 : decode cL_walk 25 = .ok (.iaload, 1) := by decide +kernel
theorem dL_walk_26 : decode cL_walk 26 = .ok (.iaload, 1) := by decide +kernel
theorem dL_walk_27 : decode cL_walk 27 = .ok (.istore 7, 2) := by decide +kernel
theorem dL_walk_29 : decode cL_walk 29 = .ok (.iload 6, 2) := by decide +kernel
theorem dL_walk_31 : decode cL_walk 31 = .ok (.ifCond .le 15, 3) := by decide +kernel
theorem dL_walk_34 : decode cL_walk 34 = .ok (.aload_n 0, 1) := by decide +kernel
theorem dL_walk_35 : decode cL_walk 35 = .ok (.aload_n 1, 1) := by decide +kernel
theorem dL_walk_36 : decode cL_walk 36 = .ok (.iload 4, 2) := by decide +kernel
theorem dL_walk_38 : decode cL_walk 38 = .ok (.iload 7, 2) := by decide +kernel
theorem dL_walk_40 : decode cL_walk 40 = .ok (.invokestatic 46, 3) := by decide +kernel
theorem dL_walk_43 : decode cL_walk 43 = .ok (.goto 4, 3) := by decide +kernel
theorem dL_walk_46 : decode cL_walk 46 = .ok (.iconst 0, 1) := by decide +kernel
theorem dL_walk_47 : decode cL_walk 47 = .ok (.istore 8, 2) := by decide +kernel
theorem dL_walk_49 : decode cL_walk 49 = .ok (.aload_n 3, 1) := by decide +kernel
theorem dL_walk_50 : decode cL_walk 50 = .ok (.bipush 32, 2) := by decide +kernel
theorem dL_walk_52 : decode cL_walk 52 = .ok (.iload 6, 2) := by decide +kernel
theorem dL_walk_54 : decode cL_walk 54 = .ok (.iadd, 1) := by decide +kernel
theorem dL_walk_55 : decode cL_walk 55 = .ok (.iload 8, 2) := by decide +kernel
theorem dL_walk_57 : decode cL_walk 57 = .ok (.ifCond .ne 7, 3) := by decide +kernel
theorem dL_walk_60 : decode cL_walk 60 = .ok (.iconst 1, 1) := by decide +kernel
theorem dL_walk_61 : decode cL_walk 61 = .ok (.goto 4, 3) := by decide +kernel
theorem dL_walk_64 : decode cL_walk 64 = .ok (.iconst 0, 1) := by decide +kernel
theorem dL_walk_65 : decode cL_walk 65 = .ok (.iastore, 1) := by decide +kernel
theorem dL_walk_66 : decode cL_walk 66 = .ok (.iload 5, 2) := by decide +kernel
theorem dL_walk_68 : decode cL_walk 68 = .ok (.iload 8, 2) := by decide +kernel
theorem dL_walk_70 : decode cL_walk 70 = .ok (.ifCond .ne 7, 3) := by decide +kernel
theorem dL_walk_73 : decode cL_walk 73 = .ok (.iconst 1, 1) := by decide +kernel
theorem dL_walk_74 : decode cL_walk 74 = .ok (.goto 4, 3) := by decide +kernel
theorem dL_walk_77 : decode cL_walk 77 = .ok (.iconst 0, 1) := by decide +kernel
theorem dL_walk_78 : decode cL_walk 78 = .ok (.iadd, 1) := by decide +kernel
theorem dL_walk_79 : decode cL_walk 79 = .ok (.istore 5, 2) := by decide +kernel
theorem dL_walk_81 : decode cL_walk 81 = .ok (.iload 8, 2) := by decide +kernel
theorem dL_walk_83 : decode cL_walk 83 = .ok (.ifCond .ne 13, 3) := by decide +kernel
theorem dL_walk_86 : decode cL_walk 86 = .ok (.aload_n 0, 1) := by decide +kernel
theorem dL_walk_87 : decode cL_walk 87 = .ok (.iload 7, 2) := by decide +kernel
theorem dL_walk_89 : decode cL_walk 89 = .ok (.iload_n 2, 1) := by decide +kernel
theorem dL_walk_90 : decode cL_walk 90 = .ok (.invokestatic 50, 3) := by decide +kernel
theorem dL_walk_93 : decode cL_walk 93 = .ok (.goto 5, 3) := by decide +kernel
theorem dL_walk_96 : decode cL_walk 96 = .ok (.iload 8, 2) := by decide +kernel
theorem dL_walk_98 : decode cL_walk 98 = .ok (.istore 4, 2) := by decide +kernel
theorem dL_walk_100 : decode cL_walk 100 = .ok (.aload_n 3, 1) := by decide +kernel
theorem dL_walk_101 : decode cL_walk 101 = .ok (.iconst 1, 1) := by decide +kernel
theorem dL_walk_102 : decode cL_walk 102 = .ok (.iload 6, 2) := by decide +kernel
theorem dL_walk_104 : decode cL_walk 104 = .ok (.iadd, 1) := by decide +kernel
theorem dL_walk_105 : decode cL_walk 105 = .ok (.iload 4, 2) := by decide +kernel
theorem dL_walk_107 : decode cL_walk 107 = .ok (.iastore, 1) := by decide +kernel
theorem dL_walk_108 : decode cL_walk 108 = .ok (.iinc 6 1, 3) := by decide +kernel
theorem dL_walk_111 : decode cL_walk 111 = .ok (.goto (-102), 3) := by decide +kernel
theorem dL_walk_114 : decode cL_walk 114 = .ok (.aload_n 3, 1) := by decide +kernel
theorem dL_walk_115 : decode cL_walk 115 = .ok (.bipush 32, 2) := by decide +kernel
theorem dL_walk_117 : decode cL_walk 117 = .ok (.aload_n 1, 1) := by decide +kernel
theorem dL_walk_118 : decode cL_walk 118 = .ok (.bipush 30, 2) := by decide +kernel
theorem dL_walk_120 : decode cL_walk 120 = .ok (.iaload, 1) := by decide +kernel
theorem dL_walk_121 : decode cL_walk 121 = .ok (.iadd, 1) := by decide +kernel
theorem dL_walk_122 : decode cL_walk 122 = .ok (.iconst 1, 1) := by decide +kernel
theorem dL_walk_123 : decode cL_walk 123 = .ok (.iastore, 1) := by decide +kernel
theorem dL_walk_124 : decode cL_walk 124 = .ok (.iload 5, 2) := by decide +kernel
theorem dL_walk_126 : decode cL_walk 126 = .ok (.ireturn, 1) := by decide +kernel
theorem dL_same_0 : decode cL_same 0 = .ok (.bipush 64, 2) := by decide +kernel
theorem dL_same_2 : decode cL_same 2 = .ok (.newarray .int, 2) := by decide +kernel
theorem dL_same_4 : decode cL_same 4 = .ok (.astore_n 3, 1) := by decide +kernel
theorem dL_same_5 : decode cL_same 5 = .ok (.aload_n 1, 1) := by decide +kernel
theorem dL_same_6 : decode cL_same 6 = .ok (.aload_n 2, 1) := by decide +kernel
theorem dL_same_7 : decode cL_same 7 = .ok (.iconst 0, 1) := by decide +kernel
theorem dL_same_8 : decode cL_same 8 = .ok (.aload_n 3, 1) := by decide +kernel
theorem dL_same_9 : decode cL_same 9 = .ok (.invokestatic 53, 3) := by decide +kernel
theorem dL_same_12 : decode cL_same 12 = .ok (.istore 4, 2) := by decide +kernel
theorem dL_same_14 : decode cL_same 14 = .ok (.iconst 0, 1) := by decide +kernel
theorem dL_same_15 : decode cL_same 15 = .ok (.istore 5, 2) := by decide +kernel
theorem dL_same_17 : decode cL_same 17 = .ok (.iload 5, 2) := by decide +kernel
theorem dL_same_19 : decode cL_same 19 = .ok (.bipush 26, 2) := by decide +kernel
theorem dL_same_21 : decode cL_same 21 = .ok (.if_icmp .ge 24, 3) := by decide +kernel
theorem dL_same_24 : decode cL_same 24 = .ok (.aload_n 0, 1) := by decide +kernel
theorem dL_same_25 : decode cL_same 25 = .ok (.iload 5, 2) := by decide +kernel
theorem dL_same_27 : decode cL_same 27 = .ok (.invokevirtual 57, 3) := by decide +kernel
theorem dL_same_30 : decode cL_same 30 = .ok (.aload_n 2, 1) := by decide +kernel
theorem dL_same_31 : decode cL_same 31 = .ok (.iload 5, 2) := by decide +kernel
theorem dL_same_33 : decode cL_same 33 = .ok (.iaload, 1) := by decide +kernel
theorem dL_same_34 : decode cL_same 34 = .ok (.if_icmp .eq 5, 3) := by decide +kernel
theorem dL_same_37 : decode cL_same 37 = .ok (.iconst 0, 1) := by decide +kernel
theorem dL_same_38 : decode cL_same 38 = .ok (.ireturn, 1) := by decide +kernel
theorem dL_same_39 : decode cL_same 39 = .ok (.iinc 5 1, 3) := by decide +kernel
theorem dL_same_42 : decode cL_same 42 = .ok (.goto (-25), 3) := by decide +kernel
theorem dL_same_45 : decode cL_same 45 = .ok (.iconst 0, 1) := by decide +kernel
theorem dL_same_46 : decode cL_same 46 = .ok (.istore 5, 2) := by decide +kernel
theorem dL_same_48 : decode cL_same 48 = .ok (.iload 5, 2) := by decide +kernel
theorem dL_same_50 : decode cL_same 50 = .ok (.aload_n 1, 1) := by decide +kernel
theorem dL_same_51 : decode cL_same 51 = .ok (.iconst 0, 1) := by decide +kernel
theorem dL_same_52 : decode cL_same 52 = .ok (.iaload, 1) := by decide +kernel
theorem dL_same_53 : decode cL_same 53 = .ok (.if_icmp .ge 78, 3) := by decide +kernel
theorem dL_same_56 : decode cL_same 56 = .ok (.aload_n 0, 1) := by decide +kernel
theorem dL_same_57 : decode cL_same 57 = .ok (.iload 5, 2) := by decide +kernel
theorem dL_same_59 : decode cL_same 59 = .ok (.iconst 0, 1) := by decide +kernel
theorem dL_same_60 : decode cL_same 60 = .ok (.invokevirtual 60, 3) := by decide +kernel
theorem dL_same_63 : decode cL_same 63 = .ok (.aload_n 2, 1) := by decide +kernel
theorem dL_same_64 : decode cL_same 64 = .ok (.bipush 26, 2) := by decide +kernel
theorem dL_same_66 : decode cL_same 66 = .ok (.iload 5, 2) := by decide +kernel
theorem dL_same_68 : decode cL_same 68 = .ok (.iadd, 1) := by decide +kernel
theorem dL_same_69 : decode cL_same 69 = .ok (.iaload, 1) := by decide +kernel
theorem dL_same_70 : decode cL_same 70 = .ok (.if_icmp .ne 53, 3) := by decide +kernel
theorem dL_same_73 : decode cL_same 73 = .ok (.aload_n 0, 1) := by decide +kernel
theorem dL_same_74 : decode cL_same 74 = .ok (.iload 5, 2) := by decide +kernel
theorem dL_same_76 : decode cL_same 76 = .ok (.iconst 1, 1) := by decide +kernel
theorem dL_same_77 : decode cL_same 77 = .ok (.invokevirtual 60, 3) := by decide +kernel
theorem dL_same_80 : decode cL_same 80 = .ok (.aload_n 1, 1) := by decide +kernel
theorem dL_same_81 : decode cL_same 81 = .ok (.bipush 10, 2) := by decide +kernel
theorem dL_same_83 : decode cL_same 83 = .ok (.iload 5, 2) := by decide +kernel
theorem dL_same_85 : decode cL_same 85 = .ok (.iadd, 1) := by decide +kernel
theorem dL_same_86 : decode cL_same 86 = .ok (.iaload, 1) := by decide +kernel
theorem dL_same_87 : decode cL_same 87 = .ok (.if_icmp .ne 36, 3) := by decide +kernel
theorem dL_same_90 : decode cL_same 90 = .ok (.aload_n 0, 1) := by decide +kernel
theorem dL_same_91 : decode cL_same 91 = .ok (.iload 5, 2) := by decide +kernel
theorem dL_same_93 : decode cL_same 93 = .ok (.iconst 2, 1) := by decide +kernel
theorem dL_same_94 : decode cL_same 94 = .ok (.invokevirtual 60, 3) := by decide +kernel
theorem dL_same_97 : decode cL_same 97 = .ok (.aload_n 1, 1) := by decide +kernel
theorem dL_same_98 : decode cL_same 98 = .ok (.iconst 2, 1) := by decide +kernel
theorem dL_same_99 : decode cL_same 99 = .ok (.iload 5, 2) := by decide +kernel
theorem dL_same_101 : decode cL_same 101 = .ok (.iadd, 1) := by decide +kernel
theorem dL_same_102 : decode cL_same 102 = .ok (.iaload, 1) := by decide +kernel
theorem dL_same_103 : decode cL_same 103 = .ok (.if_icmp .ne 20, 3) := by decide +kernel
theorem dL_same_106 : decode cL_same 106 = .ok (.aload_n 0, 1) := by decide +kernel
theorem dL_same_107 : decode cL_same 107 = .ok (.iload 5, 2) := by decide +kernel
theorem dL_same_109 : decode cL_same 109 = .ok (.iconst 3, 1) := by decide +kernel
theorem dL_same_110 : decode cL_same 110 = .ok (.invokevirtual 60, 3) := by decide +kernel
theorem dL_same_113 : decode cL_same 113 = .ok (.aload_n 1, 1) := by decide +kernel
theorem dL_same_114 : decode cL_same 114 = .ok (.bipush 6, 2) := by decide +kernel
theorem dL_same_116 : decode cL_same 116 = .ok (.iload 5, 2) := by decide +kernel
theorem dL_same_118 : decode cL_same 118 = .ok (.iadd, 1) := by decide +kernel
theorem dL_same_119 : decode cL_same 119 = .ok (.iaload, 1) := by decide +kernel
theorem dL_same_120 : decode cL_same 120 = .ok (.if_icmp .eq 5, 3) := by decide +kernel
theorem dL_same_123 : decode cL_same 123 = .ok (.iconst 0, 1) := by decide +kernel
theorem dL_same_124 : decode cL_same 124 = .ok (.ireturn, 1) := by decide +kernel
theorem dL_same_125 : decode cL_same 125 = .ok (.iinc 5 1, 3) := by decide +kernel
theorem dL_same_128 : decode cL_same 128 = .ok (.goto (-80), 3) := by decide +kernel
theorem dL_same_131 : decode cL_same 131 = .ok (.iconst 0, 1) := by decide +kernel
theorem dL_same_132 : decode cL_same 132 = .ok (.istore 5, 2) := by decide +kernel
theorem dL_same_134 : decode cL_same 134 = .ok (.iload 5, 2) := by decide +kernel
theorem dL_same_136 : decode cL_same 136 = .ok (.aload_n 2, 1) := by decide +kernel
theorem dL_same_137 : decode cL_same 137 = .ok (.bipush 30, 2) := by decide +kernel
theorem dL_same_139 : decode cL_same 139 = .ok (.iaload, 1) := by decide +kernel
theorem dL_same_140 : decode cL_same 140 = .ok (.if_icmp .gt 80, 3) := by decide +kernel
theorem dL_same_143 : decode cL_same 143 = .ok (.aload_n 0, 1) := by decide +kernel
theorem dL_same_144 : decode cL_same 144 = .ok (.iload 5, 2) := by decide +kernel
theorem dL_same_146 : decode cL_same 146 = .ok (.invokevirtual 63, 3) := by decide +kernel
theorem dL_same_149 : decode cL_same 149 = .ok (.iload 5, 2) := by decide +kernel
theorem dL_same_151 : decode cL_same 151 = .ok (.aload_n 2, 1) := by decide +kernel
theorem dL_same_152 : decode cL_same 152 = .ok (.bipush 30, 2) := by decide +kernel
theorem dL_same_154 : decode cL_same 154 = .ok (.iaload, 1) := by decide +kernel
theorem dL_same_155 : decode cL_same 155 = .ok (.if_icmp .ge 13, 3) := by decide +kernel
theorem dL_same_158 : decode cL_same 158 = .ok (.aload_n 2, 1) := by decide +kernel
theorem dL_same_159 : decode cL_same 159 = .ok (.bipush 31, 2) := by decide +kernel
theorem dL_same_161 : decode cL_same 161 = .ok (.iload 5, 2) := by decide +kernel
theorem dL_same_163 : decode cL_same 163 = .ok (.iadd, 1) := by decide +kernel
theorem dL_same_164 : decode cL_same 164 = .ok (.iaload, 1) := by decide +kernel
theorem dL_same_165 : decode cL_same 165 = .ok (.goto 5, 3) := by decide +kernel
theorem dL_same_168 : decode cL_same 168 = .ok (.bipush (-4), 2) := by decide +kernel
theorem dL_same_170 : decode cL_same 170 = .ok (.if_icmp .ne 42, 3) := by decide +kernel
theorem dL_same_173 : decode cL_same 173 = .ok (.aload_n 0, 1) := by decide +kernel
theorem dL_same_174 : decode cL_same 174 = .ok (.iload 5, 2) := by decide +kernel
theorem dL_same_176 : decode cL_same 176 = .ok (.invokevirtual 66, 3) := by decide +kernel
theorem dL_same_179 : decode cL_same 179 = .ok (.aload_n 3, 1) := by decide +kernel
theorem dL_same_180 : decode cL_same 180 = .ok (.bipush 32, 2) := by decide +kernel
theorem dL_same_182 : decode cL_same 182 = .ok (.iload 5, 2) := by decide +kernel
theorem dL_same_184 : decode cL_same 184 = .ok (.iadd, 1) := by decide +kernel
theorem dL_same_185 : decode cL_same 185 = .ok (.iaload, 1) := by decide +kernel
theorem dL_same_186 : decode cL_same 186 = .ok (.if_icmp .ne 26, 3) := by decide +kernel
theorem dL_same_189 : decode cL_same 189 = .ok (.aload_n 0, 1) := by decide +kernel
theorem dL_same_190 : decode cL_same 190 = .ok (.iload 5, 2) := by decide +kernel
theorem dL_same_192 : decode cL_same 192 = .ok (.invokevirtual 69, 3) := by decide +kernel
theorem dL_same_195 : decode cL_same 195 = .ok (.iload 5, 2) := by decide +kernel
theorem dL_same_197 : decode cL_same 197 = .ok (.ifCond .ne 8, 3) := by decide +kernel
theorem dL_same_200 : decode cL_same 200 = .ok (.bipush (-4), 2) := by decide +kernel
theorem dL_same_202 : decode cL_same 202 = .ok (.goto 7, 3) := by decide +kernel
theorem dL_same_205 : decode cL_same 205 = .ok (.aload_n 3, 1) := by decide +kernel
theorem dL_same_206 : decode cL_same 206 = .ok (.iload 5, 2) := by decide +kernel
theorem dL_same_208 : decode cL_same 208 = .ok (.iaload, 1) := by decide +kernel
theorem dL_same_209 : decode cL_same 209 = .ok (.if_icmp .eq 5, 3) := by decide +kernel
theorem dL_same_212 : decode cL_same 212 = .ok (.iconst 0, 1) := by decide +kernel
theorem dL_same_213 : decode cL_same 213 = .ok (.ireturn, 1) := by decide +kernel
theorem dL_same_214 : decode cL_same 214 = .ok (.iinc 5 1, 3) := by decide +kernel
theorem dL_same_217 : decode cL_same 217 = .ok (.goto (-83), 3) := by decide +kernel
theorem dL_same_220 : decode cL_same 220 = .ok (.aload_n 0, 1) := by decide +kernel
theorem dL_same_221 : decode cL_same 221 = .ok (.aload_n 2, 1) := by decide +kernel
theorem dL_same_222 : decode cL_same 222 = .ok (.bipush 30, 2) := by decide +kernel
theorem dL_same_224 : decode cL_same 224 = .ok (.iaload, 1) := by decide +kernel
theorem dL_same_225 : decode cL_same 225 = .ok (.iconst 1, 1) := by decide +kernel
theorem dL_same_226 : decode cL_same 226 = .ok (.iadd, 1) := by decide +kernel
theorem dL_same_227 : decode cL_same 227 = .ok (.invokevirtual 63, 3) := by decide +kernel
theorem dL_same_230 : decode cL_same 230 = .ok (.iconst (-1), 1) := by decide +kernel
theorem dL_same_231 : decode cL_same 231 = .ok (.if_icmp .ne 51, 3) := by decide +kernel
theorem dL_same_234 : decode cL_same 234 = .ok (.aload_n 0, 1) := by decide +kernel
theorem dL_same_235 : decode cL_same 235 = .ok (.iconst 0, 1) := by decide +kernel
theorem dL_same_236 : decode cL_same 236 = .ok (.invokevirtual 72, 3) := by decide +kernel
theorem dL_same_239 : decode cL_same 239 = .ok (.aload_n 1, 1) := by decide +kernel
theorem dL_same_240 : decode cL_same 240 = .ok (.iconst 0, 1) := by decide +kernel
theorem dL_same_241 : decode cL_same 241 = .ok (.iaload, 1) := by decide +kernel
theorem dL_same_242 : decode cL_same 242 = .ok (.if_icmp .ne 40, 3) := by decide +kernel
theorem dL_same_245 : decode cL_same 245 = .ok (.aload_n 0, 1) := by decide +kernel
theorem dL_same_246 : decode cL_same 246 = .ok (.iconst 1, 1) := by decide +kernel
theorem dL_same_247 : decode cL_same 247 = .ok (.invokevirtual 72, 3) := by decide +kernel
theorem dL_same_250 : decode cL_same 250 = .ok (.aload_n 1, 1) := by decide +kernel
theorem dL_same_251 : decode cL_same 251 = .ok (.iconst 1, 1) := by decide +kernel
theorem dL_same_252 : decode cL_same 252 = .ok (.iaload, 1) := by decide +kernel
theorem dL_same_253 : decode cL_same 253 = .ok (.if_icmp .ne 29, 3) := by decide +kernel
theorem dL_same_256 : decode cL_same 256 = .ok (.aload_n 0, 1) := by decide +kernel
theorem dL_same_257 : decode cL_same 257 = .ok (.iconst 2, 1) := by decide +kernel
theorem dL_same_258 : decode cL_same 258 = .ok (.invokevirtual 72, 3) := by decide +kernel
theorem dL_same_261 : decode cL_same 261 = .ok (.aload_n 2, 1) := by decide +kernel
theorem dL_same_262 : decode cL_same 262 = .ok (.bipush 30, 2) := by decide +kernel
theorem dL_same_264 : decode cL_same 264 = .ok (.iaload, 1) := by decide +kernel
theorem dL_same_265 : decode cL_same 265 = .ok (.if_icmp .ne 17, 3) := by decide +kernel
theorem dL_same_268 : decode cL_same 268 = .ok (.aload_n 0, 1) := by decide +kernel
theorem dL_same_269 : decode cL_same 269 = .ok (.iconst 3, 1) := by decide +kernel
theorem dL_same_270 : decode cL_same 270 = .ok (.invokevirtual 72, 3) := by decide +kernel
theorem dL_same_273 : decode cL_same 273 = .ok (.iload 4, 2) := by decide +kernel
theorem dL_same_275 : decode cL_same 275 = .ok (.if_icmp .ne 7, 3) := by decide +kernel
theorem dL_same_278 : decode cL_same 278 = .ok (.iconst 1, 1) := by decide +kernel
theorem dL_same_279 : decode cL_same 279 = .ok (.goto 4, 3) := by decide +kernel
theorem dL_same_282 : decode cL_same 282 = .ok (.iconst 0, 1) := by decide +kernel
theorem dL_same_283 : decode cL_same 283 = .ok (.ireturn, 1) := by decide +kernel
theorem dL_law_0 : decode cL_law 0 = .ok (.new 32, 3) := by decide +kernel
theorem dL_law_3 : decode cL_law 3 = .ok (.dup, 1) := by decide +kernel
theorem dL_law_4 : decode cL_law 4 = .ok (.invokespecial 75, 3) := by decide +kernel
theorem dL_law_7 : decode cL_law 7 = .ok (.astore_n 1, 1) := by decide +kernel
theorem dL_law_8 : decode cL_law 8 = .ok (.bipush 38, 2) := by decide +kernel
theorem dL_law_10 : decode cL_law 10 = .ok (.newarray .int, 2) := by decide +kernel
theorem dL_law_12 : decode cL_law 12 = .ok (.astore_n 2, 1) := by decide +kernel
theorem dL_law_13 : decode cL_law 13 = .ok (.bipush 64, 2) := by decide +kernel
theorem dL_law_15 : decode cL_law 15 = .ok (.newarray .int, 2) := by decide +kernel
theorem dL_law_17 : decode cL_law 17 = .ok (.astore_n 3, 1) := by decide +kernel
theorem dL_law_18 : decode cL_law 18 = .ok (.bipush 61, 2) := by decide +kernel
theorem dL_law_20 : decode cL_law 20 = .ok (.newarray .int, 2) := by decide +kernel
theorem dL_law_22 : decode cL_law 22 = .ok (.astore 4, 2) := by decide +kernel
theorem dL_law_24 : decode cL_law 24 = .ok (.aload_n 0, 1) := by decide +kernel
theorem dL_law_25 : decode cL_law 25 = .ok (.aload_n 2, 1) := by decide +kernel
theorem dL_law_26 : decode cL_law 26 = .ok (.aload_n 3, 1) := by decide +kernel
theorem dL_law_27 : decode cL_law 27 = .ok (.aload 4, 2) := by decide +kernel
theorem dL_law_29 : decode cL_law 29 = .ok (.invokestatic 76, 3) := by decide +kernel
theorem dL_law_32 : decode cL_law 32 = .ok (.aload_n 1, 1) := by decide +kernel
theorem dL_law_33 : decode cL_law 33 = .ok (.aload_n 2, 1) := by decide +kernel
theorem dL_law_34 : decode cL_law 34 = .ok (.aload_n 3, 1) := by decide +kernel
theorem dL_law_35 : decode cL_law 35 = .ok (.aload 4, 2) := by decide +kernel
theorem dL_law_37 : decode cL_law 37 = .ok (.invokestatic 80, 3) := by decide +kernel
theorem dL_law_40 : decode cL_law 40 = .ok (.aload_n 2, 1) := by decide +kernel
theorem dL_law_41 : decode cL_law 41 = .ok (.iconst 0, 1) := by decide +kernel
theorem dL_law_42 : decode cL_law 42 = .ok (.iaload, 1) := by decide +kernel
theorem dL_law_43 : decode cL_law 43 = .ok (.if_icmp .eq 5, 3) := by decide +kernel
theorem dL_law_46 : decode cL_law 46 = .ok (.iconst 0, 1) := by decide +kernel
theorem dL_law_47 : decode cL_law 47 = .ok (.ireturn, 1) := by decide +kernel
theorem dL_law_48 : decode cL_law 48 = .ok (.bipush 61, 2) := by decide +kernel
theorem dL_law_50 : decode cL_law 50 = .ok (.newarray .int, 2) := by decide +kernel
theorem dL_law_52 : decode cL_law 52 = .ok (.astore 5, 2) := by decide +kernel
theorem dL_law_54 : decode cL_law 54 = .ok (.iconst 0, 1) := by decide +kernel
theorem dL_law_55 : decode cL_law 55 = .ok (.istore 6, 2) := by decide +kernel
theorem dL_law_57 : decode cL_law 57 = .ok (.iload 6, 2) := by decide +kernel
theorem dL_law_59 : decode cL_law 59 = .ok (.bipush 36, 2) := by decide +kernel
theorem dL_law_61 : decode cL_law 61 = .ok (.if_icmp .ge 622, 3) := by decide +kernel
theorem dL_law_64 : decode cL_law 64 = .ok (.aload_n 0, 1) := by decide +kernel
theorem dL_law_65 : decode cL_law 65 = .ok (.bipush 14, 2) := by decide +kernel
theorem dL_law_67 : decode cL_law 67 = .ok (.iload 6, 2) := by decide +kernel
theorem dL_law_69 : decode cL_law 69 = .ok (.iadd, 1) := by decide +kernel
theorem dL_law_70 : decode cL_law 70 = .ok (.invokestatic 15, 3) := by decide +kernel
theorem dL_law_73 : decode cL_law 73 = .ok (.istore 7, 2) := by decide +kernel
theorem dL_law_75 : decode cL_law 75 = .ok (.iload 7, 2) := by decide +kernel
theorem dL_law_77 : decode cL_law 77 = .ok (.bipush 8, 2) := by decide +kernel
theorem dL_law_79 : decode cL_law 79 = .ok (.invokestatic 9, 3) := by decide +kernel
theorem dL_law_82 : decode cL_law 82 = .ok (.istore 8, 2) := by decide +kernel
theorem dL_law_84 : decode cL_law 84 = .ok (.iconst 0, 1) := by decide +kernel
theorem dL_law_85 : decode cL_law 85 = .ok (.istore 9, 2) := by decide +kernel
theorem dL_law_87 : decode cL_law 87 = .ok (.iload 9, 2) := by decide +kernel
theorem dL_law_89 : decode cL_law 89 = .ok (.bipush 26, 2) := by decide +kernel
theorem dL_law_91 : decode cL_law 91 = .ok (.if_icmp .ge 20, 3) := by decide +kernel
theorem dL_law_94 : decode cL_law 94 = .ok (.aload 4, 2) := by decide +kernel
theorem dL_law_96 : decode cL_law 96 = .ok (.iload 9, 2) := by decide +kernel
theorem dL_law_98 : decode cL_law 98 = .ok (.aload_n 1, 1) := by decide +kernel
theorem dL_law_99 : decode cL_law 99 = .ok (.iload 9, 2) := by decide +kernel
theorem dL_law_101 : decode cL_law 101 = .ok (.invokevirtual 57, 3) := by decide +kernel
theorem dL_law_104 : decode cL_law 104 = .ok (.iastore, 1) := by decide +kernel
theorem dL_law_105 : decode cL_law 105 = .ok (.iinc 9 1, 3) := by decide +kernel
theorem dL_law_108 : decode cL_law 108 = .ok (.goto (-21), 3) := by decide +kernel
theorem dL_law_111 : decode cL_law 111 = .ok (.iconst 0, 1) := by decide +kernel
theorem dL_law_112 : decode cL_law 112 = .ok (.istore 9, 2) := by decide +kernel
theorem dL_law_114 : decode cL_law 114 = .ok (.iload 9, 2) := by decide +kernel
theorem dL_law_116 : decode cL_law 116 = .ok (.aload_n 2, 1) := by decide +kernel
theorem dL_law_117 : decode cL_law 117 = .ok (.iconst 0, 1) := by decide +kernel
theorem dL_law_118 : decode cL_law 118 = .ok (.iaload, 1) := by decide +kernel
theorem dL_law_119 : decode cL_law 119 = .ok (.if_icmp .ge 24, 3) := by decide +kernel
theorem dL_law_122 : decode cL_law 122 = .ok (.aload 4, 2) := by decide +kernel
theorem dL_law_124 : decode cL_law 124 = .ok (.bipush 26, 2) := by decide +kernel
theorem dL_law_126 : decode cL_law 126 = .ok (.iload 9, 2) := by decide +kernel
theorem dL_law_128 : decode cL_law 128 = .ok (.iadd, 1) := by decide +kernel
theorem dL_law_129 : decode cL_law 129 = .ok (.aload_n 1, 1) := by decide +kernel
theorem dL_law_130 : decode cL_law 130 = .ok (.iload 9, 2) := by decide +kernel
theorem dL_law_132 : decode cL_law 132 = .ok (.iconst 0, 1) := by decide +kernel
theorem dL_law_133 : decode cL_law 133 = .ok (.invokevirtual 60, 3) := by decide +kernel
theorem dL_law_136 : decode cL_law 136 = .ok (.iastore, 1) := by decide +kernel
theorem dL_law_137 : decode cL_law 137 = .ok (.iinc 9 1, 3) := by decide +kernel
theorem dL_law_140 : decode cL_law 140 = .ok (.goto (-26), 3) := by decide +kernel
theorem dL_law_143 : decode cL_law 143 = .ok (.aload 4, 2) := by decide +kernel
theorem dL_law_145 : decode cL_law 145 = .ok (.bipush 30, 2) := by decide +kernel
theorem dL_law_147 : decode cL_law 147 = .ok (.aload_n 1, 1) := by decide +kernel
theorem dL_law_148 : decode cL_law 148 = .ok (.iconst 2, 1) := by decide +kernel
theorem dL_law_149 : decode cL_law 149 = .ok (.invokevirtual 72, 3) := by decide +kernel
theorem dL_law_152 : decode cL_law 152 = .ok (.iastore, 1) := by decide +kernel
theorem dL_law_153 : decode cL_law 153 = .ok (.iconst 0, 1) := by decide +kernel
theorem dL_law_154 : decode cL_law 154 = .ok (.istore 9, 2) := by decide +kernel
theorem dL_law_156 : decode cL_law 156 = .ok (.iload 9, 2) := by decide +kernel
theorem dL_law_158 : decode cL_law 158 = .ok (.aload 4, 2) := by decide +kernel
theorem dL_law_160 : decode cL_law 160 = .ok (.bipush 30, 2) := by decide +kernel
theorem dL_law_162 : decode cL_law 162 = .ok (.iaload, 1) := by decide +kernel
theorem dL_law_163 : decode cL_law 163 = .ok (.if_icmp .ge 23, 3) := by decide +kernel
theorem dL_law_166 : decode cL_law 166 = .ok (.aload 4, 2) := by decide +kernel
theorem dL_law_168 : decode cL_law 168 = .ok (.bipush 31, 2) := by decide +kernel
theorem dL_law_170 : decode cL_law 170 = .ok (.iload 9, 2) := by decide +kernel
theorem dL_law_172 : decode cL_law 172 = .ok (.iadd, 1) := by decide +kernel
theorem dL_law_173 : decode cL_law 173 = .ok (.aload_n 1, 1) := by decide +kernel
theorem dL_law_174 : decode cL_law 174 = .ok (.iload 9, 2) := by decide +kernel
theorem dL_law_176 : decode cL_law 176 = .ok (.invokevirtual 63, 3) := by decide +kernel
theorem dL_law_179 : decode cL_law 179 = .ok (.iastore, 1) := by decide +kernel
theorem dL_law_180 : decode cL_law 180 = .ok (.iinc 9 1, 3) := by decide +kernel
theorem dL_law_183 : decode cL_law 183 = .ok (.goto (-27), 3) := by decide +kernel
theorem dL_law_186 : decode cL_law 186 = .ok (.aload_n 1, 1) := by decide +kernel
theorem dL_law_187 : decode cL_law 187 = .ok (.iconst 4, 1) := by decide +kernel
theorem dL_law_188 : decode cL_law 188 = .ok (.invokevirtual 72, 3) := by decide +kernel
theorem dL_law_191 : decode cL_law 191 = .ok (.istore 9, 2) := by decide +kernel
theorem dL_law_193 : decode cL_law 193 = .ok (.aload 4, 2) := by decide +kernel
theorem dL_law_195 : decode cL_law 195 = .ok (.aload 5, 2) := by decide +kernel
theorem dL_law_197 : decode cL_law 197 = .ok (.invokestatic 84, 3) := by decide +kernel
theorem dL_law_200 : decode cL_law 200 = .ok (.iconst 1, 1) := by decide +kernel
theorem dL_law_201 : decode cL_law 201 = .ok (.istore 10, 2) := by decide +kernel
theorem dL_law_203 : decode cL_law 203 = .ok (.iload 8, 2) := by decide +kernel
theorem dL_law_205 : decode cL_law 205 = .ok (.iconst 4, 1) := by decide +kernel
theorem dL_law_206 : decode cL_law 206 = .ok (.if_icmp .ge 116, 3) := by decide +kernel
theorem dL_law_209 : decode cL_law 209 = .ok (.aload 4, 2) := by decide +kernel
theorem dL_law_211 : decode cL_law 211 = .ok (.bipush 30, 2) := by decide +kernel
theorem dL_law_213 : decode cL_law 213 = .ok (.iaload, 1) := by decide +kernel
theorem dL_law_214 : decode cL_law 214 = .ok (.bipush 30, 2) := by decide +kernel
theorem dL_law_216 : decode cL_law 216 = .ok (.if_icmp .ge 106, 3) := by decide +kernel
theorem dL_law_219 : decode cL_law 219 = .ok (.iload 7, 2) := by decide +kernel
theorem dL_law_221 : decode cL_law 221 = .ok (.iconst 3, 1) := by decide +kernel
theorem dL_law_222 : decode cL_law 222 = .ok (.ishr, 1) := by decide +kernel
theorem dL_law_223 : decode cL_law 223 = .ok (.aload 4, 2) := by decide +kernel
theorem dL_law_225 : decode cL_law 225 = .ok (.bipush 30, 2) := by decide +kernel
theorem dL_law_227 : decode cL_law 227 = .ok (.iaload, 1) := by decide +kernel
theorem dL_law_228 : decode cL_law 228 = .ok (.iconst 1, 1) := by decide +kernel
theorem dL_law_229 : decode cL_law 229 = .ok (.iadd, 1) := by decide +kernel
theorem dL_law_230 : decode cL_law 230 = .ok (.invokestatic 9, 3) := by decide +kernel
theorem dL_law_233 : decode cL_law 233 = .ok (.istore 13, 2) := by decide +kernel
theorem dL_law_235 : decode cL_law 235 = .ok (.iload 7, 2) := by decide +kernel
theorem dL_law_237 : decode cL_law 237 = .ok (.bipush 9, 2) := by decide +kernel
theorem dL_law_239 : decode cL_law 239 = .ok (.ishr, 1) := by decide +kernel
theorem dL_law_240 : decode cL_law 240 = .ok (.bipush 26, 2) := by decide +kernel
theorem dL_law_242 : decode cL_law 242 = .ok (.invokestatic 9, 3) := by decide +kernel
theorem dL_law_245 : decode cL_law 245 = .ok (.istore 14, 2) := by decide +kernel
theorem dL_law_247 : decode cL_law 247 = .ok (.aload 4, 2) := by decide +kernel
theorem dL_law_249 : decode cL_law 249 = .ok (.bipush 30, 2) := by decide +kernel
theorem dL_law_251 : decode cL_law 251 = .ok (.iaload, 1) := by decide +kernel
theorem dL_law_252 : decode cL_law 252 = .ok (.istore 15, 2) := by decide +kernel
theorem dL_law_254 : decode cL_law 254 = .ok (.iload 15, 2) := by decide +kernel
theorem dL_law_256 : decode cL_law 256 = .ok (.iload 13, 2) := by decide +kernel
theorem dL_law_258 : decode cL_law 258 = .ok (.if_icmp .le 25, 3) := by decide +kernel
theorem dL_law_261 : decode cL_law 261 = .ok (.aload 4, 2) := by decide +kernel
theorem dL_law_263 : decode cL_law 263 = .ok (.bipush 31, 2) := by decide +kernel
theorem dL_law_265 : decode cL_law 265 = .ok (.iload 15, 2) := by decide +kernel
theorem dL_law_267 : decode cL_law 267 = .ok (.iadd, 1) := by decide +kernel
theorem dL_law_268 : decode cL_law 268 = .ok (.aload 4, 2) := by decide +kernel
theorem dL_law_270 : decode cL_law 270 = .ok (.bipush 30, 2) := by decide +kernel
theorem dL_law_272 : decode cL_law 272 = .ok (.iload 15, 2) := by decide +kernel
theorem dL_law_274 : decode cL_law 274 = .ok (.iadd, 1) := by decide +kernel
theorem dL_law_275 : decode cL_law 275 = .ok (.iaload, 1) := by decide +kernel
theorem dL_law_276 : decode cL_law 276 = .ok (.iastore, 1) := by decide +kernel
theorem dL_law_277 : decode cL_law 277 = .ok (.iinc 15 (-1), 3) := by decide +kernel
theorem dL_law_280 : decode cL_law 280 = .ok (.goto (-26), 3) := by decide +kernel
theorem dL_law_283 : decode cL_law 283 = .ok (.aload 4, 2) := by decide +kernel
theorem dL_law_285 : decode cL_law 285 = .ok (.bipush 31, 2) := by decide +kernel
theorem dL_law_287 : decode cL_law 287 = .ok (.iload 13, 2) := by decide +kernel
theorem dL_law_289 : decode cL_law 289 = .ok (.iadd, 1) := by decide +kernel
theorem dL_law_290 : decode cL_law 290 = .ok (.iload 14, 2) := by decide +kernel
theorem dL_law_292 : decode cL_law 292 = .ok (.iastore, 1) := by decide +kernel
theorem dL_law_293 : decode cL_law 293 = .ok (.aload 4, 2) := by decide +kernel
theorem dL_law_295 : decode cL_law 295 = .ok (.bipush 30, 2) := by decide +kernel
theorem dL_law_297 : decode cL_law 297 = .ok (.dup2, 1) := by decide +kernel
theorem dL_law_298 : decode cL_law 298 = .ok (.iaload, 1) := by decide +kernel
theorem dL_law_299 : decode cL_law 299 = .ok (.iconst 1, 1) := by decide +kernel
theorem dL_law_300 : decode cL_law 300 = .ok (.iadd, 1) := by decide +kernel
theorem dL_law_301 : decode cL_law 301 = .ok (.iastore, 1) := by decide +kernel
theorem dL_law_302 : decode cL_law 302 = .ok (.aload 4, 2) := by decide +kernel

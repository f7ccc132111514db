theorem dX10_init_0 : decode cX10_init 0 = .ok (.aload_n 0, 1) := by decide +kernel
theorem dX10_init_1 : decode cX10_init 1 = .ok (.invokespecial 1, 3) := by decide +kernel
theorem dX10_init_4 : decode cX10_init 4 = .ok (.aload_n 0, 1) := by decide +kernel
theorem dX10_init_5 : decode cX10_init 5 = .ok (.bipush 12, 2) := by decide +kernel
theorem dX10_init_7 : decode cX10_init 7 = .ok (.newarray .int, 2) := by decide +kernel
theorem dX10_init_9 : decode cX10_init 9 = .ok (.putfield 7, 3) := by decide +kernel
theorem dX10_init_12 : decode cX10_init 12 = .ok (.aload_n 0, 1) := by decide +kernel
theorem dX10_init_13 : decode cX10_init 13 = .ok (.bipush 10, 2) := by decide +kernel
theorem dX10_init_15 : decode cX10_init 15 = .ok (.newarray .int, 2) := by decide +kernel
theorem dX10_init_17 : decode cX10_init 17 = .ok (.putfield 13, 3) := by decide +kernel
theorem dX10_init_20 : decode cX10_init 20 = .ok (.aload_n 0, 1) := by decide +kernel
theorem dX10_init_21 : decode cX10_init 21 = .ok (.bipush 10, 2) := by decide +kernel
theorem dX10_init_23 : decode cX10_init 23 = .ok (.newarray .int, 2) := by decide +kernel
theorem dX10_init_25 : decode cX10_init 25 = .ok (.putfield 16, 3) := by decide +kernel
theorem dX10_init_28 : decode cX10_init 28 = .ok (.aload_n 0, 1) := by decide +kernel
theorem dX10_init_29 : decode cX10_init 29 = .ok (.bipush 12, 2) := by decide +kernel
theorem dX10_init_31 : decode cX10_init 31 = .ok (.newarray .int, 2) := by decide +kernel
theorem dX10_init_33 : decode cX10_init 33 = .ok (.putfield 19, 3) := by decide +kernel
theorem dX10_init_36 : decode cX10_init 36 = .ok (.aload_n 0, 1) := by decide +kernel
theorem dX10_init_37 : decode cX10_init 37 = .ok (.bipush 10, 2) := by decide +kernel
theorem dX10_init_39 : decode cX10_init 39 = .ok (.newarray .int, 2) := by decide +kernel
theorem dX10_init_41 : decode cX10_init 41 = .ok (.putfield 22, 3) := by decide +kernel
theorem dX10_init_44 : decode cX10_init 44 = .ok (.aload_n 0, 1) := by decide +kernel
theorem dX10_init_45 : decode cX10_init 45 = .ok (.bipush 10, 2) := by decide +kernel
theorem dX10_init_47 : decode cX10_init 47 = .ok (.newarray .int, 2) := by decide +kernel
theorem dX10_init_49 : decode cX10_init 49 = .ok (.putfield 25, 3) := by decide +kernel
theorem dX10_init_52 : decode cX10_init 52 = .ok (.aload_n 0, 1) := by decide +kernel
theorem dX10_init_53 : decode cX10_init 53 = .ok (.bipush 61, 2) := by decide +kernel
theorem dX10_init_55 : decode cX10_init 55 = .ok (.newarray .int, 2) := by decide +kernel
theorem dX10_init_57 : decode cX10_init 57 = .ok (.putfield 28, 3) := by decide +kernel
theorem dX10_init_60 : decode cX10_init 60 = .ok (.aload_n 0, 1) := by decide +kernel
theorem dX10_init_61 : decode cX10_init 61 = .ok (.sipush 732, 3) := by decide +kernel
theorem dX10_init_64 : decode cX10_init 64 = .ok (.newarray .int, 2) := by decide +kernel
theorem dX10_init_66 : decode cX10_init 66 = .ok (.putfield 31, 3) := by decide +kernel
theorem dX10_init_69 : decode cX10_init 69 = .ok (.aload_n 0, 1) := by decide +kernel
theorem dX10_init_70 : decode cX10_init 70 = .ok (.sipush 200, 3) := by decide +kernel
theorem dX10_init_73 : decode cX10_init 73 = .ok (.newarray .byte, 2) := by decide +kernel
theorem dX10_init_75 : decode cX10_init 75 = .ok (.putfield 34, 3) := by decide +kernel
theorem dX10_init_78 : decode cX10_init 78 = .ok (.aload_n 0, 1) := by decide +kernel
theorem dX10_init_79 : decode cX10_init 79 = .ok (.bipush 18, 2) := by decide +kernel
theorem dX10_init_81 : decode cX10_init 81 = .ok (.newarray .int, 2) := by decide +kernel
theorem dX10_init_83 : decode cX10_init 83 = .ok (.putfield 38, 3) := by decide +kernel
theorem dX10_init_86 : decode cX10_init 86 = .ok (.aload_n 0, 1) := by decide +kernel
theorem dX10_init_87 : decode cX10_init 87 = .ok (.bipush 18, 2) := by decide +kernel
theorem dX10_init_89 : decode cX10_init 89 = .ok (.newarray .int, 2) := by decide +kernel
theorem dX10_init_91 : decode cX10_init 91 = .ok (.putfield 41, 3) := by decide +kernel
theorem dX10_init_94 : decode cX10_init 94 = .ok (.aload_n 0, 1) := by decide +kernel
theorem dX10_init_95 : decode cX10_init 95 = .ok (.bipush 18, 2) := by decide +kernel
theorem dX10_init_97 : decode cX10_init 97 = .ok (.newarray .boolean, 2) := by decide +kernel
theorem dX10_init_99 : decode cX10_init 99 = .ok (.putfield 44, 3) := by decide +kernel
theorem dX10_init_102 : decode cX10_init 102 = .ok (.aload_n 0, 1) := by decide +kernel
theorem dX10_init_103 : decode cX10_init 103 = .ok (.bipush 31, 2) := by decide +kernel
theorem dX10_init_105 : decode cX10_init 105 = .ok (.newarray .int, 2) := by decide +kernel
theorem dX10_init_107 : decode cX10_init 107 = .ok (.putfield 48, 3) := by decide +kernel
theorem dX10_init_110 : decode cX10_init 110 = .ok (.aload_n 0, 1) := by decide +kernel
theorem dX10_init_111 : decode cX10_init 111 = .ok (.bipush 31, 2) := by decide +kernel
theorem dX10_init_113 : decode cX10_init 113 = .ok (.newarray .boolean, 2) := by decide +kernel
theorem dX10_init_115 : decode cX10_init 115 = .ok (.putfield 51, 3) := by decide +kernel
theorem dX10_init_118 : decode cX10_init 118 = .ok (.aload_n 0, 1) := by decide +kernel
theorem dX10_init_119 : decode cX10_init 119 = .ok (.bipush 31, 2) := by decide +kernel
theorem dX10_init_121 : decode cX10_init 121 = .ok (.newarray .int, 2) := by decide +kernel
theorem dX10_init_123 : decode cX10_init 123 = .ok (.putfield 54, 3) := by decide +kernel
theorem dX10_init_126 : decode cX10_init 126 = .ok (.aload_n 0, 1) := by decide +kernel
theorem dX10_init_127 : decode cX10_init 127 = .ok (.sipush 1024, 3) := by decide +kernel
theorem dX10_init_130 : decode cX10_init 130 = .ok (.newarray .int, 2) := by decide +kernel
theorem dX10_init_132 : decode cX10_init 132 = .ok (.putfield 57, 3) := by decide +kernel
theorem dX10_init_135 : decode cX10_init 135 = .ok (.aload_n 0, 1) := by decide +kernel
theorem dX10_init_136 : decode cX10_init 136 = .ok (.sipush 1024, 3) := by decide +kernel
theorem dX10_init_139 : decode cX10_init 139 = .ok (.newarray .int, 2) := by decide +kernel
theorem dX10_init_141 : decode cX10_init 141 = .ok (.putfield 60, 3) := by decide +kernel
theorem dX10_init_144 : decode cX10_init 144 = .ok (.aload_n 0, 1) := by decide +kernel
theorem dX10_init_145 : decode cX10_init 145 = .ok (.sipush 1024, 3) := by decide +kernel
theorem dX10_init_148 : decode cX10_init 148 = .ok (.newarray .int, 2) := by decide +kernel
theorem dX10_init_150 : decode cX10_init 150 = .ok (.putfield 63, 3) := by decide +kernel
theorem dX10_init_153 : decode cX10_init 153 = .ok (.aload_n 0, 1) := by decide +kernel
theorem dX10_init_154 : decode cX10_init 154 = .ok (.sipush 1024, 3) := by decide +kernel
theorem dX10_init_157 : decode cX10_init 157 = .ok (.newarray .int, 2) := by decide +kernel
theorem dX10_init_159 : decode cX10_init 159 = .ok (.putfield 66, 3) := by decide +kernel
theorem dX10_init_162 : decode cX10_init 162 = .ok (.aload_n 0, 1) := by decide +kernel
theorem dX10_init_163 : decode cX10_init 163 = .ok (.sipush 6144, 3) := by decide +kernel
theorem dX10_init_166 : decode cX10_init 166 = .ok (.newarray .int, 2) := by decide +kernel
theorem dX10_init_168 : decode cX10_init 168 = .ok (.putfield 69, 3) := by decide +kernel
theorem dX10_init_171 : decode cX10_init 171 = .ok (.aload_n 0, 1) := by decide +kernel
theorem dX10_init_172 : decode cX10_init 172 = .ok (.invokevirtual 72, 3) := by decide +kernel
theorem dX10_init_175 : decode cX10_init 175 = .ok (.iconst 0, 1) := by decide +kernel
theorem dX10_init_176 : decode cX10_init 176 = .ok (.istore_n 1, 1) := by decide +kernel
theorem dX10_init_177 : decode cX10_init 177 = .ok (.iload_n 1, 1) := by decide +kernel
theorem dX10_init_178 : decode cX10_init 178 = .ok (.bipush 26, 2) := by decide +kernel
theorem dX10_init_180 : decode cX10_init 180 = .ok (.if_icmp .ge 99, 3) := by decide +kernel
theorem dX10_init_183 : decode cX10_init 183 = .ok (.iload_n 1, 1) := by decide +kernel
theorem dX10_init_184 : decode cX10_init 184 = .ok (.ifCond .eq 26, 3) := by decide +kernel
theorem dX10_init_187 : decode cX10_init 187 = .ok (.iload_n 1, 1) := by decide +kernel
theorem dX10_init_188 : decode cX10_init 188 = .ok (.iconst 4, 1) := by decide +kernel
theorem dX10_init_189 : decode cX10_init 189 = .ok (.if_icmp .eq 21, 3) := by decide +kernel
theorem dX10_init_192 : decode cX10_init 192 = .ok (.iload_n 1, 1) := by decide +kernel
theorem dX10_init_193 : decode cX10_init 193 = .ok (.bipush 8, 2) := by decide +kernel
theorem dX10_init_195 : decode cX10_init 195 = .ok (.if_icmp .eq 15, 3) := by decide +kernel
theorem dX10_init_198 : decode cX10_init 198 = .ok (.iload_n 1, 1) := by decide +kernel
theorem dX10_init_199 : decode cX10_init 199 = .ok (.bipush 14, 2) := by decide +kernel
theorem dX10_init_201 : decode cX10_init 201 = .ok (.if_icmp .eq 9, 3) := by decide +kernel
theorem dX10_init_204 : decode cX10_init 204 = .ok (.iload_n 1, 1) := by decide +kernel
theorem dX10_init_205 : decode cX10_init 205 = .ok (.bipush 20, 2) := by decide +kernel
theorem dX10_init_207 : decode cX10_init 207 = .ok (.if_icmp .ne 7, 3) := by decide +kernel
theorem dX10_init_210 : decode cX10_init 210 = .ok (.iconst 1, 1) := by decide +kernel
theorem dX10_init_211 : decode cX10_init 211 = .ok (.goto 54, 3) := by decide +kernel
theorem dX10_init_214 : decode cX10_init 214 = .ok (.iload_n 1, 1) := by decide +kernel
theorem dX10_init_215 : decode cX10_init 215 = .ok (.iconst 1, 1) := by decide +kernel
theorem dX10_init_216 : decode cX10_init 216 = .ok (.if_icmp .eq 24, 3) := by decide +kernel
theorem dX10_init_219 : decode cX10_init 219 = .ok (.iload_n 1, 1) := by decide +kernel
theorem dX10_init_220 : decode cX10_init 220 = .ok (.iconst 2, 1) := by decide +kernel
theorem dX10_init_221 : decode cX10_init 221 = .ok (.if_icmp .eq 19, 3) := by decide +kernel
theorem dX10_init_224 : decode cX10_init 224 = .ok (.iload_n 1, 1) := by decide +kernel
theorem dX10_init_225 : decode cX10_init 225 = .ok (.iconst 3, 1) := by decide +kernel
theorem dX10_init_226 : decode cX10_init 226 = .ok (.if_icmp .eq 14, 3) := by decide +kernel
theorem dX10_init_229 : decode cX10_init 229 = .ok (.iload_n 1, 1) := by decide +kernel
theorem dX10_init_230 : decode cX10_init 230 = .ok (.iconst 5, 1) := by decide +kernel
theorem dX10_init_231 : decode cX10_init 231 = .ok (.if_icmp .eq 9, 3) := by decide +kernel
theorem dX10_init_234 : decode cX10_init 234 = .ok (.iload_n 1, 1) := by decide +kernel
theorem dX10_init_235 : decode cX10_init 235 = .ok (.bipush 6, 2) := by decide +kernel
theorem dX10_init_237 : decode cX10_init 237 = .ok (.if_icmp .ne 7, 3) := by decide +kernel
theorem dX10_init_240 : decode cX10_init 240 = .ok (.iconst 2, 1) := by decide +kernel
theorem dX10_init_241 : decode cX10_init 241 = .ok (.goto 24, 3) := by decide +kernel
theorem dX10_init_244 : decode cX10_init 244 = .ok (.iload_n 1, 1) := by decide +kernel
theorem dX10_init_245 : decode cX10_init 245 = .ok (.bipush 22, 2) := by decide +kernel
theorem dX10_init_247 : decode cX10_init 247 = .ok (.if_icmp .le 7, 3) := by decide +kernel
theorem dX10_init_250 : decode cX10_init 250 = .ok (.iconst 3, 1) := by decide +kernel
theorem dX10_init_251 : decode cX10_init 251 = .ok (.goto 14, 3) := by decide +kernel
theorem dX10_init_254 : decode cX10_init 254 = .ok (.iload_n 1, 1) := by decide +kernel
theorem dX10_init_255 : decode cX10_init 255 = .ok (.bipush 16, 2) := by decide +kernel
theorem dX10_init_257 : decode cX10_init 257 = .ok (.if_icmp .ne 7, 3) := by decide +kernel
theorem dX10_init_260 : decode cX10_init 260 = .ok (.iconst 5, 1) := by decide +kernel
theorem dX10_init_261 : decode cX10_init 261 = .ok (.goto 4, 3) := by decide +kernel
theorem dX10_init_264 : decode cX10_init 264 = .ok (.iconst 0, 1) := by decide +kernel
theorem dX10_init_265 : decode cX10_init 265 = .ok (.istore_n 2, 1) := by decide +kernel
theorem dX10_init_266 : decode cX10_init 266 = .ok (.aload_n 0, 1) := by decide +kernel
theorem dX10_init_267 : decode cX10_init 267 = .ok (.getfield 28, 3) := by decide +kernel
theorem dX10_init_270 : decode cX10_init 270 = .ok (.iload_n 1, 1) := by decide +kernel
theorem dX10_init_271 : decode cX10_init 271 = .ok (.iload_n 2, 1) := by decide +kernel
theorem dX10_init_272 : decode cX10_init 272 = .ok (.iastore, 1) := by decide +kernel
theorem dX10_init_273 : decode cX10_init 273 = .ok (.iinc 1 1, 3) := by decide +kernel
theorem dX10_init_276 : decode cX10_init 276 = .ok (.goto (-99), 3) := by decide +kernel
theorem dX10_init_279 : decode cX10_init 279 = .ok (.aload_n 0, 1) := by decide +kernel
theorem dX10_init_280 : decode cX10_init 280 = .ok (.invokevirtual 75, 3) := by decide +kernel
theorem dX10_init_283 : decode cX10_init 283 = .ok (.aload_n 0, 1) := by decide +kernel
theorem dX10_init_284 : decode cX10_init 284 = .ok (.iconst 1, 1) := by decide +kernel
theorem dX10_init_285 : decode cX10_init 285 = .ok (.iconst 1, 1) := by decide +kernel
theorem dX10_init_286 : decode cX10_init 286 = .ok (.invokevirtual 78, 3) := by decide +kernel
theorem dX10_init_289 : decode cX10_init 289 = .ok (.aload_n 0, 1) := by decide +kernel
theorem dX10_init_290 : decode cX10_init 290 = .ok (.invokevirtual 82, 3) := by decide +kernel
theorem dX10_init_293 : decode cX10_init 293 = .ok (.aload_n 0, 1) := by decide +kernel
theorem dX10_init_294 : decode cX10_init 294 = .ok (.iconst 0, 1) := by decide +kernel
theorem dX10_init_295 : decode cX10_init 295 = .ok (.iconst 2, 1) := by decide +kernel
theorem dX10_init_296 : decode cX10_init 296 = .ok (.invokevirtual 78, 3) := by decide +kernel
theorem dX10_init_299 : decode cX10_init 299 = .ok (.aload_n 0, 1) := by decide +kernel
theorem dX10_init_300 : decode cX10_init 300 = .ok (.invokevirtual 85, 3) := by decide +kernel
theorem dX10_init_303 : decode cX10_init 303 = .ok (.aload_n 0, 1) := by decide +kernel
theorem dX10_init_304 : decode cX10_init 304 = .ok (.invokevirtual 88, 3) := by decide +kernel
theorem dX10_init_307 : decode cX10_init 307 = .ok (.aload_n 0, 1) := by decide +kernel
theorem dX10_init_308 : decode cX10_init 308 = .ok (.iconst 0, 1) := by decide +kernel
theorem dX10_init_309 : decode cX10_init 309 = .ok (.iconst 2, 1) := by decide +kernel
theorem dX10_init_310 : decode cX10_init 310 = .ok (.invokevirtual 91, 3) := by decide +kernel
theorem dX10_init_313 : decode cX10_init 313 = .ok (.aload_n 0, 1) := by decide +kernel
theorem dX10_init_314 : decode cX10_init 314 = .ok (.invokevirtual 75, 3) := by decide +kernel
theorem dX10_init_317 : decode cX10_init 317 = .ok (.aload_n 0, 1) := by decide +kernel
theorem dX10_init_318 : decode cX10_init 318 = .ok (.iconst 2, 1) := by decide +kernel
theorem dX10_init_319 : decode cX10_init 319 = .ok (.iconst 2, 1) := by decide +kernel
theorem dX10_init_320 : decode cX10_init 320 = .ok (.invokevirtual 78, 3) := by decide +kernel
theorem dX10_init_323 : decode cX10_init 323 = .ok (.aload_n 0, 1) := by decide +kernel
theorem dX10_init_324 : decode cX10_init 324 = .ok (.iconst 1, 1) := by decide +kernel
theorem dX10_init_325 : decode cX10_init 325 = .ok (.iconst 1, 1) := by decide +kernel
theorem dX10_init_326 : decode cX10_init 326 = .ok (.invokevirtual 78, 3) := by decide +kernel
theorem dX10_init_329 : decode cX10_init 329 = .ok (.aload_n 0, 1) := by decide +kernel
theorem dX10_init_330 : decode cX10_init 330 = .ok (.invokevirtual 94, 3) := by decide +kernel
theorem dX10_init_333 : decode cX10_init 333 = .ok (.aload_n 0, 1) := by decide +kernel
theorem dX10_init_334 : decode cX10_init 334 = .ok (.invokevirtual 97, 3) := by decide +kernel
theorem dX10_init_337 : decode cX10_init 337 = .ok (.aload_n 0, 1) := by decide +kernel
theorem dX10_init_338 : decode cX10_init 338 = .ok (.iconst 0, 1) := by decide +kernel
theorem dX10_init_339 : decode cX10_init 339 = .ok (.iconst 1, 1) := by decide +kernel
theorem dX10_init_340 : decode cX10_init 340 = .ok (.invokevirtual 78, 3) := by decide +kernel
theorem dX10_init_343 : decode cX10_init 343 = .ok (.aload_n 0, 1) := by decide +kernel
theorem dX10_init_344 : decode cX10_init 344 = .ok (.invokevirtual 88, 3) := by decide +kernel
theorem dX10_init_347 : decode cX10_init 347 = .ok (.aload_n 0, 1) := by decide +kernel
theorem dX10_init_348 : decode cX10_init 348 = .ok (.iconst 1, 1) := by decide +kernel
theorem dX10_init_349 : decode cX10_init 349 = .ok (.iconst 3, 1) := by decide +kernel
theorem dX10_init_350 : decode cX10_init 350 = .ok (.invokevirtual 91, 3) := by decide +kernel
theorem dX10_init_353 : decode cX10_init 353 = .ok (.aload_n 0, 1) := by decide +kernel
theorem dX10_init_354 : decode cX10_init 354 = .ok (.invokevirtual 75, 3) := by decide +kernel
theorem dX10_init_357 : decode cX10_init 357 = .ok (.aload_n 0, 1) := by decide +kernel
theorem dX10_init_358 : decode cX10_init 358 = .ok (.iconst 2, 1) := by decide +kernel
theorem dX10_init_359 : decode cX10_init 359 = .ok (.iconst 3, 1) := by decide +kernel
theorem dX10_init_360 : decode cX10_init 360 = .ok (.invokevirtual 78, 3) := by decide +kernel
theorem dX10_init_363 : decode cX10_init 363 = .ok (.aload_n 0, 1) := by decide +kernel
theorem dX10_init_364 : decode cX10_init 364 = .ok (.iconst 1, 1) := by decide +kernel
theorem dX10_init_365 : decode cX10_init 365 = .ok (.bipush 6, 2) := by decide +kernel
theorem dX10_init_367 : decode cX10_init 367 = .ok (.invokevirtual 78, 3) := by decide +kernel
theorem dX10_init_370 : decode cX10_init 370 = .ok (.aload_n 0, 1) := by decide +kernel
theorem dX10_init_371 : decode cX10_init 371 = .ok (.invokevirtual 88, 3) := by decide +kernel
theorem dX10_init_374 : decode cX10_init 374 = .ok (.aload_n 0, 1) := by decide +kernel
theorem dX10_init_375 : decode cX10_init 375 = .ok (.iconst 0, 1) := by decide +kernel
theorem dX10_init_376 : decode cX10_init 376 = .ok (.iconst 3, 1) := by decide +kernel
theorem dX10_init_377 : decode cX10_init 377 = .ok (.invokevirtual 78, 3) := by decide +kernel
theorem dX10_init_380 : decode cX10_init 380 = .ok (.aload_n 0, 1) := by decide +kernel
theorem dX10_init_381 : decode cX10_init 381 = .ok (.invokevirtual 88, 3) := by decide +kernel
theorem dX10_init_384 : decode cX10_init 384 = .ok (.aload_n 0, 1) := by decide +kernel
theorem dX10_init_385 : decode cX10_init 385 = .ok (.iconst 2, 1) := by decide +kernel
theorem dX10_init_386 : decode cX10_init 386 = .ok (.iconst 3, 1) := by decide +kernel
theorem dX10_init_387 : decode cX10_init 387 = .ok (.invokevirtual 91, 3) := by decide +kernel
theorem dX10_init_390 : decode cX10_init 390 = .ok (.aload_n 0, 1) := by decide +kernel
theorem dX10_init_391 : decode cX10_init 391 = .ok (.invokevirtual 75, 3) := by decide +kernel
theorem dX10_init_394 : decode cX10_init 394 = .ok (.aload_n 0, 1) := by decide +kernel
theorem dX10_init_395 : decode cX10_init 395 = .ok (.iconst 0, 1) := by decide +kernel
theorem dX10_init_396 : decode cX10_init 396 = .ok (.iconst 3, 1) := by decide +kernel
theorem dX10_init_397 : decode cX10_init 397 = .ok (.invokevirtual 78, 3) := by decide +kernel
theorem dX10_init_400 : decode cX10_init 400 = .ok (.aload_n 0, 1) := by decide +kernel
theorem dX10_init_401 : decode cX10_init 401 = .ok (.invokevirtual 85, 3) := by decide +kernel
theorem dX10_init_404 : decode cX10_init 404 = .ok (.aload_n 0, 1) := by decide +kernel
theorem dX10_init_405 : decode cX10_init 405 = .ok (.iconst 0, 1) := by decide +kernel
theorem dX10_init_406 : decode cX10_init 406 = .ok (.iconst 1, 1) := by decide +kernel
theorem dX10_init_407 : decode cX10_init 407 = .ok (.invokevirtual 91, 3) := by decide +kernel
theorem dX10_init_410 : decode cX10_init 410 = .ok (.aload_n 0, 1) := by decide +kernel
theorem dX10_init_411 : decode cX10_init 411 = .ok (.iconst 1, 1) := by decide +kernel
theorem dX10_init_412 : decode cX10_init 412 = .ok (.iconst 0, 1) := by decide +kernel
theorem dX10_init_413 : decode cX10_init 413 = .ok (.bipush 16, 2) := by decide +kernel
theorem dX10_init_415 : decode cX10_init 415 = .ok (.iconst 1, 1) := by decide +kernel
theorem dX10_init_416 : decode cX10_init 416 = .ok (.invokevirtual 100, 3) := by decide +kernel
theorem dX10_init_419 : decode cX10_init 419 = .ok (.aload_n 0, 1) := by decide +kernel
theorem dX10_init_420 : decode cX10_init 420 = .ok (.bipush 23, 2) := by decide +kernel
theorem dX10_init_422 : decode cX10_init 422 = .ok (.bipush 24, 2) := by decide +kernel
theorem dX10_init_424 : decode cX10_init 424 = .ok (.bipush 25, 2) := by decide +kernel
theorem dX10_init_426 : decode cX10_init 426 = .ok (.iconst 0, 1) := by decide +kernel
theorem dX10_init_427 : decode cX10_init 427 = .ok (.invokevirtual 100, 3) := by decide +kernel
theorem dX10_init_430 : decode cX10_init 430 = .ok (.aload_n 0, 1) := by decide +kernel
theorem dX10_init_431 : decode cX10_init 431 = .ok (.bipush 16, 2) := by decide +kernel
theorem dX10_init_433 : decode cX10_init 433 = .ok (.bipush 16, 2) := by decide +kernel
theorem dX10_init_435 : decode cX10_init 435 = .ok (.iconst 4, 1) := by decide +kernel
theorem dX10_init_436 : decode cX10_init 436 = .ok (.iconst 1, 1) := by decide +kernel
theorem dX10_init_437 : decode cX10_init 437 = .ok (.invokevirtual 100, 3) := by decide +kernel
theorem dX10_init_440 : decode cX10_init 440 = .ok (.aload_n 0, 1) := by decide +kernel
theorem dX10_init_441 : decode cX10_init 441 = .ok (.iconst 2, 1) := by decide +kernel
theorem dX10_init_442 : decode cX10_init 442 = .ok (.bipush 23, 2) := by decide +kernel
theorem dX10_init_444 : decode cX10_init 444 = .ok (.bipush 16, 2) := by decide +kernel
theorem dX10_init_446 : decode cX10_init 446 = .ok (.bipush 25, 2) := by decide +kernel
theorem dX10_init_448 : decode cX10_init 448 = .ok (.invokevirtual 100, 3) := by decide +kernel
theorem dX10_init_451 : decode cX10_init 451 = .ok (.aload_n 0, 1) := by decide +kernel
theorem dX10_init_452 : decode cX10_init 452 = .ok (.bipush 25, 2) := by decide +kernel
theorem dX10_init_454 : decode cX10_init 454 = .ok (.iconst (-1), 1) := by decide +kernel
theorem dX10_init_455 : decode cX10_init 455 = .ok (.iconst (-1), 1) := by decide +kernel
theorem dX10_init_456 : decode cX10_init 456 = .ok (.iconst (-1), 1) := by decide +kernel
theorem dX10_init_457 : decode cX10_init 457 = .ok (.invokevirtual 100, 3) := by decide +kernel
theorem dX10_init_460 : decode cX10_init 460 = .ok (.aload_n 0, 1) := by decide +kernel
theorem dX10_init_461 : decode cX10_init 461 = .ok (.invokevirtual 104, 3) := by decide +kernel
theorem dX10_init_464 : decode cX10_init 464 = .ok (.return_, 1) := by decide +kernel
theorem dX10_in_0 : decode cX10_in 0 = .ok (.lload_n 0, 1) := by decide +kernel
theorem dX10_in_1 : decode cX10_in 1 = .ok (.lload_n 2, 1) := by decide +kernel
theorem dX10_in_2 : decode cX10_in 2 = .ok (.lcmp, 1) := by decide +kernel
theorem dX10_in_3 : decode cX10_in 3 = .ok (.ifCond .lt 14, 3) := by decide +kernel
theorem dX10_in_6 : decode cX10_in 6 = .ok (.lload_n 0, 1) := by decide +kernel
theorem dX10_in_7 : decode cX10_in 7 = .ok (.lload 4, 2) := by decide +kernel
theorem dX10_in_9 : decode cX10_in 9 = .ok (.lcmp, 1) := by decide +kernel
theorem dX10_in_10 : decode cX10_in 10 = .ok (.ifCond .gt 7, 3) := by decide +kernel
theorem dX10_in_13 : decode cX10_in 13 = .ok (.iconst 1, 1) := by decide +kernel
theorem dX10_in_14 : decode cX10_in 14 = .ok (.goto 4, 3) := by decide +kernel
theorem dX10_in_17 : decode cX10_in 17 = .ok (.iconst 0, 1) := by decide +kernel
theorem dX10_in_18 : decode cX10_in 18 = .ok (.ireturn, 1) := by decide +kernel
theorem dX10_has_0 : decode cX10_has 0 = .ok (.iload_n 0, 1) := by decide +kernel
theorem dX10_has_1 : decode cX10_has 1 = .ok (.iload_n 1, 1) := by decide +kernel
theorem dX10_has_2 : decode cX10_has 2 = .ok (.ishr, 1) := by decide +kernel
theorem dX10_has_3 : decode cX10_has 3 = .ok (.iconst 1, 1) := by decide +kernel
theorem dX10_has_4 : decode cX10_has 4 = .ok (.iand, 1) := by decide +kernel
theorem dX10_has_5 : decode cX10_has 5 = .ok (.iconst 1, 1) := by decide +kernel
theorem dX10_has_6 : decode cX10_has 6 = .ok (.if_icmp .ne 7, 3) := by decide +kernel
theorem dX10_has_9 : decode cX10_has 9 = .ok (.iconst 1, 1) := by decide +kernel
theorem dX10_has_10 : decode cX10_has 10 = .ok (.goto 4, 3) := by decide +kernel
theorem dX10_has_13 : decode cX10_has 13 = .ok (.iconst 0, 1) := by decide +kernel
theorem dX10_has_14 : decode cX10_has 14 = .ok (.ireturn, 1) := by decide +kernel
theorem dX10_larger_0 : decode cX10_larger 0 = .ok (.iload_n 0, 1) := by decide +kernel
theorem dX10_larger_1 : decode cX10_larger 1 = .ok (.iload_n 1, 1) := by decide +kernel
theorem dX10_larger_2 : decode cX10_larger 2 = .ok (.if_icmp .ge 7, 3) := by decide +kernel
theorem dX10_larger_5 : decode cX10_larger 5 = .ok (.iload_n 1, 1) := by decide +kernel
theorem dX10_larger_6 : decode cX10_larger 6 = .ok (.goto 4, 3) := by decide +kernel
theorem dX10_larger_9 : decode cX10_larger 9 = .ok (.iload_n 0, 1) := by decide +kernel
theorem dX10_larger_10 : decode cX10_larger 10 = .ok (.ireturn, 1) := by decide +kernel
theorem dX10_begins_0 : decode cX10_begins 0 = .ok (.aload_n 0, 1) := by decide +kernel
theorem dX10_begins_1 : decode cX10_begins 1 = .ok (.iconst 0, 1) := by decide +kernel
theorem dX10_begins_2 : decode cX10_begins 2 = .ok (.putfield 107, 3) := by decide +kernel
theorem dX10_begins_5 : decode cX10_begins 5 = .ok (.aload_n 0, 1) := by decide +kernel
theorem dX10_begins_6 : decode cX10_begins 6 = .ok (.iconst 0, 1) := by decide +kernel
theorem dX10_begins_7 : decode cX10_begins 7 = .ok (.putfield 111, 3) := by decide +kernel
theorem dX10_begins_10 : decode cX10_begins 10 = .ok (.iconst 0, 1) := by decide +kernel
theorem dX10_begins_11 : decode cX10_begins 11 = .ok (.istore_n 1, 1) := by decide +kernel
theorem dX10_begins_12 : decode cX10_begins 12 = .ok (.iload_n 1, 1) := by decide +kernel
theorem dX10_begins_13 : decode cX10_begins 13 = .ok (.bipush 61, 2) := by decide +kernel
theorem dX10_begins_15 : decode cX10_begins 15 = .ok (.if_icmp .ge 16, 3) := by decide +kernel
theorem dX10_begins_18 : decode cX10_begins 18 = .ok (.aload_n 0, 1) := by decide +kernel
theorem dX10_begins_19 : decode cX10_begins 19 = .ok (.getfield 28, 3) := by decide +kernel
theorem dX10_begins_22 : decode cX10_begins 22 = .ok (.iload_n 1, 1) := by decide +kernel
theorem dX10_begins_23 : decode cX10_begins 23 = .ok (.iconst 0, 1) := by decide +kernel
theorem dX10_begins_24 : decode cX10_begins 24 = .ok (.iastore, 1) := by decide +kernel
theorem dX10_begins_25 : decode cX10_begins 25 = .ok (.iinc 1 1, 3) := by decide +kernel
theorem dX10_begins_28 : decode cX10_begins 28 = .ok (.goto (-16), 3) := by decide +kernel
theorem dX10_begins_31 : decode cX10_begins 31 = .ok (.return_, 1) := by decide +kernel
theorem dX10_letters_0 : decode cX10_letters 0 = .ok (.aload_n 0, 1) := by decide +kernel
theorem dX10_letters_1 : decode cX10_letters 1 = .ok (.iload_n 1, 1) := by decide +kernel
theorem dX10_letters_2 : decode cX10_letters 2 = .ok (.invokevirtual 114, 3) := by decide +kernel
theorem dX10_letters_5 : decode cX10_letters 5 = .ok (.aload_n 0, 1) := by decide +kernel
theorem dX10_letters_6 : decode cX10_letters 6 = .ok (.iload_n 2, 1) := by decide +kernel
theorem dX10_letters_7 : decode cX10_letters 7 = .ok (.invokevirtual 114, 3) := by decide +kernel
theorem dX10_letters_10 : decode cX10_letters 10 = .ok (.aload_n 0, 1) := by decide +kernel
theorem dX10_letters_11 : decode cX10_letters 11 = .ok (.iload_n 3, 1) := by decide +kernel
theorem dX10_letters_12 : decode cX10_letters 12 = .ok (.invokevirtual 114, 3) := by decide +kernel
theorem dX10_letters_15 : decode cX10_letters 15 = .ok (.aload_n 0, 1) := by decide +kernel
theorem dX10_letters_16 : decode cX10_letters 16 = .ok (.iload 4, 2) := by decide +kernel
theorem dX10_letters_18 : decode cX10_letters 18 = .ok (.invokevirtual 114, 3) := by decide +kernel
theorem dX10_letters_21 : decode cX10_letters 21 = .ok (.return_, 1) := by decide +kernel
theorem dX10_addsLetter_0 : decode cX10_addsLetter 0 = .ok (.iload_n 1, 1) := by decide +kernel
theorem dX10_addsLetter_1 : decode cX10_addsLetter 1 = .ok (.ifCond .lt 30, 3) := by decide +kernel
theorem dX10_addsLetter_4 : decode cX10_addsLetter 4 = .ok (.aload_n 0, 1) := by decide +kernel
theorem dX10_addsLetter_5 : decode cX10_addsLetter 5 = .ok (.getfield 28, 3) := by decide +kernel
theorem dX10_addsLetter_8 : decode cX10_addsLetter 8 = .ok (.bipush 31, 2) := by decide +kernel
theorem dX10_addsLetter_10 : decode cX10_addsLetter 10 = .ok (.aload_n 0, 1) := by decide +kernel
theorem dX10_addsLetter_11 : decode cX10_addsLetter 11 = .ok (.getfield 28, 3) := by decide +kernel
theorem dX10_addsLetter_14 : decode cX10_addsLetter 14 = .ok (.bipush 30, 2) := by decide +kernel
theorem dX10_addsLetter_16 : decode cX10_addsLetter 16 = .ok (.iaload, 1) := by decide +kernel
theorem dX10_addsLetter_17 : decode cX10_addsLetter 17 = .ok (.iadd, 1) := by decide +kernel
theorem dX10_addsLetter_18 : decode cX10_addsLetter 18 = .ok (.iload_n 1, 1) := by decide +kernel
theorem dX10_addsLetter_19 : decode cX10_addsLetter 19 = .ok (.iastore, 1) := by decide +kernel
theorem dX10_addsLetter_20 : decode cX10_addsLetter 20 = .ok (.aload_n 0, 1) := by decide +kernel
theorem dX10_addsLetter_21 : decode cX10_addsLetter 21 = .ok (.getfield 28, 3) := by decide +kernel
theorem dX10_addsLetter_24 : decode cX10_addsLetter 24 = .ok (.bipush 30, 2) := by decide +kernel
theorem dX10_addsLetter_26 : decode cX10_addsLetter 26 = .ok (.dup2, 1) := by decide +kernel
theorem dX10_addsLetter_27 : decode cX10_addsLetter 27 = .ok (.iaload, 1) := by decide +kernel
theorem dX10_addsLetter_28 : decode cX10_addsLetter 28 = .ok (.iconst 1, 1) := by decide +kernel
theorem dX10_addsLetter_29 : decode cX10_addsLetter 29 = .ok (.iadd, 1) := by decide +kernel
theorem dX10_addsLetter_30 : decode cX10_addsLetter 30 = .ok (.iastore, 1) := by decide +kernel
theorem dX10_addsLetter_31 : decode cX10_addsLetter 31 = .ok (.return_, 1) := by decide +kernel
theorem dX10_settles_0 : decode cX10_settles 0 = .ok (.aload_n 0, 1) := by decide +kernel
theorem dX10_settles_1 : decode cX10_settles 1 = .ok (.aload_n 0, 1) := by decide +kernel
theorem dX10_settles_2 : decode cX10_settles 2 = .ok (.getfield 107, 3) := by decide +kernel
theorem dX10_settles_5 : decode cX10_settles 5 = .ok (.putfield 118, 3) := by decide +kernel
theorem dX10_settles_8 : decode cX10_settles 8 = .ok (.aload_n 0, 1) := by decide +kernel
theorem dX10_settles_9 : decode cX10_settles 9 = .ok (.aload_n 0, 1) := by decide +kernel
theorem dX10_settles_10 : decode cX10_settles 10 = .ok (.getfield 111, 3) := by decide +kernel
theorem dX10_settles_13 : decode cX10_settles 13 = .ok (.putfield 121, 3) := by decide +kernel
theorem dX10_settles_16 : decode cX10_settles 16 = .ok (.iconst 0, 1) := by decide +kernel
theorem dX10_settles_17 : decode cX10_settles 17 = .ok (.istore_n 1, 1) := by decide +kernel
theorem dX10_settles_18 : decode cX10_settles 18 = .ok (.iload_n 1, 1) := by decide +kernel
theorem dX10_settles_19 : decode cX10_settles 19 = .ok (.bipush 12, 2) := by decide +kernel
theorem dX10_settles_21 : decode cX10_settles 21 = .ok (.if_icmp .ge 21, 3) := by decide +kernel
theorem dX10_settles_24 : decode cX10_settles 24 = .ok (.aload_n 0, 1) := by decide +kernel
theorem dX10_settles_25 : decode cX10_settles 25 = .ok (.getfield 7, 3) := by decide +kernel
theorem dX10_settles_28 : decode cX10_settles 28 = .ok (.iload_n 1, 1) := by decide +kernel
theorem dX10_settles_29 : decode cX10_settles 29 = .ok (.aload_n 0, 1) := by decide +kernel
theorem dX10_settles_30 : decode cX10_settles 30 = .ok (.getfield 19, 3) := by decide +kernel
theorem dX10_settles_33 : decode cX10_settles 33 = .ok (.iload_n 1, 1) := by decide +kernel
theorem dX10_settles_34 : decode cX10_settles 34 = .ok (.iaload, 1) := by decide +kernel
theorem dX10_settles_35 : decode cX10_settles 35 = .ok (.iastore, 1) := by decide +kernel
theorem dX10_settles_36 : decode cX10_settles 36 = .ok (.iinc 1 1, 3) := by decide +kernel
theorem dX10_settles_39 : decode cX10_settles 39 = .ok (.goto (-21), 3) := by decide +kernel
theorem dX10_settles_42 : decode cX10_settles 42 = .ok (.iconst 0, 1) := by decide +kernel
theorem dX10_settles_43 : decode cX10_settles 43 = .ok (.istore_n 1, 1) := by decide +kernel
theorem dX10_settles_44 : decode cX10_settles 44 = .ok (.iload_n 1, 1) := by decide +kernel
theorem dX10_settles_45 : decode cX10_settles 45 = .ok (.bipush 10, 2) := by decide +kernel
theorem dX10_settles_47 : decode cX10_settles 47 = .ok (.if_icmp .ge 33, 3) := by decide +kernel
theorem dX10_settles_50 : decode cX10_settles 50 = .ok (.aload_n 0, 1) := by decide +kernel
theorem dX10_settles_51 : decode cX10_settles 51 = .ok (.getfield 13, 3) := by decide +kernel
theorem dX10_settles_54 : decode cX10_settles 54 = .ok (.iload_n 1, 1) := by decide +kernel
theorem dX10_settles_55 : decode cX10_settles 55 = .ok (.aload_n 0, 1) := by decide +kernel
theorem dX10_settles_56 : decode cX10_settles 56 = .ok (.getfield 22, 3) := by decide +kernel
theorem dX10_settles_59 : decode cX10_settles 59 = .ok (.iload_n 1, 1) := by decide +kernel
theorem dX10_settles_60 : decode cX10_settles 60 = .ok (.iaload, 1) := by decide +kernel
theorem dX10_settles_61 : decode cX10_settles 61 = .ok (.iastore, 1) := by decide +kernel
theorem dX10_settles_62 : decode cX10_settles 62 = .ok (.aload_n 0, 1) := by decide +kernel
theorem dX10_settles_63 : decode cX10_settles 63 = .ok (.getfield 16, 3) := by decide +kernel
theorem dX10_settles_66 : decode cX10_settles 66 = .ok (.iload_n 1, 1) := by decide +kernel
theorem dX10_settles_67 : decode cX10_settles 67 = .ok (.aload_n 0, 1) := by decide +kernel
theorem dX10_settles_68 : decode cX10_settles 68 = .ok (.getfield 25, 3) := by decide +kernel
theorem dX10_settles_71 : decode cX10_settles 71 = .ok (.iload_n 1, 1) := by decide +kernel
theorem dX10_settles_72 : decode cX10_settles 72 = .ok (.iaload, 1) := by decide +kernel
theorem dX10_settles_73 : decode cX10_settles 73 = .ok (.iastore, 1) := by decide +kernel
theorem dX10_settles_74 : decode cX10_settles 74 = .ok (.iinc 1 1, 3) := by decide +kernel
theorem dX10_settles_77 : decode cX10_settles 77 = .ok (.goto (-33), 3) := by decide +kernel
theorem dX10_settles_80 : decode cX10_settles 80 = .ok (.iconst 0, 1) := by decide +kernel
theorem dX10_settles_81 : decode cX10_settles 81 = .ok (.istore_n 1, 1) := by decide +kernel
theorem dX10_settles_82 : decode cX10_settles 82 = .ok (.iload_n 1, 1) := by decide +kernel
theorem dX10_settles_83 : decode cX10_settles 83 = .ok (.bipush 61, 2) := by decide +kernel
theorem dX10_settles_85 : decode cX10_settles 85 = .ok (.if_icmp .ge 21, 3) := by decide +kernel
theorem dX10_settles_88 : decode cX10_settles 88 = .ok (.aload_n 0, 1) := by decide +kernel
theorem dX10_settles_89 : decode cX10_settles 89 = .ok (.getfield 31, 3) := by decide +kernel
theorem dX10_settles_92 : decode cX10_settles 92 = .ok (.iload_n 1, 1) := by decide +kernel
theorem dX10_settles_93 : decode cX10_settles 93 = .ok (.aload_n 0, 1) := by decide +kernel
theorem dX10_settles_94 : decode cX10_settles 94 = .ok (.getfield 28, 3) := by decide +kernel
theorem dX10_settles_97 : decode cX10_settles 97 = .ok (.iload_n 1, 1) := by decide +kernel
theorem dX10_settles_98 : decode cX10_settles 98 = .ok (.iaload, 1) := by decide +kernel
theorem dX10_settles_99 : decode cX10_settles 99 = .ok (.iastore, 1) := by decide +kernel
theorem dX10_settles_100 : decode cX10_settles 100 = .ok (.iinc 1 1, 3) := by decide +kernel
theorem dX10_settles_103 : decode cX10_settles 103 = .ok (.goto (-21), 3) := by decide +kernel
theorem dX10_settles_106 : decode cX10_settles 106 = .ok (.aload_n 0, 1) := by decide +kernel
theorem dX10_settles_107 : decode cX10_settles 107 = .ok (.iconst 0, 1) := by decide +kernel
theorem dX10_settles_108 : decode cX10_settles 108 = .ok (.putfield 124, 3) := by decide +kernel
theorem dX10_settles_111 : decode cX10_settles 111 = .ok (.aload_n 0, 1) := by decide +kernel
theorem dX10_settles_112 : decode cX10_settles 112 = .ok (.iconst 0, 1) := by decide +kernel
theorem dX10_settles_113 : decode cX10_settles 113 = .ok (.putfield 127, 3) := by decide +kernel
theorem dX10_settles_116 : decode cX10_settles 116 = .ok (.return_, 1) := by decide +kernel
theorem dX10_rowBegins_0 : decode cX10_rowBegins 0 = .ok (.aload_n 0, 1) := by decide +kernel
theorem dX10_rowBegins_1 : decode cX10_rowBegins 1 = .ok (.iconst 0, 1) := by decide +kernel
theorem dX10_rowBegins_2 : decode cX10_rowBegins 2 = .ok (.putfield 130, 3) := by decide +kernel
theorem dX10_rowBegins_5 : decode cX10_rowBegins 5 = .ok (.return_, 1) := by decide +kernel
theorem dX10_atom_0 : decode cX10_atom 0 = .ok (.aload_n 0, 1) := by decide +kernel
theorem dX10_atom_1 : decode cX10_atom 1 = .ok (.getfield 111, 3) := by decide +kernel
theorem dX10_atom_4 : decode cX10_atom 4 = .ok (.iload_n 1, 1) := by decide +kernel
theorem dX10_atom_5 : decode cX10_atom 5 = .ok (.iadd, 1) := by decide +kernel
theorem dX10_atom_6 : decode cX10_atom 6 = .ok (.istore_n 3, 1) := by decide +kernel
theorem dX10_atom_7 : decode cX10_atom 7 = .ok (.aload_n 0, 1) := by decide +kernel
theorem dX10_atom_8 : decode cX10_atom 8 = .ok (.getfield 22, 3) := by decide +kernel
theorem dX10_atom_11 : decode cX10_atom 11 = .ok (.iload_n 3, 1) := by decide +kernel
theorem dX10_atom_12 : decode cX10_atom 12 = .ok (.iload_n 2, 1) := by decide +kernel
theorem dX10_atom_13 : decode cX10_atom 13 = .ok (.iastore, 1) := by decide +kernel
theorem dX10_atom_14 : decode cX10_atom 14 = .ok (.aload_n 0, 1) := by decide +kernel
theorem dX10_atom_15 : decode cX10_atom 15 = .ok (.getfield 25, 3) := by decide +kernel
theorem dX10_atom_18 : decode cX10_atom 18 = .ok (.iload_n 3, 1) := by decide +kernel
theorem dX10_atom_19 : decode cX10_atom 19 = .ok (.iconst 0, 1) := by decide +kernel
theorem dX10_atom_20 : decode cX10_atom 20 = .ok (.iastore, 1) := by decide +kernel
theorem dX10_atom_21 : decode cX10_atom 21 = .ok (.aload_n 0, 1) := by decide +kernel
theorem dX10_atom_22 : decode cX10_atom 22 = .ok (.getfield 38, 3) := by decide +kernel
theorem dX10_atom_25 : decode cX10_atom 25 = .ok (.aload_n 0, 1) := by decide +kernel
theorem dX10_atom_26 : decode cX10_atom 26 = .ok (.getfield 130, 3) := by decide +kernel
theorem dX10_atom_29 : decode cX10_atom 29 = .ok (.iconst 1, 1) := by decide +kernel
theorem dX10_atom_30 : decode cX10_atom 30 = .ok (.iload_n 3, 1) := by decide +kernel
theorem dX10_atom_31 : decode cX10_atom 31 = .ok (.ishl, 1) := by decide +kernel
theorem dX10_atom_32 : decode cX10_atom 32 = .ok (.iastore, 1) := by decide +kernel
theorem dX10_atom_33 : decode cX10_atom 33 = .ok (.aload_n 0, 1) := by decide +kernel
theorem dX10_atom_34 : decode cX10_atom 34 = .ok (.getfield 41, 3) := by decide +kernel
theorem dX10_atom_37 : decode cX10_atom 37 = .ok (.aload_n 0, 1) := by decide +kernel
theorem dX10_atom_38 : decode cX10_atom 38 = .ok (.getfield 130, 3) := by decide +kernel
theorem dX10_atom_41 : decode cX10_atom 41 = .ok (.iconst 1, 1) := by decide +kernel
theorem dX10_atom_42 : decode cX10_atom 42 = .ok (.iload_n 3, 1) := by decide +kernel
theorem dX10_atom_43 : decode cX10_atom 43 = .ok (.ishl, 1) := by decide +kernel
theorem dX10_atom_44 : decode cX10_atom 44 = .ok (.iastore, 1) := by decide +kernel
theorem dX10_atom_45 : decode cX10_atom 45 = .ok (.aload_n 0, 1) := by decide +kernel
theorem dX10_atom_46 : decode cX10_atom 46 = .ok (.getfield 44, 3) := by decide +kernel
theorem dX10_atom_49 : decode cX10_atom 49 = .ok (.aload_n 0, 1) := by decide +kernel
theorem dX10_atom_50 : decode cX10_atom 50 = .ok (.getfield 130, 3) := by decide +kernel
theorem dX10_atom_53 : decode cX10_atom 53 = .ok (.iconst 0, 1) := by decide +kernel
theorem dX10_atom_54 : decode cX10_atom 54 = .ok (.bastore, 1) := by decide +kernel
theorem dX10_atom_55 : decode cX10_atom 55 = .ok (.aload_n 0, 1) := by decide +kernel
theorem dX10_atom_56 : decode cX10_atom 56 = .ok (.dup, 1) := by decide +kernel
theorem dX10_atom_57 : decode cX10_atom 57 = .ok (.getfield 130, 3) := by decide +kernel
theorem dX10_atom_60 : decode cX10_atom 60 = .ok (.iconst 1, 1) := by decide +kernel
theorem dX10_atom_61 : decode cX10_atom 61 = .ok (.iadd, 1) := by decide +kernel
theorem dX10_atom_62 : decode cX10_atom 62 = .ok (.putfield 130, 3) := by decide +kernel
theorem dX10_atom_65 : decode cX10_atom 65 = .ok (.return_, 1) := by decide +kernel
theorem dX10_follows_0 : decode cX10_follows 0 = .ok (.iconst 0, 1) := by decide +kernel
theorem dX10_follows_1 : decode cX10_follows 1 = .ok (.istore_n 3, 1) := by decide +kernel
theorem dX10_follows_2 : decode cX10_follows 2 = .ok (.iload_n 3, 1) := by decide +kernel
theorem dX10_follows_3 : decode cX10_follows 3 = .ok (.bipush 10, 2) := by decide +kernel
theorem dX10_follows_5 : decode cX10_follows 5 = .ok (.if_icmp .ge 31, 3) := by decide +kernel
theorem dX10_follows_8 : decode cX10_follows 8 = .ok (.aload_n 0, 1) := by decide +kernel
theorem dX10_follows_9 : decode cX10_follows 9 = .ok (.getfield 25, 3) := by decide +kernel
theorem dX10_follows_12 : decode cX10_follows 12 = .ok (.iload_n 3, 1) := by decide +kernel
theorem dX10_follows_13 : decode cX10_follows 13 = .ok (.dup2, 1) := by decide +kernel
theorem dX10_follows_14 : decode cX10_follows 14 = .ok (.iaload, 1) := by decide +kernel
theorem dX10_follows_15 : decode cX10_follows 15 = .ok (.iload_n 1, 1) := by decide +kernel
theorem dX10_follows_16 : decode cX10_follows 16 = .ok (.iload_n 3, 1) := by decide +kernel
theorem dX10_follows_17 : decode cX10_follows 17 = .ok (.invokestatic 133, 3) := by decide +kernel
theorem dX10_follows_20 : decode cX10_follows 20 = .ok (.ifCond .eq 7, 3) := by decide +kernel
theorem dX10_follows_23 : decode cX10_follows 23 = .ok (.iload_n 2, 1) := by decide +kernel
theorem dX10_follows_24 : decode cX10_follows 24 = .ok (.goto 4, 3) := by decide +kernel
theorem dX10_follows_27 : decode cX10_follows 27 = .ok (.iconst 0, 1) := by decide +kernel
theorem dX10_follows_28 : decode cX10_follows 28 = .ok (.ior, 1) := by decide +kernel
theorem dX10_follows_29 : decode cX10_follows 29 = .ok (.iastore, 1) := by decide +kernel
theorem dX10_follows_30 : decode cX10_follows 30 = .ok (.iinc 3 1, 3) := by decide +kernel
theorem dX10_follows_33 : decode cX10_follows 33 = .ok (.goto (-31), 3) := by decide +kernel
theorem dX10_follows_36 : decode cX10_follows 36 = .ok (.return_, 1) := by decide +kernel
theorem dX10_both_0 : decode cX10_both 0 = .ok (.aload_n 0, 1) := by decide +kernel
theorem dX10_both_1 : decode cX10_both 1 = .ok (.getfield 130, 3) := by decide +kernel
theorem dX10_both_4 : decode cX10_both 4 = .ok (.iconst 1, 1) := by decide +kernel
theorem dX10_both_5 : decode cX10_both 5 = .ok (.isub, 1) := by decide +kernel
theorem dX10_both_6 : decode cX10_both 6 = .ok (.istore_n 1, 1) := by decide +kernel
theorem dX10_both_7 : decode cX10_both 7 = .ok (.aload_n 0, 1) := by decide +kernel
theorem dX10_both_8 : decode cX10_both 8 = .ok (.getfield 130, 3) := by decide +kernel
theorem dX10_both_11 : decode cX10_both 11 = .ok (.iconst 2, 1) := by decide +kernel
theorem dX10_both_12 : decode cX10_both 12 = .ok (.isub, 1) := by decide +kernel
theorem dX10_both_13 : decode cX10_both 13 = .ok (.istore_n 2, 1) := by decide +kernel
theorem dX10_both_14 : decode cX10_both 14 = .ok (.aload_n 0, 1) := by decide +kernel
theorem dX10_both_15 : decode cX10_both 15 = .ok (.aload_n 0, 1) := by decide +kernel
theorem dX10_both_16 : decode cX10_both 16 = .ok (.getfield 41, 3) := by decide +kernel
theorem dX10_both_19 : decode cX10_both 19 = .ok (.iload_n 1, 1) := by decide +kernel
theorem dX10_both_20 : decode cX10_both 20 = .ok (.iaload, 1) := by decide +kernel
theorem dX10_both_21 : decode cX10_both 21 = .ok (.aload_n 0, 1) := by decide +kernel
theorem dX10_both_22 : decode cX10_both 22 = .ok (.getfield 38, 3) := by decide +kernel
theorem dX10_both_25 : decode cX10_both 25 = .ok (.iload_n 2, 1) := by decide +kernel
theorem dX10_both_26 : decode cX10_both 26 = .ok (.iaload, 1) := by decide +kernel
theorem dX10_both_27 : decode cX10_both 27 = .ok (.invokevirtual 137, 3) := by decide +kernel
theorem dX10_both_30 : decode cX10_both 30 = .ok (.aload_n 0, 1) := by decide +kernel
theorem dX10_both_31 : decode cX10_both 31 = .ok (.getfield 38, 3) := by decide +kernel
theorem dX10_both_34 : decode cX10_both 34 = .ok (.iload_n 1, 1) := by decide +kernel
theorem dX10_both_35 : decode cX10_both 35 = .ok (.iaload, 1) := by decide +kernel
theorem dX10_both_36 : decode cX10_both 36 = .ok (.aload_n 0, 1) := by decide +kernel
theorem dX10_both_37 : decode cX10_both 37 = .ok (.getfield 44, 3) := by decide +kernel
theorem dX10_both_40 : decode cX10_both 40 = .ok (.iload_n 1, 1) := by decide +kernel
theorem dX10_both_41 : decode cX10_both 41 = .ok (.baload, 1) := by decide +kernel
theorem dX10_both_42 : decode cX10_both 42 = .ok (.ifCond .eq 12, 3) := by decide +kernel
theorem dX10_both_45 : decode cX10_both 45 = .ok (.aload_n 0, 1) := by decide +kernel
theorem dX10_both_46 : decode cX10_both 46 = .ok (.getfield 38, 3) := by decide +kernel
theorem dX10_both_49 : decode cX10_both 49 = .ok (.iload_n 2, 1) := by decide +kernel
theorem dX10_both_50 : decode cX10_both 50 = .ok (.iaload, 1) := by decide +kernel
theorem dX10_both_51 : decode cX10_both 51 = .ok (.goto 4, 3) := by decide +kernel
theorem dX10_both_54 : decode cX10_both 54 = .ok (.iconst 0, 1) := by decide +kernel
theorem dX10_both_55 : decode cX10_both 55 = .ok (.ior, 1) := by decide +kernel
theorem dX10_both_56 : decode cX10_both 56 = .ok (.istore_n 3, 1) := by decide +kernel
theorem dX10_both_57 : decode cX10_both 57 = .ok (.aload_n 0, 1) := by decide +kernel
theorem dX10_both_58 : decode cX10_both 58 = .ok (.getfield 41, 3) := by decide +kernel
theorem dX10_both_61 : decode cX10_both 61 = .ok (.iload_n 2, 1) := by decide +kernel
theorem dX10_both_62 : decode cX10_both 62 = .ok (.iaload, 1) := by decide +kernel
theorem dX10_both_63 : decode cX10_both 63 = .ok (.aload_n 0, 1) := by decide +kernel
theorem dX10_both_64 : decode cX10_both 64 = .ok (.getfield 44, 3) := by decide +kernel
theorem dX10_both_67 : decode cX10_both 67 = .ok (.iload_n 2, 1) := by decide +kernel
theorem dX10_both_68 : decode cX10_both 68 = .ok (.baload, 1) := by decide +kernel
theorem dX10_both_69 : decode cX10_both 69 = .ok (.ifCond .eq 12, 3) := by decide +kernel
theorem dX10_both_72 : decode cX10_both 72 = .ok (.aload_n 0, 1) := by decide +kernel
theorem dX10_both_73 : decode cX10_both 73 = .ok (.getfield 41, 3) := by decide +kernel
theorem dX10_both_76 : decode cX10_both 76 = .ok (.iload_n 1, 1) := by decide +kernel
theorem dX10_both_77 : decode cX10_both 77 = .ok (.iaload, 1) := by decide +kernel
theorem dX10_both_78 : decode cX10_both 78 = .ok (.goto 4, 3) := by decide +kernel
theorem dX10_both_81 : decode cX10_both 81 = .ok (.iconst 0, 1) := by decide +kernel
theorem dX10_both_82 : decode cX10_both 82 = .ok (.ior, 1) := by decide +kernel
theorem dX10_both_83 : decode cX10_both 83 = .ok (.istore 4, 2) := by decide +kernel
theorem dX10_both_85 : decode cX10_both 85 = .ok (.aload_n 0, 1) := by decide +kernel
theorem dX10_both_86 : decode cX10_both 86 = .ok (.getfield 38, 3) := by decide +kernel
theorem dX10_both_89 : decode cX10_both 89 = .ok (.iload_n 2, 1) := by decide +kernel
theorem dX10_both_90 : decode cX10_both 90 = .ok (.iload_n 3, 1) := by decide +kernel
theorem dX10_both_91 : decode cX10_both 91 = .ok (.iastore, 1) := by decide +kernel
theorem dX10_both_92 : decode cX10_both 92 = .ok (.aload_n 0, 1) := by decide +kernel
theorem dX10_both_93 : decode cX10_both 93 = .ok (.getfield 41, 3) := by decide +kernel
theorem dX10_both_96 : decode cX10_both 96 = .ok (.iload_n 2, 1) := by decide +kernel
theorem dX10_both_97 : decode cX10_both 97 = .ok (.iload 4, 2) := by decide +kernel
theorem dX10_both_99 : decode cX10_both 99 = .ok (.iastore, 1) := by decide +kernel
theorem dX10_both_100 : decode cX10_both 100 = .ok (.aload_n 0, 1) := by decide +kernel
theorem dX10_both_101 : decode cX10_both 101 = .ok (.getfield 44, 3) := by decide +kernel
theorem dX10_both_104 : decode cX10_both 104 = .ok (.iload_n 2, 1) := by decide +kernel
theorem dX10_both_105 : decode cX10_both 105 = .ok (.aload_n 0, 1) := by decide +kernel
theorem dX10_both_106 : decode cX10_both 106 = .ok (.getfield 44, 3) := by decide +kernel
theorem dX10_both_109 : decode cX10_both 109 = .ok (.iload_n 1, 1) := by decide +kernel
theorem dX10_both_110 : decode cX10_both 110 = .ok (.baload, 1) := by decide +kernel
theorem dX10_both_111 : decode cX10_both 111 = .ok (.ifCond .eq 16, 3) := by decide +kernel
theorem dX10_both_114 : decode cX10_both 114 = .ok (.aload_n 0, 1) := by decide +kernel
theorem dX10_both_115 : decode cX10_both 115 = .ok (.getfield 44, 3) := by decide +kernel
theorem dX10_both_118 : decode cX10_both 118 = .ok (.iload_n 2, 1) := by decide +kernel
theorem dX10_both_119 : decode cX10_both 119 = .ok (.baload, 1) := by decide +kernel
theorem dX10_both_120 : decode cX10_both 120 = .ok (.ifCond .eq 7, 3) := by decide +kernel
theorem dX10_both_123 : decode cX10_both 123 = .ok (.iconst 1, 1) := by decide +kernel
theorem dX10_both_124 : decode cX10_both 124 = .ok (.goto 4, 3) := by decide +kernel
theorem dX10_both_127 : decode cX10_both 127 = .ok (.iconst 0, 1) := by decide +kernel
theorem dX10_both_128 : decode cX10_both 128 = .ok (.bastore, 1) := by decide +kernel
theorem dX10_both_129 : decode cX10_both 129 = .ok (.aload_n 0, 1) := by decide +kernel
theorem dX10_both_130 : decode cX10_both 130 = .ok (.dup, 1) := by decide +kernel
theorem dX10_both_131 : decode cX10_both 131 = .ok (.getfield 130, 3) := by decide +kernel
theorem dX10_both_134 : decode cX10_both 134 = .ok (.iconst 1, 1) := by decide +kernel
theorem dX10_both_135 : decode cX10_both 135 = .ok (.isub, 1) := by decide +kernel
theorem dX10_both_136 : decode cX10_both 136 = .ok (.putfield 130, 3) := by decide +kernel
theorem dX10_both_139 : decode cX10_both 139 = .ok (.return_, 1) := by decide +kernel
theorem dX10_either_0 : decode cX10_either 0 = .ok (.aload_n 0, 1) := by decide +kernel
theorem dX10_either_1 : decode cX10_either 1 = .ok (.getfield 130, 3) := by decide +kernel
theorem dX10_either_4 : decode cX10_either 4 = .ok (.iconst 1, 1) := by decide +kernel
theorem dX10_either_5 : decode cX10_either 5 = .ok (.isub, 1) := by decide +kernel
theorem dX10_either_6 : decode cX10_either 6 = .ok (.istore_n 1, 1) := by decide +kernel
theorem dX10_either_7 : decode cX10_either 7 = .ok (.aload_n 0, 1) := by decide +kernel
theorem dX10_either_8 : decode cX10_either 8 = .ok (.getfield 130, 3) := by decide +kernel
theorem dX10_either_11 : decode cX10_either 11 = .ok (.iconst 2, 1) := by decide +kernel
theorem dX10_either_12 : decode cX10_either 12 = .ok (.isub, 1) := by decide +kernel
theorem dX10_either_13 : decode cX10_either 13 = .ok (.istore_n 2, 1) := by decide +kernel
theorem dX10_either_14 : decode cX10_either 14 = .ok (.aload_n 0, 1) := by decide +kernel
theorem dX10_either_15 : decode cX10_either 15 = .ok (.getfield 38, 3) := by decide +kernel
theorem dX10_either_18 : decode cX10_either 18 = .ok (.iload_n 2, 1) := by decide +kernel
theorem dX10_either_19 : decode cX10_either 19 = .ok (.dup2, 1) := by decide +kernel
theorem dX10_either_20 : decode cX10_either 20 = .ok (.iaload, 1) := by decide +kernel
theorem dX10_either_21 : decode cX10_either 21 = .ok (.aload_n 0, 1) := by decide +kernel
theorem dX10_either_22 : decode cX10_either 22 = .ok (.getfield 38, 3) := by decide +kernel
theorem dX10_either_25 : decode cX10_either 25 = .ok (.iload_n 1, 1) := by decide +kernel
theorem dX10_either_26 : decode cX10_either 26 = .ok (.iaload, 1) := by decide +kernel
theorem dX10_either_27 : decode cX10_either 27 = .ok (.ior, 1) := by decide +kernel
theorem dX10_either_28 : decode cX10_either 28 = .ok (.iastore, 1) := by decide +kernel
theorem dX10_either_29 : decode cX10_either 29 = .ok (.aload_n 0, 1) := by decide +kernel
theorem dX10_either_30 : decode cX10_either 30 = .ok (.getfield 41, 3) := by decide +kernel
theorem dX10_either_33 : decode cX10_either 33 = .ok (.iload_n 2, 1) := by decide +kernel
theorem dX10_either_34 : decode cX10_either 34 = .ok (.dup2, 1) := by decide +kernel
theorem dX10_either_35 : decode cX10_either 35 = .ok (.iaload, 1) := by decide +kernel
theorem dX10_either_36 : decode cX10_either 36 = .ok (.aload_n 0, 1) := by decide +kernel
theorem dX10_either_37 : decode cX10_either 37 = .ok (.getfield 41, 3) := by decide +kernel
theorem dX10_either_40 : decode cX10_either 40 = .ok (.iload_n 1, 1) := by decide +kernel
theorem dX10_either_41 : decode cX10_either 41 = .ok (.iaload, 1) := by decide +kernel
theorem dX10_either_42 : decode cX10_either 42 = .ok (.ior, 1) := by decide +kernel
theorem dX10_either_43 : decode cX10_either 43 = .ok (.iastore, 1) := by decide +kernel
theorem dX10_either_44 : decode cX10_either 44 = .ok (.aload_n 0, 1) := by decide +kernel
theorem dX10_either_45 : decode cX10_either 45 = .ok (.getfield 44, 3) := by decide +kernel
theorem dX10_either_48 : decode cX10_either 48 = .ok (.iload_n 2, 1) := by decide +kernel
theorem dX10_either_49 : decode cX10_either 49 = .ok (.aload_n 0, 1) := by decide +kernel
theorem dX10_either_50 : decode cX10_either 50 = .ok (.getfield 44, 3) := by decide +kernel
theorem dX10_either_53 : decode cX10_either 53 = .ok (.iload_n 1, 1) := by decide +kernel
theorem dX10_either_54 : decode cX10_either 54 = .ok (.baload, 1) := by decide +kernel
theorem dX10_either_55 : decode cX10_either 55 = .ok (.ifCond .ne 12, 3) := by decide +kernel
theorem dX10_either_58 : decode cX10_either 58 = .ok (.aload_n 0, 1) := by decide +kernel
theorem dX10_either_59 : decode cX10_either 59 = .ok (.getfield 44, 3) := by decide +kernel
theorem dX10_either_62 : decode cX10_either 62 = .ok (.iload_n 2, 1) := by decide +kernel
theorem dX10_either_63 : decode cX10_either 63 = .ok (.baload, 1) := by decide +kernel
theorem dX10_either_64 : decode cX10_either 64 = .ok (.ifCond .eq 7, 3) := by decide +kernel
theorem dX10_either_67 : decode cX10_either 67 = .ok (.iconst 1, 1) := by decide +kernel
theorem dX10_either_68 : decode cX10_either 68 = .ok (.goto 4, 3) := by decide +kernel
theorem dX10_either_71 : decode cX10_either 71 = .ok (.iconst 0, 1) := by decide +kernel
theorem dX10_either_72 : decode cX10_either 72 = .ok (.bastore, 1) := by decide +kernel
theorem dX10_either_73 : decode cX10_either 73 = .ok (.aload_n 0, 1) := by decide +kernel
theorem dX10_either_74 : decode cX10_either 74 = .ok (.dup, 1) := by decide +kernel
theorem dX10_either_75 : decode cX10_either 75 = .ok (.getfield 130, 3) := by decide +kernel
theorem dX10_either_78 : decode cX10_either 78 = .ok (.iconst 1, 1) := by decide +kernel
theorem dX10_either_79 : decode cX10_either 79 = .ok (.isub, 1) := by decide +kernel
theorem dX10_either_80 : decode cX10_either 80 = .ok (.putfield 130, 3) := by decide +kernel
theorem dX10_either_83 : decode cX10_either 83 = .ok (.return_, 1) := by decide +kernel
theorem dX10_again_0 : decode cX10_again 0 = .ok (.aload_n 0, 1) := by decide +kernel
theorem dX10_again_1 : decode cX10_again 1 = .ok (.aload_n 0, 1) := by decide +kernel
theorem dX10_again_2 : decode cX10_again 2 = .ok (.getfield 41, 3) := by decide +kernel
theorem dX10_again_5 : decode cX10_again 5 = .ok (.aload_n 0, 1) := by decide +kernel
theorem dX10_again_6 : decode cX10_again 6 = .ok (.getfield 130, 3) := by decide +kernel
theorem dX10_again_9 : decode cX10_again 9 = .ok (.iconst 1, 1) := by decide +kernel
theorem dX10_again_10 : decode cX10_again 10 = .ok (.isub, 1) := by decide +kernel
theorem dX10_again_11 : decode cX10_again 11 = .ok (.iaload, 1) := by decide +kernel
theorem dX10_again_12 : decode cX10_again 12 = .ok (.aload_n 0, 1) := by decide +kernel
theorem dX10_again_13 : decode cX10_again 13 = .ok (.getfield 38, 3) := by decide +kernel
theorem dX10_again_16 : decode cX10_again 16 = .ok (.aload_n 0, 1) := by decide +kernel
theorem dX10_again_17 : decode cX10_again 17 = .ok (.getfield 130, 3) := by decide +kernel
theorem dX10_again_20 : decode cX10_again 20 = .ok (.iconst 1, 1) := by decide +kernel
theorem dX10_again_21 : decode cX10_again 21 = .ok (.isub, 1) := by decide +kernel
theorem dX10_again_22 : decode cX10_again 22 = .ok (.iaload, 1) := by decide +kernel
theorem dX10_again_23 : decode cX10_again 23 = .ok (.invokevirtual 137, 3) := by decide +kernel
theorem dX10_again_26 : decode cX10_again 26 = .ok (.return_, 1) := by decide +kernel
theorem dX10_any_0 : decode cX10_any 0 = .ok (.aload_n 0, 1) := by decide +kernel
theorem dX10_any_1 : decode cX10_any 1 = .ok (.invokevirtual 85, 3) := by decide +kernel
theorem dX10_any_4 : decode cX10_any 4 = .ok (.aload_n 0, 1) := by decide +kernel
theorem dX10_any_5 : decode cX10_any 5 = .ok (.invokevirtual 82, 3) := by decide +kernel
theorem dX10_any_8 : decode cX10_any 8 = .ok (.return_, 1) := by decide +kernel
theorem dX10_maybe_0 : decode cX10_maybe 0 = .ok (.aload_n 0, 1) := by decide +kernel
theorem dX10_maybe_1 : decode cX10_maybe 1 = .ok (.getfield 44, 3) := by decide +kernel
theorem dX10_maybe_4 : decode cX10_maybe 4 = .ok (.aload_n 0, 1) := by decide +kernel
theorem dX10_maybe_5 : decode cX10_maybe 5 = .ok (.getfield 130, 3) := by decide +kernel
theorem dX10_maybe_8 : decode cX10_maybe 8 = .ok (.iconst 1, 1) := by decide +kernel
theorem dX10_maybe_9 : decode cX10_maybe 9 = .ok (.isub, 1) := by decide +kernel
theorem dX10_maybe_10 : decode cX10_maybe 10 = .ok (.iconst 1, 1) := by decide +kernel
theorem dX10_maybe_11 : decode cX10_maybe 11 = .ok (.bastore, 1) := by decide +kernel
theorem dX10_maybe_12 : decode cX10_maybe 12 = .ok (.return_, 1) := by decide +kernel
theorem dX10_ends_0 : decode cX10_ends 0 = .ok (.aload_n 0, 1) := by decide +kernel
theorem dX10_ends_1 : decode cX10_ends 1 = .ok (.getfield 19, 3) := by decide +kernel
theorem dX10_ends_4 : decode cX10_ends 4 = .ok (.iconst 0, 1) := by decide +kernel
theorem dX10_ends_5 : decode cX10_ends 5 = .ok (.aload_n 0, 1) := by decide +kernel
theorem dX10_ends_6 : decode cX10_ends 6 = .ok (.getfield 107, 3) := by decide +kernel
theorem dX10_ends_9 : decode cX10_ends 9 = .ok (.iadd, 1) := by decide +kernel
theorem dX10_ends_10 : decode cX10_ends 10 = .ok (.aload_n 0, 1) := by decide +kernel
theorem dX10_ends_11 : decode cX10_ends 11 = .ok (.getfield 38, 3) := by decide +kernel
theorem dX10_ends_14 : decode cX10_ends 14 = .ok (.iconst 0, 1) := by decide +kernel
theorem dX10_ends_15 : decode cX10_ends 15 = .ok (.iaload, 1) := by decide +kernel
theorem dX10_ends_16 : decode cX10_ends 16 = .ok (.iastore, 1) := by decide +kernel
theorem dX10_ends_17 : decode cX10_ends 17 = .ok (.aload_n 0, 1) := by decide +kernel
theorem dX10_ends_18 : decode cX10_ends 18 = .ok (.getfield 19, 3) := by decide +kernel
theorem dX10_ends_21 : decode cX10_ends 21 = .ok (.iconst 4, 1) := by decide +kernel
theorem dX10_ends_22 : decode cX10_ends 22 = .ok (.aload_n 0, 1) := by decide +kernel
theorem dX10_ends_23 : decode cX10_ends 23 = .ok (.getfield 107, 3) := by decide +kernel
theorem dX10_ends_26 : decode cX10_ends 26 = .ok (.iadd, 1) := by decide +kernel
theorem dX10_ends_27 : decode cX10_ends 27 = .ok (.aload_n 0, 1) := by decide +kernel
theorem dX10_ends_28 : decode cX10_ends 28 = .ok (.getfield 41, 3) := by decide +kernel
theorem dX10_ends_31 : decode cX10_ends 31 = .ok (.iconst 0, 1) := by decide +kernel
theorem dX10_ends_32 : decode cX10_ends 32 = .ok (.iaload, 1) := by decide +kernel
theorem dX10_ends_33 : decode cX10_ends 33 = .ok (.iastore, 1) := by decide +kernel
theorem dX10_ends_34 : decode cX10_ends 34 = .ok (.aload_n 0, 1) := by decide +kernel
theorem dX10_ends_35 : decode cX10_ends 35 = .ok (.getfield 19, 3) := by decide +kernel
theorem dX10_ends_38 : decode cX10_ends 38 = .ok (.bipush 8, 2) := by decide +kernel
theorem dX10_ends_40 : decode cX10_ends 40 = .ok (.aload_n 0, 1) := by decide +kernel
theorem dX10_ends_41 : decode cX10_ends 41 = .ok (.getfield 107, 3) := by decide +kernel
theorem dX10_ends_44 : decode cX10_ends 44 = .ok (.iadd, 1) := by decide +kernel
theorem dX10_ends_45 : decode cX10_ends 45 = .ok (.iconst 1, 1) := by decide +kernel
theorem dX10_ends_46 : decode cX10_ends 46 = .ok (.iload_n 2, 1) := by decide +kernel
theorem dX10_ends_47 : decode cX10_ends 47 = .ok (.ishl, 1) := by decide +kernel
theorem dX10_ends_48 : decode cX10_ends 48 = .ok (.iconst 1, 1) := by decide +kernel
theorem dX10_ends_49 : decode cX10_ends 49 = .ok (.isub, 1) := by decide +kernel
theorem dX10_ends_50 : decode cX10_ends 50 = .ok (.aload_n 0, 1) := by decide +kernel
theorem dX10_ends_51 : decode cX10_ends 51 = .ok (.getfield 111, 3) := by decide +kernel
theorem dX10_ends_54 : decode cX10_ends 54 = .ok (.ishl, 1) := by decide +kernel
theorem dX10_ends_55 : decode cX10_ends 55 = .ok (.iastore, 1) := by decide +kernel
theorem dX10_ends_56 : decode cX10_ends 56 = .ok (.aload_n 0, 1) := by decide +kernel
theorem dX10_ends_57 : decode cX10_ends 57 = .ok (.getfield 28, 3) := by decide +kernel
theorem dX10_ends_60 : decode cX10_ends 60 = .ok (.bipush 26, 2) := by decide +kernel
theorem dX10_ends_62 : decode cX10_ends 62 = .ok (.aload_n 0, 1) := by decide +kernel
theorem dX10_ends_63 : decode cX10_ends 63 = .ok (.getfield 107, 3) := by decide +kernel
theorem dX10_ends_66 : decode cX10_ends 66 = .ok (.iadd, 1) := by decide +kernel
theorem dX10_ends_67 : decode cX10_ends 67 = .ok (.iload_n 1, 1) := by decide +kernel
theorem dX10_ends_68 : decode cX10_ends 68 = .ok (.iastore, 1) := by decide +kernel
theorem dX10_ends_69 : decode cX10_ends 69 = .ok (.aload_n 0, 1) := by decide +kernel
theorem dX10_ends_70 : decode cX10_ends 70 = .ok (.dup, 1) := by decide +kernel
theorem dX10_ends_71 : decode cX10_ends 71 = .ok (.getfield 111, 3) := by decide +kernel
theorem dX10_ends_74 : decode cX10_ends 74 = .ok (.iload_n 2, 1) := by decide +kernel
theorem dX10_ends_75 : decode cX10_ends 75 = .ok (.iadd, 1) := by decide +kernel
theorem dX10_ends_76 : decode cX10_ends 76 = .ok (.putfield 111, 3) := by decide +kernel
theorem dX10_ends_79 : decode cX10_ends 79 = .ok (.aload_n 0, 1) := by decide +kernel

theorem dL_lot_0 : decode cL_lot 0 = .ok (.iload_n 1, 1) := by decide +kernel
theorem dL_lot_1 : decode cL_lot 1 = .ok (.aload_n 0, 1) := by decide +kernel
theorem dL_lot_2 : decode cL_lot 2 = .ok (.arraylength, 1) := by decide +kernel
theorem dL_lot_3 : decode cL_lot 3 = .ok (.if_icmp .ge 9, 3) := by decide +kernel
theorem dL_lot_6 : decode cL_lot 6 = .ok (.aload_n 0, 1) := by decide +kernel
theorem dL_lot_7 : decode cL_lot 7 = .ok (.iload_n 1, 1) := by decide +kernel
theorem dL_lot_8 : decode cL_lot 8 = .ok (.iaload, 1) := by decide +kernel
theorem dL_lot_9 : decode cL_lot 9 = .ok (.goto 15, 3) := by decide +kernel
theorem dL_lot_12 : decode cL_lot 12 = .ok (.ldc 7, 2) := by decide +kernel
theorem dL_lot_14 : decode cL_lot 14 = .ok (.iload_n 1, 1) := by decide +kernel
theorem dL_lot_15 : decode cL_lot 15 = .ok (.sipush 2551, 3) := by decide +kernel
theorem dL_lot_18 : decode cL_lot 18 = .ok (.iadd, 1) := by decide +kernel
theorem dL_lot_19 : decode cL_lot 19 = .ok (.imul, 1) := by decide +kernel
theorem dL_lot_20 : decode cL_lot 20 = .ok (.sipush 2341, 3) := by decide +kernel
theorem dL_lot_23 : decode cL_lot 23 = .ok (.iadd, 1) := by decide +kernel
theorem dL_lot_24 : decode cL_lot 24 = .ok (.ireturn, 1) := by decide +kernel
theorem dL_low_0 : decode cL_low 0 = .ok (.iload_n 0, 1) := by decide +kernel
theorem dL_low_1 : decode cL_low 1 = .ok (.ldc 8, 2) := by decide +kernel
theorem dL_low_3 : decode cL_low 3 = .ok (.iand, 1) := by decide +kernel
theorem dL_low_4 : decode cL_low 4 = .ok (.iload_n 1, 1) := by decide +kernel
theorem dL_low_5 : decode cL_low 5 = .ok (.irem, 1) := by decide +kernel
theorem dL_low_6 : decode cL_low 6 = .ok (.ireturn, 1) := by decide +kernel
theorem dL_paths_0 : decode cL_paths 0 = .ok (.aload_n 0, 1) := by decide +kernel
theorem dL_paths_1 : decode cL_paths 1 = .ok (.iconst 0, 1) := by decide +kernel
theorem dL_paths_2 : decode cL_paths 2 = .ok (.invokevirtual 9, 3) := by decide +kernel
theorem dL_paths_5 : decode cL_paths 5 = .ok (.istore_n 1, 1) := by decide +kernel
theorem dL_paths_6 : decode cL_paths 6 = .ok (.iconst 0, 1) := by decide +kernel
theorem dL_paths_7 : decode cL_paths 7 = .ok (.istore_n 2, 1) := by decide +kernel
theorem dL_paths_8 : decode cL_paths 8 = .ok (.iconst 0, 1) := by decide +kernel
theorem dL_paths_9 : decode cL_paths 9 = .ok (.istore_n 3, 1) := by decide +kernel
theorem dL_paths_10 : decode cL_paths 10 = .ok (.iconst 0, 1) := by decide +kernel
theorem dL_paths_11 : decode cL_paths 11 = .ok (.istore 4, 2) := by decide +kernel
theorem dL_paths_13 : decode cL_paths 13 = .ok (.iconst 0, 1) := by decide +kernel
theorem dL_paths_14 : decode cL_paths 14 = .ok (.istore 5, 2) := by decide +kernel
theorem dL_paths_16 : decode cL_paths 16 = .ok (.iload 5, 2) := by decide +kernel
theorem dL_paths_18 : decode cL_paths 18 = .ok (.iload_n 1, 1) := by decide +kernel
theorem dL_paths_19 : decode cL_paths 19 = .ok (.if_icmp .ge 420, 3) := by decide +kernel
theorem dL_paths_22 : decode cL_paths 22 = .ok (.aload_n 0, 1) := by decide +kernel
theorem dL_paths_23 : decode cL_paths 23 = .ok (.iload 5, 2) := by decide +kernel
theorem dL_paths_25 : decode cL_paths 25 = .ok (.invokevirtual 15, 3) := by decide +kernel
theorem dL_paths_28 : decode cL_paths 28 = .ok (.istore 6, 2) := by decide +kernel
theorem dL_paths_30 : decode cL_paths 30 = .ok (.aload_n 0, 1) := by decide +kernel
theorem dL_paths_31 : decode cL_paths 31 = .ok (.iload 5, 2) := by decide +kernel
theorem dL_paths_33 : decode cL_paths 33 = .ok (.iconst 5, 1) := by decide +kernel
theorem dL_paths_34 : decode cL_paths 34 = .ok (.invokevirtual 18, 3) := by decide +kernel
theorem dL_paths_37 : decode cL_paths 37 = .ok (.istore 7, 2) := by decide +kernel
theorem dL_paths_39 : decode cL_paths 39 = .ok (.aload_n 0, 1) := by decide +kernel
theorem dL_paths_40 : decode cL_paths 40 = .ok (.iload 5, 2) := by decide +kernel
theorem dL_paths_42 : decode cL_paths 42 = .ok (.bipush 6, 2) := by decide +kernel
theorem dL_paths_44 : decode cL_paths 44 = .ok (.invokevirtual 18, 3) := by decide +kernel
theorem dL_paths_47 : decode cL_paths 47 = .ok (.istore 8, 2) := by decide +kernel
theorem dL_paths_49 : decode cL_paths 49 = .ok (.aload_n 0, 1) := by decide +kernel
theorem dL_paths_50 : decode cL_paths 50 = .ok (.iload 5, 2) := by decide +kernel
theorem dL_paths_52 : decode cL_paths 52 = .ok (.iconst 4, 1) := by decide +kernel
theorem dL_paths_53 : decode cL_paths 53 = .ok (.invokevirtual 18, 3) := by decide +kernel
theorem dL_paths_56 : decode cL_paths 56 = .ok (.istore 9, 2) := by decide +kernel
theorem dL_paths_58 : decode cL_paths 58 = .ok (.aload_n 0, 1) := by decide +kernel
theorem dL_paths_59 : decode cL_paths 59 = .ok (.iload 5, 2) := by decide +kernel
theorem dL_paths_61 : decode cL_paths 61 = .ok (.bipush 8, 2) := by decide +kernel
theorem dL_paths_63 : decode cL_paths 63 = .ok (.invokevirtual 18, 3) := by decide +kernel
theorem dL_paths_66 : decode cL_paths 66 = .ok (.istore 10, 2) := by decide +kernel
theorem dL_paths_68 : decode cL_paths 68 = .ok (.iload_n 2, 1) := by decide +kernel
theorem dL_paths_69 : decode cL_paths 69 = .ok (.iconst 1, 1) := by decide +kernel
theorem dL_paths_70 : decode cL_paths 70 = .ok (.iload 6, 2) := by decide +kernel
theorem dL_paths_72 : decode cL_paths 72 = .ok (.ishl, 1) := by decide +kernel
theorem dL_paths_73 : decode cL_paths 73 = .ok (.ior, 1) := by decide +kernel
theorem dL_paths_74 : decode cL_paths 74 = .ok (.istore_n 2, 1) := by decide +kernel
theorem dL_paths_75 : decode cL_paths 75 = .ok (.iload_n 3, 1) := by decide +kernel
theorem dL_paths_76 : decode cL_paths 76 = .ok (.aload_n 0, 1) := by decide +kernel
theorem dL_paths_77 : decode cL_paths 77 = .ok (.iload 5, 2) := by decide +kernel
theorem dL_paths_79 : decode cL_paths 79 = .ok (.bipush 13, 2) := by decide +kernel
theorem dL_paths_81 : decode cL_paths 81 = .ok (.invokevirtual 18, 3) := by decide +kernel
theorem dL_paths_84 : decode cL_paths 84 = .ok (.iadd, 1) := by decide +kernel
theorem dL_paths_85 : decode cL_paths 85 = .ok (.istore_n 3, 1) := by decide +kernel
theorem dL_paths_86 : decode cL_paths 86 = .ok (.iload 4, 2) := by decide +kernel
theorem dL_paths_88 : decode cL_paths 88 = .ok (.aload_n 0, 1) := by decide +kernel
theorem dL_paths_89 : decode cL_paths 89 = .ok (.iload 5, 2) := by decide +kernel
theorem dL_paths_91 : decode cL_paths 91 = .ok (.iconst 0, 1) := by decide +kernel
theorem dL_paths_92 : decode cL_paths 92 = .ok (.invokevirtual 22, 3) := by decide +kernel
theorem dL_paths_95 : decode cL_paths 95 = .ok (.ldc 27, 2) := by decide +kernel
theorem dL_paths_97 : decode cL_paths 97 = .ok (.if_icmp .ne 7, 3) := by decide +kernel
theorem dL_paths_100 : decode cL_paths 100 = .ok (.iconst 0, 1) := by decide +kernel
theorem dL_paths_101 : decode cL_paths 101 = .ok (.goto 4, 3) := by decide +kernel
theorem dL_paths_104 : decode cL_paths 104 = .ok (.iconst 1, 1) := by decide +kernel
theorem dL_paths_105 : decode cL_paths 105 = .ok (.iadd, 1) := by decide +kernel
theorem dL_paths_106 : decode cL_paths 106 = .ok (.istore 4, 2) := by decide +kernel
theorem dL_paths_108 : decode cL_paths 108 = .ok (.iload 7, 2) := by decide +kernel
theorem dL_paths_110 : decode cL_paths 110 = .ok (.ldc 27, 2) := by decide +kernel
theorem dL_paths_112 : decode cL_paths 112 = .ok (.if_icmp .ne 7, 3) := by decide +kernel
theorem dL_paths_115 : decode cL_paths 115 = .ok (.iconst 1, 1) := by decide +kernel
theorem dL_paths_116 : decode cL_paths 116 = .ok (.goto 4, 3) := by decide +kernel
theorem dL_paths_119 : decode cL_paths 119 = .ok (.iconst 0, 1) := by decide +kernel
theorem dL_paths_120 : decode cL_paths 120 = .ok (.iload 8, 2) := by decide +kernel
theorem dL_paths_122 : decode cL_paths 122 = .ok (.ldc 27, 2) := by decide +kernel
theorem dL_paths_124 : decode cL_paths 124 = .ok (.if_icmp .ne 7, 3) := by decide +kernel
theorem dL_paths_127 : decode cL_paths 127 = .ok (.iconst 1, 1) := by decide +kernel
theorem dL_paths_128 : decode cL_paths 128 = .ok (.goto 4, 3) := by decide +kernel
theorem dL_paths_131 : decode cL_paths 131 = .ok (.iconst 0, 1) := by decide +kernel
theorem dL_paths_132 : decode cL_paths 132 = .ok (.if_icmp .ne 242, 3) := by decide +kernel
theorem dL_paths_135 : decode cL_paths 135 = .ok (.iload 7, 2) := by decide +kernel
theorem dL_paths_137 : decode cL_paths 137 = .ok (.ldc 27, 2) := by decide +kernel
theorem dL_paths_139 : decode cL_paths 139 = .ok (.if_icmp .eq 36, 3) := by decide +kernel
theorem dL_paths_142 : decode cL_paths 142 = .ok (.iload 7, 2) := by decide +kernel
theorem dL_paths_144 : decode cL_paths 144 = .ok (.iload 9, 2) := by decide +kernel
theorem dL_paths_146 : decode cL_paths 146 = .ok (.sipush 1000, 3) := by decide +kernel
theorem dL_paths_149 : decode cL_paths 149 = .ok (.iadd, 1) := by decide +kernel
theorem dL_paths_150 : decode cL_paths 150 = .ok (.if_icmp .lt 224, 3) := by decide +kernel
theorem dL_paths_153 : decode cL_paths 153 = .ok (.iload 8, 2) := by decide +kernel
theorem dL_paths_155 : decode cL_paths 155 = .ok (.iload 9, 2) := by decide +kernel
theorem dL_paths_157 : decode cL_paths 157 = .ok (.sipush 1000, 3) := by decide +kernel
theorem dL_paths_160 : decode cL_paths 160 = .ok (.iadd, 1) := by decide +kernel
theorem dL_paths_161 : decode cL_paths 161 = .ok (.if_icmp .lt 213, 3) := by decide +kernel
theorem dL_paths_164 : decode cL_paths 164 = .ok (.aload_n 0, 1) := by decide +kernel
theorem dL_paths_165 : decode cL_paths 165 = .ok (.iload 5, 2) := by decide +kernel
theorem dL_paths_167 : decode cL_paths 167 = .ok (.invokevirtual 28, 3) := by decide +kernel
theorem dL_paths_170 : decode cL_paths 170 = .ok (.lconst 0, 1) := by decide +kernel
theorem dL_paths_171 : decode cL_paths 171 = .ok (.lcmp, 1) := by decide +kernel
theorem dL_paths_172 : decode cL_paths 172 = .ok (.ifCond .le 202, 3) := by decide +kernel
theorem dL_paths_175 : decode cL_paths 175 = .ok (.iload 7, 2) := by decide +kernel
theorem dL_paths_177 : decode cL_paths 177 = .ok (.ldc 27, 2) := by decide +kernel
theorem dL_paths_179 : decode cL_paths 179 = .ok (.if_icmp .ne 16, 3) := by decide +kernel
theorem dL_paths_182 : decode cL_paths 182 = .ok (.aload_n 0, 1) := by decide +kernel
theorem dL_paths_183 : decode cL_paths 183 = .ok (.iload 5, 2) := by decide +kernel
theorem dL_paths_185 : decode cL_paths 185 = .ok (.invokevirtual 28, 3) := by decide +kernel
theorem dL_paths_188 : decode cL_paths 188 = .ok (.ldc2_w 32, 3) := by decide +kernel
theorem dL_paths_191 : decode cL_paths 191 = .ok (.lcmp, 1) := by decide +kernel
theorem dL_paths_192 : decode cL_paths 192 = .ok (.ifCond .ne 182, 3) := by decide +kernel
theorem dL_paths_195 : decode cL_paths 195 = .ok (.aload_n 0, 1) := by decide +kernel
theorem dL_paths_196 : decode cL_paths 196 = .ok (.iload 5, 2) := by decide +kernel
theorem dL_paths_198 : decode cL_paths 198 = .ok (.bipush 13, 2) := by decide +kernel
theorem dL_paths_200 : decode cL_paths 200 = .ok (.invokevirtual 18, 3) := by decide +kernel
theorem dL_paths_203 : decode cL_paths 203 = .ok (.iconst 1, 1) := by decide +kernel
theorem dL_paths_204 : decode cL_paths 204 = .ok (.if_icmp .ne 7, 3) := by decide +kernel
theorem dL_paths_207 : decode cL_paths 207 = .ok (.iconst 1, 1) := by decide +kernel
theorem dL_paths_208 : decode cL_paths 208 = .ok (.goto 4, 3) := by decide +kernel
theorem dL_paths_211 : decode cL_paths 211 = .ok (.iconst 0, 1) := by decide +kernel
theorem dL_paths_212 : decode cL_paths 212 = .ok (.aload_n 0, 1) := by decide +kernel
theorem dL_paths_213 : decode cL_paths 213 = .ok (.iload 5, 2) := by decide +kernel
theorem dL_paths_215 : decode cL_paths 215 = .ok (.bipush 10, 2) := by decide +kernel
theorem dL_paths_217 : decode cL_paths 217 = .ok (.invokevirtual 18, 3) := by decide +kernel
theorem dL_paths_220 : decode cL_paths 220 = .ok (.iconst 2, 1) := by decide +kernel
theorem dL_paths_221 : decode cL_paths 221 = .ok (.if_icmp .le 7, 3) := by decide +kernel
theorem dL_paths_224 : decode cL_paths 224 = .ok (.iconst 1, 1) := by decide +kernel
theorem dL_paths_225 : decode cL_paths 225 = .ok (.goto 4, 3) := by decide +kernel
theorem dL_paths_228 : decode cL_paths 228 = .ok (.iconst 0, 1) := by decide +kernel
theorem dL_paths_229 : decode cL_paths 229 = .ok (.if_icmp .ne 145, 3) := by decide +kernel
theorem dL_paths_232 : decode cL_paths 232 = .ok (.iload 10, 2) := by decide +kernel
theorem dL_paths_234 : decode cL_paths 234 = .ok (.iconst 2, 1) := by decide +kernel
theorem dL_paths_235 : decode cL_paths 235 = .ok (.if_icmp .le 14, 3) := by decide +kernel
theorem dL_paths_238 : decode cL_paths 238 = .ok (.aload_n 0, 1) := by decide +kernel
theorem dL_paths_239 : decode cL_paths 239 = .ok (.iload 5, 2) := by decide +kernel
theorem dL_paths_241 : decode cL_paths 241 = .ok (.bipush 10, 2) := by decide +kernel
theorem dL_paths_243 : decode cL_paths 243 = .ok (.invokevirtual 18, 3) := by decide +kernel
theorem dL_paths_246 : decode cL_paths 246 = .ok (.ifCond .ne 128, 3) := by decide +kernel
theorem dL_paths_249 : decode cL_paths 249 = .ok (.iload 10, 2) := by decide +kernel
theorem dL_paths_251 : decode cL_paths 251 = .ok (.ifCond .lt 20, 3) := by decide +kernel
theorem dL_paths_254 : decode cL_paths 254 = .ok (.iload 10, 2) := by decide +kernel
theorem dL_paths_256 : decode cL_paths 256 = .ok (.iconst 3, 1) := by decide +kernel
theorem dL_paths_257 : decode cL_paths 257 = .ok (.if_icmp .ge 14, 3) := by decide +kernel
theorem dL_paths_260 : decode cL_paths 260 = .ok (.aload_n 0, 1) := by decide +kernel
theorem dL_paths_261 : decode cL_paths 261 = .ok (.iload 5, 2) := by decide +kernel
theorem dL_paths_263 : decode cL_paths 263 = .ok (.bipush 10, 2) := by decide +kernel
theorem dL_paths_265 : decode cL_paths 265 = .ok (.invokevirtual 18, 3) := by decide +kernel
theorem dL_paths_268 : decode cL_paths 268 = .ok (.ifCond .eq 106, 3) := by decide +kernel
theorem dL_paths_271 : decode cL_paths 271 = .ok (.iload 10, 2) := by decide +kernel
theorem dL_paths_273 : decode cL_paths 273 = .ok (.iconst 2, 1) := by decide +kernel
theorem dL_paths_274 : decode cL_paths 274 = .ok (.if_icmp .le 29, 3) := by decide +kernel
theorem dL_paths_277 : decode cL_paths 277 = .ok (.aload_n 0, 1) := by decide +kernel
theorem dL_paths_278 : decode cL_paths 278 = .ok (.iload 5, 2) := by decide +kernel
theorem dL_paths_280 : decode cL_paths 280 = .ok (.bipush 9, 2) := by decide +kernel
theorem dL_paths_282 : decode cL_paths 282 = .ok (.invokevirtual 18, 3) := by decide +kernel
theorem dL_paths_285 : decode cL_paths 285 = .ok (.ldc 34, 2) := by decide +kernel
theorem dL_paths_287 : decode cL_paths 287 = .ok (.if_icmp .lt 87, 3) := by decide +kernel
theorem dL_paths_290 : decode cL_paths 290 = .ok (.aload_n 0, 1) := by decide +kernel
theorem dL_paths_291 : decode cL_paths 291 = .ok (.iload 5, 2) := by decide +kernel
theorem dL_paths_293 : decode cL_paths 293 = .ok (.bipush 9, 2) := by decide +kernel
theorem dL_paths_295 : decode cL_paths 295 = .ok (.invokevirtual 18, 3) := by decide +kernel
theorem dL_paths_298 : decode cL_paths 298 = .ok (.ldc 35, 2) := by decide +kernel
theorem dL_paths_300 : decode cL_paths 300 = .ok (.if_icmp .gt 74, 3) := by decide +kernel
theorem dL_paths_303 : decode cL_paths 303 = .ok (.iload 5, 2) := by decide +kernel
theorem dL_paths_305 : decode cL_paths 305 = .ok (.ifCond .le 28, 3) := by decide +kernel
theorem dL_paths_308 : decode cL_paths 308 = .ok (.aload_n 0, 1) := by decide +kernel
theorem dL_paths_309 : decode cL_paths 309 = .ok (.iload 6, 2) := by decide +kernel
theorem dL_paths_311 : decode cL_paths 311 = .ok (.bipush 13, 2) := by decide +kernel
theorem dL_paths_313 : decode cL_paths 313 = .ok (.invokevirtual 18, 3) := by decide +kernel
theorem dL_paths_316 : decode cL_paths 316 = .ok (.aload_n 0, 1) := by decide +kernel
theorem dL_paths_317 : decode cL_paths 317 = .ok (.aload_n 0, 1) := by decide +kernel
theorem dL_paths_318 : decode cL_paths 318 = .ok (.iload 5, 2) := by decide +kernel
theorem dL_paths_320 : decode cL_paths 320 = .ok (.iconst 1, 1) := by decide +kernel
theorem dL_paths_321 : decode cL_paths 321 = .ok (.isub, 1) := by decide +kernel
theorem dL_paths_322 : decode cL_paths 322 = .ok (.invokevirtual 15, 3) := by decide +kernel
theorem dL_paths_325 : decode cL_paths 325 = .ok (.bipush 13, 2) := by decide +kernel
theorem dL_paths_327 : decode cL_paths 327 = .ok (.invokevirtual 18, 3) := by decide +kernel
theorem dL_paths_330 : decode cL_paths 330 = .ok (.if_icmp .lt 44, 3) := by decide +kernel
theorem dL_paths_333 : decode cL_paths 333 = .ok (.aload_n 0, 1) := by decide +kernel
theorem dL_paths_334 : decode cL_paths 334 = .ok (.iload 5, 2) := by decide +kernel
theorem dL_paths_336 : decode cL_paths 336 = .ok (.bipush 7, 2) := by decide +kernel
theorem dL_paths_338 : decode cL_paths 338 = .ok (.invokevirtual 18, 3) := by decide +kernel
theorem dL_paths_341 : decode cL_paths 341 = .ok (.ldc 27, 2) := by decide +kernel
theorem dL_paths_343 : decode cL_paths 343 = .ok (.if_icmp .eq 33, 3) := by decide +kernel
theorem dL_paths_346 : decode cL_paths 346 = .ok (.aload_n 0, 1) := by decide +kernel
theorem dL_paths_347 : decode cL_paths 347 = .ok (.iload 5, 2) := by decide +kernel
theorem dL_paths_349 : decode cL_paths 349 = .ok (.bipush 7, 2) := by decide +kernel
theorem dL_paths_351 : decode cL_paths 351 = .ok (.invokevirtual 18, 3) := by decide +kernel
theorem dL_paths_354 : decode cL_paths 354 = .ok (.sipush (-5000), 3) := by decide +kernel
theorem dL_paths_357 : decode cL_paths 357 = .ok (.if_icmp .lt 17, 3) := by decide +kernel
theorem dL_paths_360 : decode cL_paths 360 = .ok (.aload_n 0, 1) := by decide +kernel
theorem dL_paths_361 : decode cL_paths 361 = .ok (.iload 5, 2) := by decide +kernel
theorem dL_paths_363 : decode cL_paths 363 = .ok (.bipush 7, 2) := by decide +kernel
theorem dL_paths_365 : decode cL_paths 365 = .ok (.invokevirtual 18, 3) := by decide +kernel
theorem dL_paths_368 : decode cL_paths 368 = .ok (.sipush 5000, 3) := by decide +kernel
theorem dL_paths_371 : decode cL_paths 371 = .ok (.if_icmp .le 5, 3) := by decide +kernel
theorem dL_paths_374 : decode cL_paths 374 = .ok (.iconst 0, 1) := by decide +kernel
theorem dL_paths_375 : decode cL_paths 375 = .ok (.ireturn, 1) := by decide +kernel
theorem dL_paths_376 : decode cL_paths 376 = .ok (.iload 5, 2) := by decide +kernel
theorem dL_paths_378 : decode cL_paths 378 = .ok (.ifCond .le 55, 3) := by decide +kernel
theorem dL_paths_381 : decode cL_paths 381 = .ok (.aload_n 0, 1) := by decide +kernel
theorem dL_paths_382 : decode cL_paths 382 = .ok (.iload 6, 2) := by decide +kernel
theorem dL_paths_384 : decode cL_paths 384 = .ok (.bipush 13, 2) := by decide +kernel
theorem dL_paths_386 : decode cL_paths 386 = .ok (.invokevirtual 18, 3) := by decide +kernel
theorem dL_paths_389 : decode cL_paths 389 = .ok (.aload_n 0, 1) := by decide +kernel
theorem dL_paths_390 : decode cL_paths 390 = .ok (.aload_n 0, 1) := by decide +kernel
theorem dL_paths_391 : decode cL_paths 391 = .ok (.iload 5, 2) := by decide +kernel
theorem dL_paths_393 : decode cL_paths 393 = .ok (.iconst 1, 1) := by decide +kernel
theorem dL_paths_394 : decode cL_paths 394 = .ok (.isub, 1) := by decide +kernel
theorem dL_paths_395 : decode cL_paths 395 = .ok (.invokevirtual 15, 3) := by decide +kernel
theorem dL_paths_398 : decode cL_paths 398 = .ok (.bipush 13, 2) := by decide +kernel
theorem dL_paths_400 : decode cL_paths 400 = .ok (.invokevirtual 18, 3) := by decide +kernel
theorem dL_paths_403 : decode cL_paths 403 = .ok (.if_icmp .ne 30, 3) := by decide +kernel
theorem dL_paths_406 : decode cL_paths 406 = .ok (.aload_n 0, 1) := by decide +kernel
theorem dL_paths_407 : decode cL_paths 407 = .ok (.iload 6, 2) := by decide +kernel
theorem dL_paths_409 : decode cL_paths 409 = .ok (.bipush 10, 2) := by decide +kernel
theorem dL_paths_411 : decode cL_paths 411 = .ok (.invokevirtual 18, 3) := by decide +kernel
theorem dL_paths_414 : decode cL_paths 414 = .ok (.aload_n 0, 1) := by decide +kernel
theorem dL_paths_415 : decode cL_paths 415 = .ok (.aload_n 0, 1) := by decide +kernel
theorem dL_paths_416 : decode cL_paths 416 = .ok (.iload 5, 2) := by decide +kernel
theorem dL_paths_418 : decode cL_paths 418 = .ok (.iconst 1, 1) := by decide +kernel
theorem dL_paths_419 : decode cL_paths 419 = .ok (.isub, 1) := by decide +kernel
theorem dL_paths_420 : decode cL_paths 420 = .ok (.invokevirtual 15, 3) := by decide +kernel
theorem dL_paths_423 : decode cL_paths 423 = .ok (.bipush 10, 2) := by decide +kernel
theorem dL_paths_425 : decode cL_paths 425 = .ok (.invokevirtual 18, 3) := by decide +kernel
theorem dL_paths_428 : decode cL_paths 428 = .ok (.if_icmp .ge 5, 3) := by decide +kernel
theorem dL_paths_431 : decode cL_paths 431 = .ok (.iconst 0, 1) := by decide +kernel
theorem dL_paths_432 : decode cL_paths 432 = .ok (.ireturn, 1) := by decide +kernel
theorem dL_paths_433 : decode cL_paths 433 = .ok (.iinc 5 1, 3) := by decide +kernel
theorem dL_paths_436 : decode cL_paths 436 = .ok (.goto (-420), 3) := by decide +kernel
theorem dL_paths_439 : decode cL_paths 439 = .ok (.aload_n 0, 1) := by decide +kernel
theorem dL_paths_440 : decode cL_paths 440 = .ok (.invokevirtual 36, 3) := by decide +kernel
theorem dL_paths_443 : decode cL_paths 443 = .ok (.istore 5, 2) := by decide +kernel
theorem dL_paths_445 : decode cL_paths 445 = .ok (.iconst 0, 1) := by decide +kernel
theorem dL_paths_446 : decode cL_paths 446 = .ok (.istore 6, 2) := by decide +kernel
theorem dL_paths_448 : decode cL_paths 448 = .ok (.iconst 0, 1) := by decide +kernel
theorem dL_paths_449 : decode cL_paths 449 = .ok (.istore 7, 2) := by decide +kernel
theorem dL_paths_451 : decode cL_paths 451 = .ok (.iconst 0, 1) := by decide +kernel
theorem dL_paths_452 : decode cL_paths 452 = .ok (.istore 8, 2) := by decide +kernel
theorem dL_paths_454 : decode cL_paths 454 = .ok (.iload 8, 2) := by decide +kernel
theorem dL_paths_456 : decode cL_paths 456 = .ok (.iload_n 1, 1) := by decide +kernel
theorem dL_paths_457 : decode cL_paths 457 = .ok (.if_icmp .ge 132, 3) := by decide +kernel
theorem dL_paths_460 : decode cL_paths 460 = .ok (.aload_n 0, 1) := by decide +kernel
theorem dL_paths_461 : decode cL_paths 461 = .ok (.iload 8, 2) := by decide +kernel
theorem dL_paths_463 : decode cL_paths 463 = .ok (.invokevirtual 40, 3) := by decide +kernel
theorem dL_paths_466 : decode cL_paths 466 = .ok (.istore 9, 2) := by decide +kernel
theorem dL_paths_468 : decode cL_paths 468 = .ok (.iload 6, 2) := by decide +kernel
theorem dL_paths_470 : decode cL_paths 470 = .ok (.ifCond .ne 9, 3) := by decide +kernel
theorem dL_paths_473 : decode cL_paths 473 = .ok (.iload 9, 2) := by decide +kernel
theorem dL_paths_475 : decode cL_paths 475 = .ok (.iconst 2, 1) := by decide +kernel
theorem dL_paths_476 : decode cL_paths 476 = .ok (.if_icmp .ne 7, 3) := by decide +kernel
theorem dL_paths_479 : decode cL_paths 479 = .ok (.iconst 1, 1) := by decide +kernel
theorem dL_paths_480 : decode cL_paths 480 = .ok (.goto 4, 3) := by decide +kernel
theorem dL_paths_483 : decode cL_paths 483 = .ok (.iconst 0, 1) := by decide +kernel
theorem dL_paths_484 : decode cL_paths 484 = .ok (.istore 6, 2) := by decide +kernel
theorem dL_paths_486 : decode cL_paths 486 = .ok (.iload 7, 2) := by decide +kernel
theorem dL_paths_488 : decode cL_paths 488 = .ok (.ifCond .ne 9, 3) := by decide +kernel
theorem dL_paths_491 : decode cL_paths 491 = .ok (.iload 9, 2) := by decide +kernel
theorem dL_paths_493 : decode cL_paths 493 = .ok (.iconst 2, 1) := by decide +kernel
theorem dL_paths_494 : decode cL_paths 494 = .ok (.if_icmp .le 7, 3) := by decide +kernel
theorem dL_paths_497 : decode cL_paths 497 = .ok (.iconst 1, 1) := by decide +kernel
theorem dL_paths_498 : decode cL_paths 498 = .ok (.goto 4, 3) := by decide +kernel
theorem dL_paths_501 : decode cL_paths 501 = .ok (.iconst 0, 1) := by decide +kernel
theorem dL_paths_502 : decode cL_paths 502 = .ok (.istore 7, 2) := by decide +kernel
theorem dL_paths_504 : decode cL_paths 504 = .ok (.iload 9, 2) := by decide +kernel
theorem dL_paths_506 : decode cL_paths 506 = .ok (.ifCond .ne 7, 3) := by decide +kernel
theorem dL_paths_509 : decode cL_paths 509 = .ok (.iconst 1, 1) := by decide +kernel
theorem dL_paths_510 : decode cL_paths 510 = .ok (.goto 4, 3) := by decide +kernel
theorem dL_paths_513 : decode cL_paths 513 = .ok (.iconst 0, 1) := by decide +kernel
theorem dL_paths_514 : decode cL_paths 514 = .ok (.aload_n 0, 1) := by decide +kernel
theorem dL_paths_515 : decode cL_paths 515 = .ok (.iload 8, 2) := by decide +kernel
theorem dL_paths_517 : decode cL_paths 517 = .ok (.iconst 0, 1) := by decide +kernel
theorem dL_paths_518 : decode cL_paths 518 = .ok (.invokevirtual 22, 3) := by decide +kernel
theorem dL_paths_521 : decode cL_paths 521 = .ok (.ldc 27, 2) := by decide +kernel
theorem dL_paths_523 : decode cL_paths 523 = .ok (.if_icmp .ne 7, 3) := by decide +kernel
theorem dL_paths_526 : decode cL_paths 526 = .ok (.iconst 1, 1) := by decide +kernel
theorem dL_paths_527 : decode cL_paths 527 = .ok (.goto 4, 3) := by decide +kernel
theorem dL_paths_530 : decode cL_paths 530 = .ok (.iconst 0, 1) := by decide +kernel
theorem dL_paths_531 : decode cL_paths 531 = .ok (.if_icmp .ne 50, 3) := by decide +kernel
theorem dL_paths_534 : decode cL_paths 534 = .ok (.iload 9, 2) := by decide +kernel
theorem dL_paths_536 : decode cL_paths 536 = .ok (.iconst 1, 1) := by decide +kernel
theorem dL_paths_537 : decode cL_paths 537 = .ok (.if_icmp .ne 7, 3) := by decide +kernel
theorem dL_paths_540 : decode cL_paths 540 = .ok (.iconst 1, 1) := by decide +kernel
theorem dL_paths_541 : decode cL_paths 541 = .ok (.goto 4, 3) := by decide +kernel
theorem dL_paths_544 : decode cL_paths 544 = .ok (.iconst 0, 1) := by decide +kernel
theorem dL_paths_545 : decode cL_paths 545 = .ok (.aload_n 0, 1) := by decide +kernel
theorem dL_paths_546 : decode cL_paths 546 = .ok (.iload 8, 2) := by decide +kernel
theorem dL_paths_548 : decode cL_paths 548 = .ok (.iconst 2, 1) := by decide +kernel
theorem dL_paths_549 : decode cL_paths 549 = .ok (.invokevirtual 22, 3) := by decide +kernel
theorem dL_paths_552 : decode cL_paths 552 = .ok (.ldc 27, 2) := by decide +kernel
theorem dL_paths_554 : decode cL_paths 554 = .ok (.if_icmp .eq 23, 3) := by decide +kernel
theorem dL_paths_557 : decode cL_paths 557 = .ok (.aload_n 0, 1) := by decide +kernel
theorem dL_paths_558 : decode cL_paths 558 = .ok (.iload 8, 2) := by decide +kernel
theorem dL_paths_560 : decode cL_paths 560 = .ok (.iconst 2, 1) := by decide +kernel
theorem dL_paths_561 : decode cL_paths 561 = .ok (.invokevirtual 22, 3) := by decide +kernel
theorem dL_paths_564 : decode cL_paths 564 = .ok (.aload_n 0, 1) := by decide +kernel
theorem dL_paths_565 : decode cL_paths 565 = .ok (.bipush 10, 2) := by decide +kernel
theorem dL_paths_567 : decode cL_paths 567 = .ok (.invokevirtual 9, 3) := by decide +kernel
theorem dL_paths_570 : decode cL_paths 570 = .ok (.if_icmp .ge 7, 3) := by decide +kernel
theorem dL_paths_573 : decode cL_paths 573 = .ok (.iconst 1, 1) := by decide +kernel
theorem dL_paths_574 : decode cL_paths 574 = .ok (.goto 4, 3) := by decide +kernel
theorem dL_paths_577 : decode cL_paths 577 = .ok (.iconst 0, 1) := by decide +kernel
theorem dL_paths_578 : decode cL_paths 578 = .ok (.if_icmp .eq 5, 3) := by decide +kernel
theorem dL_paths_581 : decode cL_paths 581 = .ok (.iconst 0, 1) := by decide +kernel
theorem dL_paths_582 : decode cL_paths 582 = .ok (.ireturn, 1) := by decide +kernel
theorem dL_paths_583 : decode cL_paths 583 = .ok (.iinc 8 1, 3) := by decide +kernel
theorem dL_paths_586 : decode cL_paths 586 = .ok (.goto (-132), 3) := by decide +kernel
theorem dL_paths_589 : decode cL_paths 589 = .ok (.iload_n 2, 1) := by decide +kernel
theorem dL_paths_590 : decode cL_paths 590 = .ok (.iconst 1, 1) := by decide +kernel
theorem dL_paths_591 : decode cL_paths 591 = .ok (.iload_n 1, 1) := by decide +kernel
theorem dL_paths_592 : decode cL_paths 592 = .ok (.ishl, 1) := by decide +kernel
theorem dL_paths_593 : decode cL_paths 593 = .ok (.iconst 1, 1) := by decide +kernel
theorem dL_paths_594 : decode cL_paths 594 = .ok (.isub, 1) := by decide +kernel
theorem dL_paths_595 : decode cL_paths 595 = .ok (.if_icmp .ne 129, 3) := by decide +kernel
theorem dL_paths_598 : decode cL_paths 598 = .ok (.aload_n 0, 1) := by decide +kernel
theorem dL_paths_599 : decode cL_paths 599 = .ok (.iload_n 1, 1) := by decide +kernel
theorem dL_paths_600 : decode cL_paths 600 = .ok (.invokevirtual 15, 3) := by decide +kernel
theorem dL_paths_603 : decode cL_paths 603 = .ok (.ldc 27, 2) := by decide +kernel
theorem dL_paths_605 : decode cL_paths 605 = .ok (.if_icmp .ne 119, 3) := by decide +kernel
theorem dL_paths_608 : decode cL_paths 608 = .ok (.aload_n 0, 1) := by decide +kernel
theorem dL_paths_609 : decode cL_paths 609 = .ok (.bipush 7, 2) := by decide +kernel
theorem dL_paths_611 : decode cL_paths 611 = .ok (.invokevirtual 9, 3) := by decide +kernel
theorem dL_paths_614 : decode cL_paths 614 = .ok (.iload_n 3, 1) := by decide +kernel
theorem dL_paths_615 : decode cL_paths 615 = .ok (.if_icmp .ne 109, 3) := by decide +kernel
theorem dL_paths_618 : decode cL_paths 618 = .ok (.aload_n 0, 1) := by decide +kernel
theorem dL_paths_619 : decode cL_paths 619 = .ok (.iconst 2, 1) := by decide +kernel
theorem dL_paths_620 : decode cL_paths 620 = .ok (.invokevirtual 9, 3) := by decide +kernel
theorem dL_paths_623 : decode cL_paths 623 = .ok (.iload 4, 2) := by decide +kernel
theorem dL_paths_625 : decode cL_paths 625 = .ok (.if_icmp .ne 99, 3) := by decide +kernel
theorem dL_paths_628 : decode cL_paths 628 = .ok (.aload_n 0, 1) := by decide +kernel
theorem dL_paths_629 : decode cL_paths 629 = .ok (.iload_n 1, 1) := by decide +kernel
theorem dL_paths_630 : decode cL_paths 630 = .ok (.iconst 0, 1) := by decide +kernel
theorem dL_paths_631 : decode cL_paths 631 = .ok (.invokevirtual 18, 3) := by decide +kernel
theorem dL_paths_634 : decode cL_paths 634 = .ok (.ldc 43, 2) := by decide +kernel
theorem dL_paths_636 : decode cL_paths 636 = .ok (.if_icmp .ne 88, 3) := by decide +kernel
theorem dL_paths_639 : decode cL_paths 639 = .ok (.iload 6, 2) := by decide +kernel
theorem dL_paths_641 : decode cL_paths 641 = .ok (.iload 5, 2) := by decide +kernel
theorem dL_paths_643 : decode cL_paths 643 = .ok (.ldc 27, 2) := by decide +kernel
theorem dL_paths_645 : decode cL_paths 645 = .ok (.if_icmp .eq 14, 3) := by decide +kernel
theorem dL_paths_648 : decode cL_paths 648 = .ok (.iload 5, 2) := by decide +kernel
theorem dL_paths_650 : decode cL_paths 650 = .ok (.aload_n 0, 1) := by decide +kernel
theorem dL_paths_651 : decode cL_paths 651 = .ok (.bipush 11, 2) := by decide +kernel
theorem dL_paths_653 : decode cL_paths 653 = .ok (.invokevirtual 9, 3) := by decide +kernel
theorem dL_paths_656 : decode cL_paths 656 = .ok (.if_icmp .le 7, 3) := by decide +kernel
theorem dL_paths_659 : decode cL_paths 659 = .ok (.iconst 1, 1) := by decide +kernel
theorem dL_paths_660 : decode cL_paths 660 = .ok (.goto 4, 3) := by decide +kernel
theorem dL_paths_663 : decode cL_paths 663 = .ok (.iconst 0, 1) := by decide +kernel
theorem dL_paths_664 : decode cL_paths 664 = .ok (.if_icmp .ne 60, 3) := by decide +kernel
theorem dL_paths_667 : decode cL_paths 667 = .ok (.aload_n 0, 1) := by decide +kernel
theorem dL_paths_668 : decode cL_paths 668 = .ok (.invokevirtual 44, 3) := by decide +kernel
theorem dL_paths_671 : decode cL_paths 671 = .ok (.iload_n 1, 1) := by decide +kernel
theorem dL_paths_672 : decode cL_paths 672 = .ok (.ifCond .ne 8, 3) := by decide +kernel
theorem dL_paths_675 : decode cL_paths 675 = .ok (.ldc 47, 2) := by decide +kernel
theorem dL_paths_677 : decode cL_paths 677 = .ok (.goto 17, 3) := by decide +kernel
theorem dL_paths_680 : decode cL_paths 680 = .ok (.iload 7, 2) := by decide +kernel
theorem dL_paths_682 : decode cL_paths 682 = .ok (.ifCond .eq 10, 3) := by decide +kernel
theorem dL_paths_685 : decode cL_paths 685 = .ok (.aload_n 0, 1) := by decide +kernel
theorem dL_paths_686 : decode cL_paths 686 = .ok (.invokevirtual 44, 3) := by decide +kernel
theorem dL_paths_689 : decode cL_paths 689 = .ok (.goto 5, 3) := by decide +kernel
theorem dL_paths_692 : decode cL_paths 692 = .ok (.ldc 27, 2) := by decide +kernel
theorem dL_paths_694 : decode cL_paths 694 = .ok (.if_icmp .ne 30, 3) := by decide +kernel
theorem dL_paths_697 : decode cL_paths 697 = .ok (.iload_n 1, 1) := by decide +kernel
theorem dL_paths_698 : decode cL_paths 698 = .ok (.ifCond .eq 22, 3) := by decide +kernel
theorem dL_paths_701 : decode cL_paths 701 = .ok (.iload 7, 2) := by decide +kernel
theorem dL_paths_703 : decode cL_paths 703 = .ok (.aload_n 0, 1) := by decide +kernel
theorem dL_paths_704 : decode cL_paths 704 = .ok (.invokevirtual 44, 3) := by decide +kernel
theorem dL_paths_707 : decode cL_paths 707 = .ok (.ldc 27, 2) := by decide +kernel
theorem dL_paths_709 : decode cL_paths 709 = .ok (.if_icmp .eq 7, 3) := by decide +kernel
theorem dL_paths_712 : decode cL_paths 712 = .ok (.iconst 1, 1) := by decide +kernel
theorem dL_paths_713 : decode cL_paths 713 = .ok (.goto 4, 3) := by decide +kernel
theorem dL_paths_716 : decode cL_paths 716 = .ok (.iconst 0, 1) := by decide +kernel
theorem dL_paths_717 : decode cL_paths 717 = .ok (.if_icmp .ne 7, 3) := by decide +kernel
theorem dL_paths_720 : decode cL_paths 720 = .ok (.iconst 1, 1) := by decide +kernel
theorem dL_paths_721 : decode cL_paths 721 = .ok (.goto 4, 3) := by decide +kernel
theorem dL_paths_724 : decode cL_paths 724 = .ok (.iconst 0, 1) := by decide +kernel
theorem dL_paths_725 : decode cL_paths 725 = .ok (.ireturn, 1) := by decide +kernel
theorem dL_figures_0 : decode cL_figures 0 = .ok (.iconst 0, 1) := by decide +kernel
theorem dL_figures_1 : decode cL_figures 1 = .ok (.istore_n 1, 1) := by decide +kernel
theorem dL_figures_2 : decode cL_figures 2 = .ok (.iconst 0, 1) := by decide +kernel
theorem dL_figures_3 : decode cL_figures 3 = .ok (.istore_n 2, 1) := by decide +kernel
theorem dL_figures_4 : decode cL_figures 4 = .ok (.iconst 0, 1) := by decide +kernel
theorem dL_figures_5 : decode cL_figures 5 = .ok (.istore_n 3, 1) := by decide +kernel
theorem dL_figures_6 : decode cL_figures 6 = .ok (.aload_n 0, 1) := by decide +kernel
theorem dL_figures_7 : decode cL_figures 7 = .ok (.iconst 5, 1) := by decide +kernel
theorem dL_figures_8 : decode cL_figures 8 = .ok (.invokevirtual 9, 3) := by decide +kernel
theorem dL_figures_11 : decode cL_figures 11 = .ok (.istore 4, 2) := by decide +kernel
theorem dL_figures_13 : decode cL_figures 13 = .ok (.iconst 0, 1) := by decide +kernel
theorem dL_figures_14 : decode cL_figures 14 = .ok (.istore 5, 2) := by decide +kernel
theorem dL_figures_16 : decode cL_figures 16 = .ok (.iload 5, 2) := by decide +kernel
theorem dL_figures_18 : decode cL_figures 18 = .ok (.iload 4, 2) := by decide +kernel
theorem dL_figures_20 : decode cL_figures 20 = .ok (.if_icmp .ge 216, 3) := by decide +kernel
theorem dL_figures_23 : decode cL_figures 23 = .ok (.aload_n 0, 1) := by decide +kernel
theorem dL_figures_24 : decode cL_figures 24 = .ok (.iload 5, 2) := by decide +kernel
theorem dL_figures_26 : decode cL_figures 26 = .ok (.iconst 0, 1) := by decide +kernel
theorem dL_figures_27 : decode cL_figures 27 = .ok (.invokevirtual 48, 3) := by decide +kernel
theorem dL_figures_30 : decode cL_figures 30 = .ok (.istore 6, 2) := by decide +kernel
theorem dL_figures_32 : decode cL_figures 32 = .ok (.aload_n 0, 1) := by decide +kernel
theorem dL_figures_33 : decode cL_figures 33 = .ok (.iload 5, 2) := by decide +kernel
theorem dL_figures_35 : decode cL_figures 35 = .ok (.iconst 2, 1) := by decide +kernel
theorem dL_figures_36 : decode cL_figures 36 = .ok (.invokevirtual 48, 3) := by decide +kernel
theorem dL_figures_39 : decode cL_figures 39 = .ok (.istore 7, 2) := by decide +kernel
theorem dL_figures_41 : decode cL_figures 41 = .ok (.iload 6, 2) := by decide +kernel
theorem dL_figures_43 : decode cL_figures 43 = .ok (.ldc 27, 2) := by decide +kernel
theorem dL_figures_45 : decode cL_figures 45 = .ok (.if_icmp .ne 7, 3) := by decide +kernel
theorem dL_figures_48 : decode cL_figures 48 = .ok (.iconst 1, 1) := by decide +kernel
theorem dL_figures_49 : decode cL_figures 49 = .ok (.goto 4, 3) := by decide +kernel
theorem dL_figures_52 : decode cL_figures 52 = .ok (.iconst 0, 1) := by decide +kernel
theorem dL_figures_53 : decode cL_figures 53 = .ok (.iload 7, 2) := by decide +kernel
theorem dL_figures_55 : decode cL_figures 55 = .ok (.ifCond .ne 7, 3) := by decide +kernel
theorem dL_figures_58 : decode cL_figures 58 = .ok (.iconst 1, 1) := by decide +kernel
theorem dL_figures_59 : decode cL_figures 59 = .ok (.goto 4, 3) := by decide +kernel
theorem dL_figures_62 : decode cL_figures 62 = .ok (.iconst 0, 1) := by decide +kernel
theorem dL_figures_63 : decode cL_figures 63 = .ok (.if_icmp .ne 102, 3) := by decide +kernel
theorem dL_figures_66 : decode cL_figures 66 = .ok (.iload 6, 2) := by decide +kernel
theorem dL_figures_68 : decode cL_figures 68 = .ok (.ldc 27, 2) := by decide +kernel
theorem dL_figures_70 : decode cL_figures 70 = .ok (.if_icmp .ne 7, 3) := by decide +kernel
theorem dL_figures_73 : decode cL_figures 73 = .ok (.iconst 1, 1) := by decide +kernel
theorem dL_figures_74 : decode cL_figures 74 = .ok (.goto 4, 3) := by decide +kernel
theorem dL_figures_77 : decode cL_figures 77 = .ok (.iconst 0, 1) := by decide +kernel
theorem dL_figures_78 : decode cL_figures 78 = .ok (.aload_n 0, 1) := by decide +kernel
theorem dL_figures_79 : decode cL_figures 79 = .ok (.iload 5, 2) := by decide +kernel
theorem dL_figures_81 : decode cL_figures 81 = .ok (.iconst 1, 1) := by decide +kernel
theorem dL_figures_82 : decode cL_figures 82 = .ok (.invokevirtual 48, 3) := by decide +kernel
theorem dL_figures_85 : decode cL_figures 85 = .ok (.ldc 27, 2) := by decide +kernel
theorem dL_figures_87 : decode cL_figures 87 = .ok (.if_icmp .ne 7, 3) := by decide +kernel
theorem dL_figures_90 : decode cL_figures 90 = .ok (.iconst 1, 1) := by decide +kernel
theorem dL_figures_91 : decode cL_figures 91 = .ok (.goto 4, 3) := by decide +kernel
theorem dL_figures_94 : decode cL_figures 94 = .ok (.iconst 0, 1) := by decide +kernel
theorem dL_figures_95 : decode cL_figures 95 = .ok (.if_icmp .ne 70, 3) := by decide +kernel
theorem dL_figures_98 : decode cL_figures 98 = .ok (.aload_n 0, 1) := by decide +kernel
theorem dL_figures_99 : decode cL_figures 99 = .ok (.iload 5, 2) := by decide +kernel
theorem dL_figures_101 : decode cL_figures 101 = .ok (.iconst 3, 1) := by decide +kernel
theorem dL_figures_102 : decode cL_figures 102 = .ok (.invokevirtual 48, 3) := by decide +kernel
theorem dL_figures_105 : decode cL_figures 105 = .ok (.iload 7, 2) := by decide +kernel
theorem dL_figures_107 : decode cL_figures 107 = .ok (.iconst (-1), 1) := by decide +kernel
theorem dL_figures_108 : decode cL_figures 108 = .ok (.ixor, 1) := by decide +kernel
theorem dL_figures_109 : decode cL_figures 109 = .ok (.iand, 1) := by decide +kernel
theorem dL_figures_110 : decode cL_figures 110 = .ok (.ifCond .ne 55, 3) := by decide +kernel
theorem dL_figures_113 : decode cL_figures 113 = .ok (.aload_n 0, 1) := by decide +kernel
theorem dL_figures_114 : decode cL_figures 114 = .ok (.iload 5, 2) := by decide +kernel
theorem dL_figures_116 : decode cL_figures 116 = .ok (.iconst 4, 1) := by decide +kernel
theorem dL_figures_117 : decode cL_figures 117 = .ok (.invokevirtual 48, 3) := by decide +kernel
theorem dL_figures_120 : decode cL_figures 120 = .ok (.iload 7, 2) := by decide +kernel
theorem dL_figures_122 : decode cL_figures 122 = .ok (.iand, 1) := by decide +kernel
theorem dL_figures_123 : decode cL_figures 123 = .ok (.ifCond .ne 42, 3) := by decide +kernel
theorem dL_figures_126 : decode cL_figures 126 = .ok (.iload 6, 2) := by decide +kernel
theorem dL_figures_128 : decode cL_figures 128 = .ok (.ldc 27, 2) := by decide +kernel
theorem dL_figures_130 : decode cL_figures 130 = .ok (.if_icmp .ne 13, 3) := by decide +kernel
theorem dL_figures_133 : decode cL_figures 133 = .ok (.aload_n 0, 1) := by decide +kernel
theorem dL_figures_134 : decode cL_figures 134 = .ok (.iload 5, 2) := by decide +kernel
theorem dL_figures_136 : decode cL_figures 136 = .ok (.iconst 4, 1) := by decide +kernel
theorem dL_figures_137 : decode cL_figures 137 = .ok (.invokevirtual 48, 3) := by decide +kernel
theorem dL_figures_140 : decode cL_figures 140 = .ok (.ifCond .ne 25, 3) := by decide +kernel
theorem dL_figures_143 : decode cL_figures 143 = .ok (.aload_n 0, 1) := by decide +kernel
theorem dL_figures_144 : decode cL_figures 144 = .ok (.iload 5, 2) := by decide +kernel
theorem dL_figures_146 : decode cL_figures 146 = .ok (.iconst 5, 1) := by decide +kernel
theorem dL_figures_147 : decode cL_figures 147 = .ok (.invokevirtual 48, 3) := by decide +kernel
theorem dL_figures_150 : decode cL_figures 150 = .ok (.ifCond .lt 15, 3) := by decide +kernel
theorem dL_figures_153 : decode cL_figures 153 = .ok (.aload_n 0, 1) := by decide +kernel
theorem dL_figures_154 : decode cL_figures 154 = .ok (.iload 5, 2) := by decide +kernel
theorem dL_figures_156 : decode cL_figures 156 = .ok (.iconst 5, 1) := by decide +kernel
theorem dL_figures_157 : decode cL_figures 157 = .ok (.invokevirtual 48, 3) := by decide +kernel
theorem dL_figures_160 : decode cL_figures 160 = .ok (.bipush 8, 2) := by decide +kernel
theorem dL_figures_162 : decode cL_figures 162 = .ok (.if_icmp .le 5, 3) := by decide +kernel
theorem dL_figures_165 : decode cL_figures 165 = .ok (.iconst 0, 1) := by decide +kernel
theorem dL_figures_166 : decode cL_figures 166 = .ok (.ireturn, 1) := by decide +kernel
theorem dL_figures_167 : decode cL_figures 167 = .ok (.iload 6, 2) := by decide +kernel
theorem dL_figures_169 : decode cL_figures 169 = .ok (.ldc 27, 2) := by decide +kernel
theorem dL_figures_171 : decode cL_figures 171 = .ok (.if_icmp .eq 18, 3) := by decide +kernel
theorem dL_figures_174 : decode cL_figures 174 = .ok (.iload_n 1, 1) := by decide +kernel
theorem dL_figures_175 : decode cL_figures 175 = .ok (.ifCond .eq 9, 3) := by decide +kernel
theorem dL_figures_178 : decode cL_figures 178 = .ok (.iload 6, 2) := by decide +kernel
theorem dL_figures_180 : decode cL_figures 180 = .ok (.iload_n 2, 1) := by decide +kernel
theorem dL_figures_181 : decode cL_figures 181 = .ok (.if_icmp .ge 8, 3) := by decide +kernel
theorem dL_figures_184 : decode cL_figures 184 = .ok (.iload 6, 2) := by decide +kernel
theorem dL_figures_186 : decode cL_figures 186 = .ok (.goto 4, 3) := by decide +kernel
theorem dL_figures_189 : decode cL_figures 189 = .ok (.iload_n 2, 1) := by decide +kernel
theorem dL_figures_190 : decode cL_figures 190 = .ok (.istore_n 2, 1) := by decide +kernel
theorem dL_figures_191 : decode cL_figures 191 = .ok (.iload 6, 2) := by decide +kernel
theorem dL_figures_193 : decode cL_figures 193 = .ok (.ldc 27, 2) := by decide +kernel
theorem dL_figures_195 : decode cL_figures 195 = .ok (.if_icmp .eq 18, 3) := by decide +kernel
theorem dL_figures_198 : decode cL_figures 198 = .ok (.iload_n 1, 1) := by decide +kernel
theorem dL_figures_199 : decode cL_figures 199 = .ok (.ifCond .eq 9, 3) := by decide +kernel
theorem dL_figures_202 : decode cL_figures 202 = .ok (.iload 6, 2) := by decide +kernel

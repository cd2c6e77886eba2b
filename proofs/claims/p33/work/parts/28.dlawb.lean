theorem dL_figures_204 : decode cL_figures 204 = .ok (.iload_n 3, 1) := by decide +kernel
theorem dL_figures_205 : decode cL_figures 205 = .ok (.if_icmp .le 8, 3) := by decide +kernel
theorem dL_figures_208 : decode cL_figures 208 = .ok (.iload 6, 2) := by decide +kernel
theorem dL_figures_210 : decode cL_figures 210 = .ok (.goto 4, 3) := by decide +kernel
theorem dL_figures_213 : decode cL_figures 213 = .ok (.iload_n 3, 1) := by decide +kernel
theorem dL_figures_214 : decode cL_figures 214 = .ok (.istore_n 3, 1) := by decide +kernel
theorem dL_figures_215 : decode cL_figures 215 = .ok (.iload_n 1, 1) := by decide +kernel
theorem dL_figures_216 : decode cL_figures 216 = .ok (.iload 6, 2) := by decide +kernel
theorem dL_figures_218 : decode cL_figures 218 = .ok (.ldc 27, 2) := by decide +kernel
theorem dL_figures_220 : decode cL_figures 220 = .ok (.if_icmp .ne 7, 3) := by decide +kernel
theorem dL_figures_223 : decode cL_figures 223 = .ok (.iconst 0, 1) := by decide +kernel
theorem dL_figures_224 : decode cL_figures 224 = .ok (.goto 4, 3) := by decide +kernel
theorem dL_figures_227 : decode cL_figures 227 = .ok (.iconst 1, 1) := by decide +kernel
theorem dL_figures_228 : decode cL_figures 228 = .ok (.iadd, 1) := by decide +kernel
theorem dL_figures_229 : decode cL_figures 229 = .ok (.istore_n 1, 1) := by decide +kernel
theorem dL_figures_230 : decode cL_figures 230 = .ok (.iinc 5 1, 3) := by decide +kernel
theorem dL_figures_233 : decode cL_figures 233 = .ok (.goto (-217), 3) := by decide +kernel
theorem dL_figures_236 : decode cL_figures 236 = .ok (.aload_n 0, 1) := by decide +kernel
theorem dL_figures_237 : decode cL_figures 237 = .ok (.iconst 0, 1) := by decide +kernel
theorem dL_figures_238 : decode cL_figures 238 = .ok (.invokevirtual 51, 3) := by decide +kernel
theorem dL_figures_241 : decode cL_figures 241 = .ok (.iload_n 1, 1) := by decide +kernel
theorem dL_figures_242 : decode cL_figures 242 = .ok (.if_icmp .ne 89, 3) := by decide +kernel
theorem dL_figures_245 : decode cL_figures 245 = .ok (.aload_n 0, 1) := by decide +kernel
theorem dL_figures_246 : decode cL_figures 246 = .ok (.iload 4, 2) := by decide +kernel
theorem dL_figures_248 : decode cL_figures 248 = .ok (.iconst 0, 1) := by decide +kernel
theorem dL_figures_249 : decode cL_figures 249 = .ok (.invokevirtual 48, 3) := by decide +kernel
theorem dL_figures_252 : decode cL_figures 252 = .ok (.ldc 43, 2) := by decide +kernel
theorem dL_figures_254 : decode cL_figures 254 = .ok (.if_icmp .ne 77, 3) := by decide +kernel
theorem dL_figures_257 : decode cL_figures 257 = .ok (.aload_n 0, 1) := by decide +kernel
theorem dL_figures_258 : decode cL_figures 258 = .ok (.iconst 0, 1) := by decide +kernel
theorem dL_figures_259 : decode cL_figures 259 = .ok (.invokevirtual 54, 3) := by decide +kernel
theorem dL_figures_262 : decode cL_figures 262 = .ok (.lconst 0, 1) := by decide +kernel
theorem dL_figures_263 : decode cL_figures 263 = .ok (.lcmp, 1) := by decide +kernel
theorem dL_figures_264 : decode cL_figures 264 = .ok (.ifCond .lt 67, 3) := by decide +kernel
theorem dL_figures_267 : decode cL_figures 267 = .ok (.aload_n 0, 1) := by decide +kernel
theorem dL_figures_268 : decode cL_figures 268 = .ok (.iconst 1, 1) := by decide +kernel
theorem dL_figures_269 : decode cL_figures 269 = .ok (.invokevirtual 54, 3) := by decide +kernel
theorem dL_figures_272 : decode cL_figures 272 = .ok (.lconst 0, 1) := by decide +kernel
theorem dL_figures_273 : decode cL_figures 273 = .ok (.lcmp, 1) := by decide +kernel
theorem dL_figures_274 : decode cL_figures 274 = .ok (.ifCond .lt 57, 3) := by decide +kernel
theorem dL_figures_277 : decode cL_figures 277 = .ok (.aload_n 0, 1) := by decide +kernel
theorem dL_figures_278 : decode cL_figures 278 = .ok (.iconst 2, 1) := by decide +kernel
theorem dL_figures_279 : decode cL_figures 279 = .ok (.invokevirtual 54, 3) := by decide +kernel
theorem dL_figures_282 : decode cL_figures 282 = .ok (.aload_n 0, 1) := by decide +kernel
theorem dL_figures_283 : decode cL_figures 283 = .ok (.iconst 0, 1) := by decide +kernel
theorem dL_figures_284 : decode cL_figures 284 = .ok (.invokevirtual 54, 3) := by decide +kernel
theorem dL_figures_287 : decode cL_figures 287 = .ok (.aload_n 0, 1) := by decide +kernel
theorem dL_figures_288 : decode cL_figures 288 = .ok (.iconst 1, 1) := by decide +kernel
theorem dL_figures_289 : decode cL_figures 289 = .ok (.invokevirtual 54, 3) := by decide +kernel
theorem dL_figures_292 : decode cL_figures 292 = .ok (.lsub, 1) := by decide +kernel
theorem dL_figures_293 : decode cL_figures 293 = .ok (.lcmp, 1) := by decide +kernel
theorem dL_figures_294 : decode cL_figures 294 = .ok (.ifCond .ne 37, 3) := by decide +kernel
theorem dL_figures_297 : decode cL_figures 297 = .ok (.iload 4, 2) := by decide +kernel
theorem dL_figures_299 : decode cL_figures 299 = .ok (.bipush 12, 2) := by decide +kernel
theorem dL_figures_301 : decode cL_figures 301 = .ok (.if_icmp .gt 30, 3) := by decide +kernel
theorem dL_figures_304 : decode cL_figures 304 = .ok (.iload 4, 2) := by decide +kernel
theorem dL_figures_306 : decode cL_figures 306 = .ok (.aload_n 0, 1) := by decide +kernel
theorem dL_figures_307 : decode cL_figures 307 = .ok (.iconst 3, 1) := by decide +kernel
theorem dL_figures_308 : decode cL_figures 308 = .ok (.invokevirtual 9, 3) := by decide +kernel
theorem dL_figures_311 : decode cL_figures 311 = .ok (.if_icmp .gt 20, 3) := by decide +kernel
theorem dL_figures_314 : decode cL_figures 314 = .ok (.aload_n 0, 1) := by decide +kernel
theorem dL_figures_315 : decode cL_figures 315 = .ok (.iconst 4, 1) := by decide +kernel
theorem dL_figures_316 : decode cL_figures 316 = .ok (.invokevirtual 9, 3) := by decide +kernel
theorem dL_figures_319 : decode cL_figures 319 = .ok (.aload_n 0, 1) := by decide +kernel
theorem dL_figures_320 : decode cL_figures 320 = .ok (.iconst 3, 1) := by decide +kernel
theorem dL_figures_321 : decode cL_figures 321 = .ok (.invokevirtual 9, 3) := by decide +kernel
theorem dL_figures_324 : decode cL_figures 324 = .ok (.if_icmp .gt 7, 3) := by decide +kernel
theorem dL_figures_327 : decode cL_figures 327 = .ok (.iconst 1, 1) := by decide +kernel
theorem dL_figures_328 : decode cL_figures 328 = .ok (.goto 4, 3) := by decide +kernel
theorem dL_figures_331 : decode cL_figures 331 = .ok (.iconst 0, 1) := by decide +kernel
theorem dL_figures_332 : decode cL_figures 332 = .ok (.istore 5, 2) := by decide +kernel
theorem dL_figures_334 : decode cL_figures 334 = .ok (.iconst 1, 1) := by decide +kernel
theorem dL_figures_335 : decode cL_figures 335 = .ok (.istore 6, 2) := by decide +kernel
theorem dL_figures_337 : decode cL_figures 337 = .ok (.iload 6, 2) := by decide +kernel
theorem dL_figures_339 : decode cL_figures 339 = .ok (.iconst 5, 1) := by decide +kernel
theorem dL_figures_340 : decode cL_figures 340 = .ok (.if_icmp .ge 79, 3) := by decide +kernel
theorem dL_figures_343 : decode cL_figures 343 = .ok (.aload_n 0, 1) := by decide +kernel
theorem dL_figures_344 : decode cL_figures 344 = .ok (.iload 6, 2) := by decide +kernel
theorem dL_figures_346 : decode cL_figures 346 = .ok (.invokevirtual 51, 3) := by decide +kernel
theorem dL_figures_349 : decode cL_figures 349 = .ok (.istore 7, 2) := by decide +kernel
theorem dL_figures_351 : decode cL_figures 351 = .ok (.iload 5, 2) := by decide +kernel
theorem dL_figures_353 : decode cL_figures 353 = .ok (.ifCond .eq 57, 3) := by decide +kernel
theorem dL_figures_356 : decode cL_figures 356 = .ok (.iload_n 1, 1) := by decide +kernel
theorem dL_figures_357 : decode cL_figures 357 = .ok (.ifCond .ne 13, 3) := by decide +kernel
theorem dL_figures_360 : decode cL_figures 360 = .ok (.iload 7, 2) := by decide +kernel
theorem dL_figures_362 : decode cL_figures 362 = .ok (.ldc 27, 2) := by decide +kernel
theorem dL_figures_364 : decode cL_figures 364 = .ok (.if_icmp .ne 46, 3) := by decide +kernel
theorem dL_figures_367 : decode cL_figures 367 = .ok (.goto 39, 3) := by decide +kernel
theorem dL_figures_370 : decode cL_figures 370 = .ok (.iload 7, 2) := by decide +kernel
theorem dL_figures_372 : decode cL_figures 372 = .ok (.iload_n 2, 1) := by decide +kernel
theorem dL_figures_373 : decode cL_figures 373 = .ok (.if_icmp .lt 37, 3) := by decide +kernel
theorem dL_figures_376 : decode cL_figures 376 = .ok (.iload 7, 2) := by decide +kernel
theorem dL_figures_378 : decode cL_figures 378 = .ok (.iload_n 3, 1) := by decide +kernel
theorem dL_figures_379 : decode cL_figures 379 = .ok (.if_icmp .gt 31, 3) := by decide +kernel
theorem dL_figures_382 : decode cL_figures 382 = .ok (.iload 6, 2) := by decide +kernel
theorem dL_figures_384 : decode cL_figures 384 = .ok (.iconst 1, 1) := by decide +kernel
theorem dL_figures_385 : decode cL_figures 385 = .ok (.if_icmp .ne 9, 3) := by decide +kernel
theorem dL_figures_388 : decode cL_figures 388 = .ok (.iload 7, 2) := by decide +kernel
theorem dL_figures_390 : decode cL_figures 390 = .ok (.iload_n 2, 1) := by decide +kernel
theorem dL_figures_391 : decode cL_figures 391 = .ok (.if_icmp .ne 19, 3) := by decide +kernel
theorem dL_figures_394 : decode cL_figures 394 = .ok (.iload 6, 2) := by decide +kernel
theorem dL_figures_396 : decode cL_figures 396 = .ok (.iconst 2, 1) := by decide +kernel
theorem dL_figures_397 : decode cL_figures 397 = .ok (.if_icmp .ne 9, 3) := by decide +kernel
theorem dL_figures_400 : decode cL_figures 400 = .ok (.iload 7, 2) := by decide +kernel
theorem dL_figures_402 : decode cL_figures 402 = .ok (.iload_n 3, 1) := by decide +kernel
theorem dL_figures_403 : decode cL_figures 403 = .ok (.if_icmp .ne 7, 3) := by decide +kernel
theorem dL_figures_406 : decode cL_figures 406 = .ok (.iconst 1, 1) := by decide +kernel
theorem dL_figures_407 : decode cL_figures 407 = .ok (.goto 4, 3) := by decide +kernel
theorem dL_figures_410 : decode cL_figures 410 = .ok (.iconst 0, 1) := by decide +kernel
theorem dL_figures_411 : decode cL_figures 411 = .ok (.istore 5, 2) := by decide +kernel
theorem dL_figures_413 : decode cL_figures 413 = .ok (.iinc 6 1, 3) := by decide +kernel
theorem dL_figures_416 : decode cL_figures 416 = .ok (.goto (-79), 3) := by decide +kernel
theorem dL_figures_419 : decode cL_figures 419 = .ok (.iconst 0, 1) := by decide +kernel
theorem dL_figures_420 : decode cL_figures 420 = .ok (.istore 6, 2) := by decide +kernel
theorem dL_figures_422 : decode cL_figures 422 = .ok (.iload 6, 2) := by decide +kernel
theorem dL_figures_424 : decode cL_figures 424 = .ok (.sipush 9000, 3) := by decide +kernel
theorem dL_figures_427 : decode cL_figures 427 = .ok (.if_icmp .ge 64, 3) := by decide +kernel
theorem dL_figures_430 : decode cL_figures 430 = .ok (.iload 5, 2) := by decide +kernel
theorem dL_figures_432 : decode cL_figures 432 = .ok (.ifCond .eq 47, 3) := by decide +kernel
theorem dL_figures_435 : decode cL_figures 435 = .ok (.aload_n 0, 1) := by decide +kernel
theorem dL_figures_436 : decode cL_figures 436 = .ok (.iload 6, 2) := by decide +kernel
theorem dL_figures_438 : decode cL_figures 438 = .ok (.invokevirtual 57, 3) := by decide +kernel
theorem dL_figures_441 : decode cL_figures 441 = .ok (.sipush 500, 3) := by decide +kernel
theorem dL_figures_444 : decode cL_figures 444 = .ok (.if_icmp .lt 35, 3) := by decide +kernel
theorem dL_figures_447 : decode cL_figures 447 = .ok (.aload_n 0, 1) := by decide +kernel
theorem dL_figures_448 : decode cL_figures 448 = .ok (.iload 6, 2) := by decide +kernel
theorem dL_figures_450 : decode cL_figures 450 = .ok (.invokevirtual 57, 3) := by decide +kernel
theorem dL_figures_453 : decode cL_figures 453 = .ok (.sipush 1500, 3) := by decide +kernel
theorem dL_figures_456 : decode cL_figures 456 = .ok (.if_icmp .gt 23, 3) := by decide +kernel
theorem dL_figures_459 : decode cL_figures 459 = .ok (.aload_n 0, 1) := by decide +kernel
theorem dL_figures_460 : decode cL_figures 460 = .ok (.iload 6, 2) := by decide +kernel
theorem dL_figures_462 : decode cL_figures 462 = .ok (.ineg, 1) := by decide +kernel
theorem dL_figures_463 : decode cL_figures 463 = .ok (.invokevirtual 57, 3) := by decide +kernel
theorem dL_figures_466 : decode cL_figures 466 = .ok (.aload_n 0, 1) := by decide +kernel
theorem dL_figures_467 : decode cL_figures 467 = .ok (.iload 6, 2) := by decide +kernel
theorem dL_figures_469 : decode cL_figures 469 = .ok (.invokevirtual 57, 3) := by decide +kernel
theorem dL_figures_472 : decode cL_figures 472 = .ok (.if_icmp .ne 7, 3) := by decide +kernel
theorem dL_figures_475 : decode cL_figures 475 = .ok (.iconst 1, 1) := by decide +kernel
theorem dL_figures_476 : decode cL_figures 476 = .ok (.goto 4, 3) := by decide +kernel
theorem dL_figures_479 : decode cL_figures 479 = .ok (.iconst 0, 1) := by decide +kernel
theorem dL_figures_480 : decode cL_figures 480 = .ok (.istore 5, 2) := by decide +kernel
theorem dL_figures_482 : decode cL_figures 482 = .ok (.iinc 6 1700, 6) := by decide +kernel
theorem dL_figures_488 : decode cL_figures 488 = .ok (.goto (-66), 3) := by decide +kernel
theorem dL_figures_491 : decode cL_figures 491 = .ok (.iload 5, 2) := by decide +kernel
theorem dL_figures_493 : decode cL_figures 493 = .ok (.ireturn, 1) := by decide +kernel
theorem dL_closes_0 : decode cL_closes 0 = .ok (.aload_n 0, 1) := by decide +kernel
theorem dL_closes_1 : decode cL_closes 1 = .ok (.iconst 0, 1) := by decide +kernel
theorem dL_closes_2 : decode cL_closes 2 = .ok (.invokevirtual 9, 3) := by decide +kernel
theorem dL_closes_5 : decode cL_closes 5 = .ok (.istore_n 1, 1) := by decide +kernel
theorem dL_closes_6 : decode cL_closes 6 = .ok (.aload_n 0, 1) := by decide +kernel
theorem dL_closes_7 : decode cL_closes 7 = .ok (.invokevirtual 44, 3) := by decide +kernel
theorem dL_closes_10 : decode cL_closes 10 = .ok (.istore_n 2, 1) := by decide +kernel
theorem dL_closes_11 : decode cL_closes 11 = .ok (.iconst 4, 1) := by decide +kernel
theorem dL_closes_12 : decode cL_closes 12 = .ok (.newarray .int, 2) := by decide +kernel
theorem dL_closes_14 : decode cL_closes 14 = .ok (.astore_n 3, 1) := by decide +kernel
theorem dL_closes_15 : decode cL_closes 15 = .ok (.bipush 8, 2) := by decide +kernel
theorem dL_closes_17 : decode cL_closes 17 = .ok (.newarray .int, 2) := by decide +kernel
theorem dL_closes_19 : decode cL_closes 19 = .ok (.astore 4, 2) := by decide +kernel
theorem dL_closes_21 : decode cL_closes 21 = .ok (.aload_n 0, 1) := by decide +kernel
theorem dL_closes_22 : decode cL_closes 22 = .ok (.iconst 3, 1) := by decide +kernel
theorem dL_closes_23 : decode cL_closes 23 = .ok (.invokevirtual 9, 3) := by decide +kernel
theorem dL_closes_26 : decode cL_closes 26 = .ok (.istore 5, 2) := by decide +kernel
theorem dL_closes_28 : decode cL_closes 28 = .ok (.aload_n 0, 1) := by decide +kernel
theorem dL_closes_29 : decode cL_closes 29 = .ok (.iconst 0, 1) := by decide +kernel
theorem dL_closes_30 : decode cL_closes 30 = .ok (.invokevirtual 54, 3) := by decide +kernel
theorem dL_closes_33 : decode cL_closes 33 = .ok (.lstore 6, 2) := by decide +kernel
theorem dL_closes_35 : decode cL_closes 35 = .ok (.aload_n 0, 1) := by decide +kernel
theorem dL_closes_36 : decode cL_closes 36 = .ok (.iconst 1, 1) := by decide +kernel
theorem dL_closes_37 : decode cL_closes 37 = .ok (.invokevirtual 54, 3) := by decide +kernel
theorem dL_closes_40 : decode cL_closes 40 = .ok (.lstore 8, 2) := by decide +kernel
theorem dL_closes_42 : decode cL_closes 42 = .ok (.iconst 0, 1) := by decide +kernel
theorem dL_closes_43 : decode cL_closes 43 = .ok (.istore 10, 2) := by decide +kernel
theorem dL_closes_45 : decode cL_closes 45 = .ok (.iload 10, 2) := by decide +kernel
theorem dL_closes_47 : decode cL_closes 47 = .ok (.iload_n 1, 1) := by decide +kernel
theorem dL_closes_48 : decode cL_closes 48 = .ok (.if_icmp .ge 50, 3) := by decide +kernel
theorem dL_closes_51 : decode cL_closes 51 = .ok (.aload_n 3, 1) := by decide +kernel
theorem dL_closes_52 : decode cL_closes 52 = .ok (.iload 10, 2) := by decide +kernel
theorem dL_closes_54 : decode cL_closes 54 = .ok (.aload_n 0, 1) := by decide +kernel
theorem dL_closes_55 : decode cL_closes 55 = .ok (.iload 10, 2) := by decide +kernel
theorem dL_closes_57 : decode cL_closes 57 = .ok (.invokevirtual 40, 3) := by decide +kernel
theorem dL_closes_60 : decode cL_closes 60 = .ok (.iastore, 1) := by decide +kernel
theorem dL_closes_61 : decode cL_closes 61 = .ok (.aload 4, 2) := by decide +kernel
theorem dL_closes_63 : decode cL_closes 63 = .ok (.iconst 2, 1) := by decide +kernel
theorem dL_closes_64 : decode cL_closes 64 = .ok (.iload 10, 2) := by decide +kernel
theorem dL_closes_66 : decode cL_closes 66 = .ok (.imul, 1) := by decide +kernel
theorem dL_closes_67 : decode cL_closes 67 = .ok (.aload_n 0, 1) := by decide +kernel
theorem dL_closes_68 : decode cL_closes 68 = .ok (.iload 10, 2) := by decide +kernel
theorem dL_closes_70 : decode cL_closes 70 = .ok (.iconst 5, 1) := by decide +kernel
theorem dL_closes_71 : decode cL_closes 71 = .ok (.invokevirtual 18, 3) := by decide +kernel
theorem dL_closes_74 : decode cL_closes 74 = .ok (.iastore, 1) := by decide +kernel
theorem dL_closes_75 : decode cL_closes 75 = .ok (.aload 4, 2) := by decide +kernel
theorem dL_closes_77 : decode cL_closes 77 = .ok (.iconst 2, 1) := by decide +kernel
theorem dL_closes_78 : decode cL_closes 78 = .ok (.iload 10, 2) := by decide +kernel
theorem dL_closes_80 : decode cL_closes 80 = .ok (.imul, 1) := by decide +kernel
theorem dL_closes_81 : decode cL_closes 81 = .ok (.iconst 1, 1) := by decide +kernel
theorem dL_closes_82 : decode cL_closes 82 = .ok (.iadd, 1) := by decide +kernel
theorem dL_closes_83 : decode cL_closes 83 = .ok (.aload_n 0, 1) := by decide +kernel
theorem dL_closes_84 : decode cL_closes 84 = .ok (.iload 10, 2) := by decide +kernel
theorem dL_closes_86 : decode cL_closes 86 = .ok (.bipush 7, 2) := by decide +kernel
theorem dL_closes_88 : decode cL_closes 88 = .ok (.invokevirtual 18, 3) := by decide +kernel
theorem dL_closes_91 : decode cL_closes 91 = .ok (.iastore, 1) := by decide +kernel
theorem dL_closes_92 : decode cL_closes 92 = .ok (.iinc 10 1, 3) := by decide +kernel
theorem dL_closes_95 : decode cL_closes 95 = .ok (.goto (-50), 3) := by decide +kernel
theorem dL_closes_98 : decode cL_closes 98 = .ok (.aload_n 0, 1) := by decide +kernel
theorem dL_closes_99 : decode cL_closes 99 = .ok (.invokevirtual 60, 3) := by decide +kernel
theorem dL_closes_102 : decode cL_closes 102 = .ok (.istore 10, 2) := by decide +kernel
theorem dL_closes_104 : decode cL_closes 104 = .ok (.iload 10, 2) := by decide +kernel
theorem dL_closes_106 : decode cL_closes 106 = .ok (.ldc 47, 2) := by decide +kernel
theorem dL_closes_108 : decode cL_closes 108 = .ok (.if_icmp .ne 19, 3) := by decide +kernel
theorem dL_closes_111 : decode cL_closes 111 = .ok (.iload_n 1, 1) := by decide +kernel
theorem dL_closes_112 : decode cL_closes 112 = .ok (.ifCond .ne 13, 3) := by decide +kernel
theorem dL_closes_115 : decode cL_closes 115 = .ok (.iload_n 2, 1) := by decide +kernel
theorem dL_closes_116 : decode cL_closes 116 = .ok (.ldc 47, 2) := by decide +kernel
theorem dL_closes_118 : decode cL_closes 118 = .ok (.if_icmp .ne 7, 3) := by decide +kernel
theorem dL_closes_121 : decode cL_closes 121 = .ok (.iconst 1, 1) := by decide +kernel
theorem dL_closes_122 : decode cL_closes 122 = .ok (.goto 4, 3) := by decide +kernel
theorem dL_closes_125 : decode cL_closes 125 = .ok (.iconst 0, 1) := by decide +kernel
theorem dL_closes_126 : decode cL_closes 126 = .ok (.ireturn, 1) := by decide +kernel
theorem dL_closes_127 : decode cL_closes 127 = .ok (.iconst 0, 1) := by decide +kernel
theorem dL_closes_128 : decode cL_closes 128 = .ok (.istore 11, 2) := by decide +kernel
theorem dL_closes_130 : decode cL_closes 130 = .ok (.iconst 0, 1) := by decide +kernel
theorem dL_closes_131 : decode cL_closes 131 = .ok (.istore 12, 2) := by decide +kernel
theorem dL_closes_133 : decode cL_closes 133 = .ok (.iconst 0, 1) := by decide +kernel
theorem dL_closes_134 : decode cL_closes 134 = .ok (.istore 13, 2) := by decide +kernel
theorem dL_closes_136 : decode cL_closes 136 = .ok (.iload 10, 2) := by decide +kernel
theorem dL_closes_138 : decode cL_closes 138 = .ok (.iload_n 2, 1) := by decide +kernel
theorem dL_closes_139 : decode cL_closes 139 = .ok (.if_icmp .ne 38, 3) := by decide +kernel
theorem dL_closes_142 : decode cL_closes 142 = .ok (.aload_n 0, 1) := by decide +kernel
theorem dL_closes_143 : decode cL_closes 143 = .ok (.iconst 3, 1) := by decide +kernel
theorem dL_closes_144 : decode cL_closes 144 = .ok (.invokevirtual 9, 3) := by decide +kernel
theorem dL_closes_147 : decode cL_closes 147 = .ok (.iload 5, 2) := by decide +kernel
theorem dL_closes_149 : decode cL_closes 149 = .ok (.iconst 1, 1) := by decide +kernel
theorem dL_closes_150 : decode cL_closes 150 = .ok (.iadd, 1) := by decide +kernel
theorem dL_closes_151 : decode cL_closes 151 = .ok (.if_icmp .ne 26, 3) := by decide +kernel
theorem dL_closes_154 : decode cL_closes 154 = .ok (.aload_n 0, 1) := by decide +kernel
theorem dL_closes_155 : decode cL_closes 155 = .ok (.iconst 2, 1) := by decide +kernel
theorem dL_closes_156 : decode cL_closes 156 = .ok (.invokevirtual 9, 3) := by decide +kernel
theorem dL_closes_159 : decode cL_closes 159 = .ok (.ifCond .ne 18, 3) := by decide +kernel
theorem dL_closes_162 : decode cL_closes 162 = .ok (.aload_n 0, 1) := by decide +kernel
theorem dL_closes_163 : decode cL_closes 163 = .ok (.iconst 0, 1) := by decide +kernel
theorem dL_closes_164 : decode cL_closes 164 = .ok (.iconst 0, 1) := by decide +kernel
theorem dL_closes_165 : decode cL_closes 165 = .ok (.invokevirtual 48, 3) := by decide +kernel
theorem dL_closes_168 : decode cL_closes 168 = .ok (.iload 10, 2) := by decide +kernel
theorem dL_closes_170 : decode cL_closes 170 = .ok (.if_icmp .ne 7, 3) := by decide +kernel
theorem dL_closes_173 : decode cL_closes 173 = .ok (.iconst 1, 1) := by decide +kernel
theorem dL_closes_174 : decode cL_closes 174 = .ok (.goto 4, 3) := by decide +kernel
theorem dL_closes_177 : decode cL_closes 177 = .ok (.iconst 0, 1) := by decide +kernel
theorem dL_closes_178 : decode cL_closes 178 = .ok (.istore 14, 2) := by decide +kernel
theorem dL_closes_180 : decode cL_closes 180 = .ok (.iconst 0, 1) := by decide +kernel
theorem dL_closes_181 : decode cL_closes 181 = .ok (.istore 15, 2) := by decide +kernel
theorem dL_closes_183 : decode cL_closes 183 = .ok (.iload 15, 2) := by decide +kernel
theorem dL_closes_185 : decode cL_closes 185 = .ok (.iload_n 1, 1) := by decide +kernel
theorem dL_closes_186 : decode cL_closes 186 = .ok (.if_icmp .ge 299, 3) := by decide +kernel
theorem dL_closes_189 : decode cL_closes 189 = .ok (.iload 14, 2) := by decide +kernel
theorem dL_closes_191 : decode cL_closes 191 = .ok (.ifCond .eq 294, 3) := by decide +kernel
theorem dL_closes_194 : decode cL_closes 194 = .ok (.aload_n 0, 1) := by decide +kernel
theorem dL_closes_195 : decode cL_closes 195 = .ok (.iconst 0, 1) := by decide +kernel
theorem dL_closes_196 : decode cL_closes 196 = .ok (.iconst 2, 1) := by decide +kernel
theorem dL_closes_197 : decode cL_closes 197 = .ok (.invokevirtual 48, 3) := by decide +kernel
theorem dL_closes_200 : decode cL_closes 200 = .ok (.iload 15, 2) := by decide +kernel
theorem dL_closes_202 : decode cL_closes 202 = .ok (.ishr, 1) := by decide +kernel
theorem dL_closes_203 : decode cL_closes 203 = .ok (.iconst 1, 1) := by decide +kernel
theorem dL_closes_204 : decode cL_closes 204 = .ok (.iand, 1) := by decide +kernel
theorem dL_closes_205 : decode cL_closes 205 = .ok (.iconst 1, 1) := by decide +kernel
theorem dL_closes_206 : decode cL_closes 206 = .ok (.if_icmp .ne 7, 3) := by decide +kernel
theorem dL_closes_209 : decode cL_closes 209 = .ok (.iconst 1, 1) := by decide +kernel
theorem dL_closes_210 : decode cL_closes 210 = .ok (.goto 4, 3) := by decide +kernel
theorem dL_closes_213 : decode cL_closes 213 = .ok (.iconst 0, 1) := by decide +kernel
theorem dL_closes_214 : decode cL_closes 214 = .ok (.istore 16, 2) := by decide +kernel
theorem dL_closes_216 : decode cL_closes 216 = .ok (.aload_n 0, 1) := by decide +kernel
theorem dL_closes_217 : decode cL_closes 217 = .ok (.iconst 0, 1) := by decide +kernel
theorem dL_closes_218 : decode cL_closes 218 = .ok (.iconst 4, 1) := by decide +kernel
theorem dL_closes_219 : decode cL_closes 219 = .ok (.invokevirtual 48, 3) := by decide +kernel
theorem dL_closes_222 : decode cL_closes 222 = .ok (.iload 15, 2) := by decide +kernel
theorem dL_closes_224 : decode cL_closes 224 = .ok (.ishr, 1) := by decide +kernel
theorem dL_closes_225 : decode cL_closes 225 = .ok (.iconst 1, 1) := by decide +kernel
theorem dL_closes_226 : decode cL_closes 226 = .ok (.iand, 1) := by decide +kernel
theorem dL_closes_227 : decode cL_closes 227 = .ok (.iconst 1, 1) := by decide +kernel
theorem dL_closes_228 : decode cL_closes 228 = .ok (.if_icmp .ne 7, 3) := by decide +kernel
theorem dL_closes_231 : decode cL_closes 231 = .ok (.iconst 1, 1) := by decide +kernel
theorem dL_closes_232 : decode cL_closes 232 = .ok (.goto 4, 3) := by decide +kernel
theorem dL_closes_235 : decode cL_closes 235 = .ok (.iconst 0, 1) := by decide +kernel
theorem dL_closes_236 : decode cL_closes 236 = .ok (.istore 17, 2) := by decide +kernel
theorem dL_closes_238 : decode cL_closes 238 = .ok (.aload_n 0, 1) := by decide +kernel
theorem dL_closes_239 : decode cL_closes 239 = .ok (.iload 15, 2) := by decide +kernel
theorem dL_closes_241 : decode cL_closes 241 = .ok (.bipush 9, 2) := by decide +kernel
theorem dL_closes_243 : decode cL_closes 243 = .ok (.invokevirtual 18, 3) := by decide +kernel
theorem dL_closes_246 : decode cL_closes 246 = .ok (.istore 18, 2) := by decide +kernel
theorem dL_closes_248 : decode cL_closes 248 = .ok (.aload_n 0, 1) := by decide +kernel
theorem dL_closes_249 : decode cL_closes 249 = .ok (.iload 15, 2) := by decide +kernel
theorem dL_closes_251 : decode cL_closes 251 = .ok (.bipush 8, 2) := by decide +kernel
theorem dL_closes_253 : decode cL_closes 253 = .ok (.invokevirtual 18, 3) := by decide +kernel
theorem dL_closes_256 : decode cL_closes 256 = .ok (.aload_n 3, 1) := by decide +kernel
theorem dL_closes_257 : decode cL_closes 257 = .ok (.iload 15, 2) := by decide +kernel
theorem dL_closes_259 : decode cL_closes 259 = .ok (.iaload, 1) := by decide +kernel
theorem dL_closes_260 : decode cL_closes 260 = .ok (.if_icmp .ne 143, 3) := by decide +kernel
theorem dL_closes_263 : decode cL_closes 263 = .ok (.iload 16, 2) := by decide +kernel
theorem dL_closes_265 : decode cL_closes 265 = .ok (.aload_n 3, 1) := by decide +kernel
theorem dL_closes_266 : decode cL_closes 266 = .ok (.iload 15, 2) := by decide +kernel
theorem dL_closes_268 : decode cL_closes 268 = .ok (.iaload, 1) := by decide +kernel
theorem dL_closes_269 : decode cL_closes 269 = .ok (.iconst 2, 1) := by decide +kernel
theorem dL_closes_270 : decode cL_closes 270 = .ok (.if_icmp .le 7, 3) := by decide +kernel
theorem dL_closes_273 : decode cL_closes 273 = .ok (.iconst 1, 1) := by decide +kernel
theorem dL_closes_274 : decode cL_closes 274 = .ok (.goto 4, 3) := by decide +kernel
theorem dL_closes_277 : decode cL_closes 277 = .ok (.iconst 0, 1) := by decide +kernel
theorem dL_closes_278 : decode cL_closes 278 = .ok (.if_icmp .ne 125, 3) := by decide +kernel
theorem dL_closes_281 : decode cL_closes 281 = .ok (.aload_n 0, 1) := by decide +kernel
theorem dL_closes_282 : decode cL_closes 282 = .ok (.iconst 0, 1) := by decide +kernel
theorem dL_closes_283 : decode cL_closes 283 = .ok (.iconst 3, 1) := by decide +kernel
theorem dL_closes_284 : decode cL_closes 284 = .ok (.invokevirtual 48, 3) := by decide +kernel
theorem dL_closes_287 : decode cL_closes 287 = .ok (.iload 15, 2) := by decide +kernel
theorem dL_closes_289 : decode cL_closes 289 = .ok (.ishr, 1) := by decide +kernel
theorem dL_closes_290 : decode cL_closes 290 = .ok (.iconst 1, 1) := by decide +kernel
theorem dL_closes_291 : decode cL_closes 291 = .ok (.iand, 1) := by decide +kernel
theorem dL_closes_292 : decode cL_closes 292 = .ok (.aload_n 3, 1) := by decide +kernel
theorem dL_closes_293 : decode cL_closes 293 = .ok (.iload 15, 2) := by decide +kernel
theorem dL_closes_295 : decode cL_closes 295 = .ok (.iaload, 1) := by decide +kernel
theorem dL_closes_296 : decode cL_closes 296 = .ok (.iconst 3, 1) := by decide +kernel
theorem dL_closes_297 : decode cL_closes 297 = .ok (.if_icmp .ne 7, 3) := by decide +kernel
theorem dL_closes_300 : decode cL_closes 300 = .ok (.iconst 1, 1) := by decide +kernel
theorem dL_closes_301 : decode cL_closes 301 = .ok (.goto 4, 3) := by decide +kernel
theorem dL_closes_304 : decode cL_closes 304 = .ok (.iconst 0, 1) := by decide +kernel
theorem dL_closes_305 : decode cL_closes 305 = .ok (.if_icmp .ne 98, 3) := by decide +kernel
theorem dL_closes_308 : decode cL_closes 308 = .ok (.iload 16, 2) := by decide +kernel
theorem dL_closes_310 : decode cL_closes 310 = .ok (.ifCond .ne 40, 3) := by decide +kernel
theorem dL_closes_313 : decode cL_closes 313 = .ok (.aload_n 0, 1) := by decide +kernel
theorem dL_closes_314 : decode cL_closes 314 = .ok (.iload 15, 2) := by decide +kernel
theorem dL_closes_316 : decode cL_closes 316 = .ok (.iconst 5, 1) := by decide +kernel
theorem dL_closes_317 : decode cL_closes 317 = .ok (.invokevirtual 18, 3) := by decide +kernel
theorem dL_closes_320 : decode cL_closes 320 = .ok (.aload 4, 2) := by decide +kernel
theorem dL_closes_322 : decode cL_closes 322 = .ok (.iconst 2, 1) := by decide +kernel
theorem dL_closes_323 : decode cL_closes 323 = .ok (.iload 15, 2) := by decide +kernel
theorem dL_closes_325 : decode cL_closes 325 = .ok (.imul, 1) := by decide +kernel
theorem dL_closes_326 : decode cL_closes 326 = .ok (.iaload, 1) := by decide +kernel
theorem dL_closes_327 : decode cL_closes 327 = .ok (.if_icmp .ne 76, 3) := by decide +kernel
theorem dL_closes_330 : decode cL_closes 330 = .ok (.aload_n 0, 1) := by decide +kernel
theorem dL_closes_331 : decode cL_closes 331 = .ok (.iload 15, 2) := by decide +kernel
theorem dL_closes_333 : decode cL_closes 333 = .ok (.bipush 7, 2) := by decide +kernel
theorem dL_closes_335 : decode cL_closes 335 = .ok (.invokevirtual 18, 3) := by decide +kernel
theorem dL_closes_338 : decode cL_closes 338 = .ok (.aload 4, 2) := by decide +kernel
theorem dL_closes_340 : decode cL_closes 340 = .ok (.iconst 2, 1) := by decide +kernel
theorem dL_closes_341 : decode cL_closes 341 = .ok (.iload 15, 2) := by decide +kernel
theorem dL_closes_343 : decode cL_closes 343 = .ok (.imul, 1) := by decide +kernel
theorem dL_closes_344 : decode cL_closes 344 = .ok (.iconst 1, 1) := by decide +kernel
theorem dL_closes_345 : decode cL_closes 345 = .ok (.iadd, 1) := by decide +kernel
theorem dL_closes_346 : decode cL_closes 346 = .ok (.iaload, 1) := by decide +kernel
theorem dL_closes_347 : decode cL_closes 347 = .ok (.if_icmp .ne 56, 3) := by decide +kernel
theorem dL_closes_350 : decode cL_closes 350 = .ok (.iload 17, 2) := by decide +kernel
theorem dL_closes_352 : decode cL_closes 352 = .ok (.ifCond .eq 17, 3) := by decide +kernel
theorem dL_closes_355 : decode cL_closes 355 = .ok (.aload 4, 2) := by decide +kernel
theorem dL_closes_357 : decode cL_closes 357 = .ok (.iconst 2, 1) := by decide +kernel
theorem dL_closes_358 : decode cL_closes 358 = .ok (.iload 15, 2) := by decide +kernel
theorem dL_closes_360 : decode cL_closes 360 = .ok (.imul, 1) := by decide +kernel
theorem dL_closes_361 : decode cL_closes 361 = .ok (.iconst 1, 1) := by decide +kernel
theorem dL_closes_362 : decode cL_closes 362 = .ok (.iadd, 1) := by decide +kernel
theorem dL_closes_363 : decode cL_closes 363 = .ok (.iaload, 1) := by decide +kernel
theorem dL_closes_364 : decode cL_closes 364 = .ok (.ldc 27, 2) := by decide +kernel
theorem dL_closes_366 : decode cL_closes 366 = .ok (.if_icmp .eq 37, 3) := by decide +kernel
theorem dL_closes_369 : decode cL_closes 369 = .ok (.iload 18, 2) := by decide +kernel
theorem dL_closes_371 : decode cL_closes 371 = .ok (.ldc 27, 2) := by decide +kernel
theorem dL_closes_373 : decode cL_closes 373 = .ok (.if_icmp .eq 7, 3) := by decide +kernel
theorem dL_closes_376 : decode cL_closes 376 = .ok (.iconst 1, 1) := by decide +kernel
theorem dL_closes_377 : decode cL_closes 377 = .ok (.goto 4, 3) := by decide +kernel
theorem dL_closes_380 : decode cL_closes 380 = .ok (.iconst 0, 1) := by decide +kernel
theorem dL_closes_381 : decode cL_closes 381 = .ok (.iload 16, 2) := by decide +kernel
theorem dL_closes_383 : decode cL_closes 383 = .ok (.ifCond .ne 8, 3) := by decide +kernel
theorem dL_closes_386 : decode cL_closes 386 = .ok (.iload 17, 2) := by decide +kernel
theorem dL_closes_388 : decode cL_closes 388 = .ok (.ifCond .eq 7, 3) := by decide +kernel
theorem dL_closes_391 : decode cL_closes 391 = .ok (.iconst 1, 1) := by decide +kernel
theorem dL_closes_392 : decode cL_closes 392 = .ok (.goto 4, 3) := by decide +kernel
theorem dL_closes_395 : decode cL_closes 395 = .ok (.iconst 0, 1) := by decide +kernel
theorem dL_closes_396 : decode cL_closes 396 = .ok (.if_icmp .ne 7, 3) := by decide +kernel
theorem dL_closes_399 : decode cL_closes 399 = .ok (.iconst 1, 1) := by decide +kernel
theorem dL_closes_400 : decode cL_closes 400 = .ok (.goto 4, 3) := by decide +kernel
theorem dL_closes_403 : decode cL_closes 403 = .ok (.iconst 0, 1) := by decide +kernel
theorem dL_closes_404 : decode cL_closes 404 = .ok (.istore 14, 2) := by decide +kernel
theorem dL_closes_406 : decode cL_closes 406 = .ok (.iload 18, 2) := by decide +kernel
theorem dL_closes_408 : decode cL_closes 408 = .ok (.ldc 27, 2) := by decide +kernel
theorem dL_closes_410 : decode cL_closes 410 = .ok (.if_icmp .eq 20, 3) := by decide +kernel
theorem dL_closes_413 : decode cL_closes 413 = .ok (.iload 13, 2) := by decide +kernel
theorem dL_closes_415 : decode cL_closes 415 = .ok (.ifCond .eq 10, 3) := by decide +kernel
theorem dL_closes_418 : decode cL_closes 418 = .ok (.iload 18, 2) := by decide +kernel
theorem dL_closes_420 : decode cL_closes 420 = .ok (.iload 11, 2) := by decide +kernel
theorem dL_closes_422 : decode cL_closes 422 = .ok (.if_icmp .ge 8, 3) := by decide +kernel
theorem dL_closes_425 : decode cL_closes 425 = .ok (.iload 18, 2) := by decide +kernel
theorem dL_closes_427 : decode cL_closes 427 = .ok (.goto 5, 3) := by decide +kernel
theorem dL_closes_430 : decode cL_closes 430 = .ok (.iload 11, 2) := by decide +kernel
theorem dL_closes_432 : decode cL_closes 432 = .ok (.istore 11, 2) := by decide +kernel
theorem dL_closes_434 : decode cL_closes 434 = .ok (.iload 18, 2) := by decide +kernel
theorem dL_closes_436 : decode cL_closes 436 = .ok (.ldc 27, 2) := by decide +kernel
theorem dL_closes_438 : decode cL_closes 438 = .ok (.if_icmp .eq 20, 3) := by decide +kernel
theorem dL_closes_441 : decode cL_closes 441 = .ok (.iload 13, 2) := by decide +kernel
theorem dL_closes_443 : decode cL_closes 443 = .ok (.ifCond .eq 10, 3) := by decide +kernel
theorem dL_closes_446 : decode cL_closes 446 = .ok (.iload 18, 2) := by decide +kernel
theorem dL_closes_448 : decode cL_closes 448 = .ok (.iload 12, 2) := by decide +kernel
theorem dL_closes_450 : decode cL_closes 450 = .ok (.if_icmp .le 8, 3) := by decide +kernel
theorem dL_closes_453 : decode cL_closes 453 = .ok (.iload 18, 2) := by decide +kernel
theorem dL_closes_455 : decode cL_closes 455 = .ok (.goto 5, 3) := by decide +kernel
theorem dL_closes_458 : decode cL_closes 458 = .ok (.iload 12, 2) := by decide +kernel
theorem dL_closes_460 : decode cL_closes 460 = .ok (.istore 12, 2) := by decide +kernel
theorem dL_closes_462 : decode cL_closes 462 = .ok (.iload 13, 2) := by decide +kernel
theorem dL_closes_464 : decode cL_closes 464 = .ok (.iload 18, 2) := by decide +kernel
theorem dL_closes_466 : decode cL_closes 466 = .ok (.ldc 27, 2) := by decide +kernel
theorem dL_closes_468 : decode cL_closes 468 = .ok (.if_icmp .ne 7, 3) := by decide +kernel
theorem dL_closes_471 : decode cL_closes 471 = .ok (.iconst 0, 1) := by decide +kernel
theorem dL_closes_472 : decode cL_closes 472 = .ok (.goto 4, 3) := by decide +kernel
theorem dL_closes_475 : decode cL_closes 475 = .ok (.iconst 1, 1) := by decide +kernel
theorem dL_closes_476 : decode cL_closes 476 = .ok (.iadd, 1) := by decide +kernel
theorem dL_closes_477 : decode cL_closes 477 = .ok (.istore 13, 2) := by decide +kernel
theorem dL_closes_479 : decode cL_closes 479 = .ok (.iinc 15 1, 3) := by decide +kernel
theorem dL_closes_482 : decode cL_closes 482 = .ok (.goto (-299), 3) := by decide +kernel
theorem dL_closes_485 : decode cL_closes 485 = .ok (.iload 10, 2) := by decide +kernel
theorem dL_closes_487 : decode cL_closes 487 = .ok (.ldc 27, 2) := by decide +kernel
theorem dL_closes_489 : decode cL_closes 489 = .ok (.if_icmp .ne 7, 3) := by decide +kernel
theorem dL_closes_492 : decode cL_closes 492 = .ok (.lconst 0, 1) := by decide +kernel
theorem dL_closes_493 : decode cL_closes 493 = .ok (.goto 26, 3) := by decide +kernel
theorem dL_closes_496 : decode cL_closes 496 = .ok (.iload 10, 2) := by decide +kernel
theorem dL_closes_498 : decode cL_closes 498 = .ok (.i2l, 1) := by decide +kernel
theorem dL_closes_499 : decode cL_closes 499 = .ok (.aload_n 0, 1) := by decide +kernel
theorem dL_closes_500 : decode cL_closes 500 = .ok (.bipush 13, 2) := by decide +kernel
theorem dL_closes_502 : decode cL_closes 502 = .ok (.invokevirtual 9, 3) := by decide +kernel
theorem dL_closes_505 : decode cL_closes 505 = .ok (.i2l, 1) := by decide +kernel
theorem dL_closes_506 : decode cL_closes 506 = .ok (.lmul, 1) := by decide +kernel
theorem dL_closes_507 : decode cL_closes 507 = .ok (.aload_n 0, 1) := by decide +kernel
theorem dL_closes_508 : decode cL_closes 508 = .ok (.bipush 14, 2) := by decide +kernel
theorem dL_closes_510 : decode cL_closes 510 = .ok (.invokevirtual 9, 3) := by decide +kernel
theorem dL_closes_513 : decode cL_closes 513 = .ok (.i2l, 1) := by decide +kernel
theorem dL_closes_514 : decode cL_closes 514 = .ok (.lmul, 1) := by decide +kernel
theorem dL_closes_515 : decode cL_closes 515 = .ok (.ldc2_w 63, 3) := by decide +kernel
theorem dL_closes_518 : decode cL_closes 518 = .ok (.ldiv, 1) := by decide +kernel
theorem dL_closes_519 : decode cL_closes 519 = .ok (.lstore 15, 2) := by decide +kernel
theorem dL_closes_521 : decode cL_closes 521 = .ok (.iload 14, 2) := by decide +kernel
theorem dL_closes_523 : decode cL_closes 523 = .ok (.ifCond .eq 105, 3) := by decide +kernel
theorem dL_closes_526 : decode cL_closes 526 = .ok (.iload 13, 2) := by decide +kernel
theorem dL_closes_528 : decode cL_closes 528 = .ok (.ifCond .ne 24, 3) := by decide +kernel
theorem dL_closes_531 : decode cL_closes 531 = .ok (.iload 10, 2) := by decide +kernel
theorem dL_closes_533 : decode cL_closes 533 = .ok (.ldc 27, 2) := by decide +kernel
theorem dL_closes_535 : decode cL_closes 535 = .ok (.if_icmp .ne 93, 3) := by decide +kernel
theorem dL_closes_538 : decode cL_closes 538 = .ok (.aload_n 0, 1) := by decide +kernel
theorem dL_closes_539 : decode cL_closes 539 = .ok (.iconst 0, 1) := by decide +kernel
theorem dL_closes_540 : decode cL_closes 540 = .ok (.iconst 1, 1) := by decide +kernel
theorem dL_closes_541 : decode cL_closes 541 = .ok (.invokevirtual 48, 3) := by decide +kernel
theorem dL_closes_544 : decode cL_closes 544 = .ok (.ldc 27, 2) := by decide +kernel
theorem dL_closes_546 : decode cL_closes 546 = .ok (.if_icmp .ne 82, 3) := by decide +kernel
theorem dL_closes_549 : decode cL_closes 549 = .ok (.goto 25, 3) := by decide +kernel
theorem dL_closes_552 : decode cL_closes 552 = .ok (.aload_n 0, 1) := by decide +kernel
theorem dL_closes_553 : decode cL_closes 553 = .ok (.iconst 0, 1) := by decide +kernel
theorem dL_closes_554 : decode cL_closes 554 = .ok (.iconst 1, 1) := by decide +kernel
theorem dL_closes_555 : decode cL_closes 555 = .ok (.invokevirtual 48, 3) := by decide +kernel
theorem dL_closes_558 : decode cL_closes 558 = .ok (.iload 11, 2) := by decide +kernel
theorem dL_closes_560 : decode cL_closes 560 = .ok (.if_icmp .lt 68, 3) := by decide +kernel
theorem dL_closes_563 : decode cL_closes 563 = .ok (.aload_n 0, 1) := by decide +kernel
theorem dL_closes_564 : decode cL_closes 564 = .ok (.iconst 0, 1) := by decide +kernel
theorem dL_closes_565 : decode cL_closes 565 = .ok (.iconst 1, 1) := by decide +kernel
theorem dL_closes_566 : decode cL_closes 566 = .ok (.invokevirtual 48, 3) := by decide +kernel
theorem dL_closes_569 : decode cL_closes 569 = .ok (.iload 12, 2) := by decide +kernel
theorem dL_closes_571 : decode cL_closes 571 = .ok (.if_icmp .gt 57, 3) := by decide +kernel
theorem dL_closes_574 : decode cL_closes 574 = .ok (.aload_n 0, 1) := by decide +kernel
theorem dL_closes_575 : decode cL_closes 575 = .ok (.iconst 0, 1) := by decide +kernel
theorem dL_closes_576 : decode cL_closes 576 = .ok (.invokevirtual 54, 3) := by decide +kernel
theorem dL_closes_579 : decode cL_closes 579 = .ok (.lload 6, 2) := by decide +kernel
theorem dL_closes_581 : decode cL_closes 581 = .ok (.lload 15, 2) := by decide +kernel
theorem dL_closes_583 : decode cL_closes 583 = .ok (.lconst 0, 1) := by decide +kernel
theorem dL_closes_584 : decode cL_closes 584 = .ok (.lcmp, 1) := by decide +kernel
theorem dL_closes_585 : decode cL_closes 585 = .ok (.ifCond .le 8, 3) := by decide +kernel
theorem dL_closes_588 : decode cL_closes 588 = .ok (.lload 15, 2) := by decide +kernel
theorem dL_closes_590 : decode cL_closes 590 = .ok (.goto 4, 3) := by decide +kernel
theorem dL_closes_593 : decode cL_closes 593 = .ok (.lconst 0, 1) := by decide +kernel
theorem dL_closes_594 : decode cL_closes 594 = .ok (.ladd, 1) := by decide +kernel
theorem dL_closes_595 : decode cL_closes 595 = .ok (.lcmp, 1) := by decide +kernel
theorem dL_closes_596 : decode cL_closes 596 = .ok (.ifCond .ne 32, 3) := by decide +kernel
theorem dL_closes_599 : decode cL_closes 599 = .ok (.aload_n 0, 1) := by decide +kernel
theorem dL_closes_600 : decode cL_closes 600 = .ok (.iconst 1, 1) := by decide +kernel
theorem dL_closes_601 : decode cL_closes 601 = .ok (.invokevirtual 54, 3) := by decide +kernel
theorem dL_closes_604 : decode cL_closes 604 = .ok (.lload 8, 2) := by decide +kernel
theorem dL_closes_606 : decode cL_closes 606 = .ok (.lload 15, 2) := by decide +kernel
theorem dL_closes_608 : decode cL_closes 608 = .ok (.lconst 0, 1) := by decide +kernel
theorem dL_closes_609 : decode cL_closes 609 = .ok (.lcmp, 1) := by decide +kernel
theorem dL_closes_610 : decode cL_closes 610 = .ok (.ifCond .ge 8, 3) := by decide +kernel
theorem dL_closes_613 : decode cL_closes 613 = .ok (.lload 15, 2) := by decide +kernel
theorem dL_closes_615 : decode cL_closes 615 = .ok (.goto 4, 3) := by decide +kernel
theorem dL_closes_618 : decode cL_closes 618 = .ok (.lconst 0, 1) := by decide +kernel
theorem dL_closes_619 : decode cL_closes 619 = .ok (.lsub, 1) := by decide +kernel
theorem dL_closes_620 : decode cL_closes 620 = .ok (.lcmp, 1) := by decide +kernel
theorem dL_closes_621 : decode cL_closes 621 = .ok (.ifCond .ne 7, 3) := by decide +kernel
theorem dL_closes_624 : decode cL_closes 624 = .ok (.iconst 1, 1) := by decide +kernel
theorem dL_closes_625 : decode cL_closes 625 = .ok (.goto 4, 3) := by decide +kernel
theorem dL_closes_628 : decode cL_closes 628 = .ok (.iconst 0, 1) := by decide +kernel
theorem dL_closes_629 : decode cL_closes 629 = .ok (.ireturn, 1) := by decide +kernel
theorem dL_shoots_0 : decode cL_shoots 0 = .ok (.iload_n 3, 1) := by decide +kernel
theorem dL_shoots_1 : decode cL_shoots 1 = .ok (.sipush 7001, 3) := by decide +kernel
theorem dL_shoots_4 : decode cL_shoots 4 = .ok (.invokestatic 65, 3) := by decide +kernel
theorem dL_shoots_7 : decode cL_shoots 7 = .ok (.sipush 3500, 3) := by decide +kernel
theorem dL_shoots_10 : decode cL_shoots 10 = .ok (.isub, 1) := by decide +kernel
theorem dL_shoots_11 : decode cL_shoots 11 = .ok (.istore 4, 2) := by decide +kernel
theorem dL_shoots_13 : decode cL_shoots 13 = .ok (.sipush 1450, 3) := by decide +kernel
theorem dL_shoots_16 : decode cL_shoots 16 = .ok (.iload_n 2, 1) := by decide +kernel
theorem dL_shoots_17 : decode cL_shoots 17 = .ok (.bipush 40, 2) := by decide +kernel
theorem dL_shoots_19 : decode cL_shoots 19 = .ok (.invokestatic 65, 3) := by decide +kernel
theorem dL_shoots_22 : decode cL_shoots 22 = .ok (.iadd, 1) := by decide +kernel

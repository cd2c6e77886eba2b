theorem dX11_worksOut_65 : decode cX11_worksOut 65 = .ok (.getfield 39, 3) := by decide +kernel
theorem dX11_worksOut_68 : decode cX11_worksOut 68 = .ok (.iconst 2, 1) := by decide +kernel
theorem dX11_worksOut_69 : decode cX11_worksOut 69 = .ok (.iload_n 2, 1) := by decide +kernel
theorem dX11_worksOut_70 : decode cX11_worksOut 70 = .ok (.imul, 1) := by decide +kernel
theorem dX11_worksOut_71 : decode cX11_worksOut 71 = .ok (.iaload, 1) := by decide +kernel
theorem dX11_worksOut_72 : decode cX11_worksOut 72 = .ok (.ifCond .ne 16, 3) := by decide +kernel
theorem dX11_worksOut_75 : decode cX11_worksOut 75 = .ok (.aload_n 0, 1) := by decide +kernel
theorem dX11_worksOut_76 : decode cX11_worksOut 76 = .ok (.getfield 39, 3) := by decide +kernel
theorem dX11_worksOut_79 : decode cX11_worksOut 79 = .ok (.iconst 2, 1) := by decide +kernel
theorem dX11_worksOut_80 : decode cX11_worksOut 80 = .ok (.iload_n 2, 1) := by decide +kernel
theorem dX11_worksOut_81 : decode cX11_worksOut 81 = .ok (.imul, 1) := by decide +kernel
theorem dX11_worksOut_82 : decode cX11_worksOut 82 = .ok (.iconst 1, 1) := by decide +kernel
theorem dX11_worksOut_83 : decode cX11_worksOut 83 = .ok (.iadd, 1) := by decide +kernel
theorem dX11_worksOut_84 : decode cX11_worksOut 84 = .ok (.iaload, 1) := by decide +kernel
theorem dX11_worksOut_85 : decode cX11_worksOut 85 = .ok (.ifCond .eq 7, 3) := by decide +kernel
theorem dX11_worksOut_88 : decode cX11_worksOut 88 = .ok (.iconst 1, 1) := by decide +kernel
theorem dX11_worksOut_89 : decode cX11_worksOut 89 = .ok (.goto 4, 3) := by decide +kernel
theorem dX11_worksOut_92 : decode cX11_worksOut 92 = .ok (.iconst 0, 1) := by decide +kernel
theorem dX11_worksOut_93 : decode cX11_worksOut 93 = .ok (.istore_n 3, 1) := by decide +kernel
theorem dX11_worksOut_94 : decode cX11_worksOut 94 = .ok (.aload_n 0, 1) := by decide +kernel
theorem dX11_worksOut_95 : decode cX11_worksOut 95 = .ok (.getfield 36, 3) := by decide +kernel
theorem dX11_worksOut_98 : decode cX11_worksOut 98 = .ok (.iload_n 2, 1) := by decide +kernel
theorem dX11_worksOut_99 : decode cX11_worksOut 99 = .ok (.aload_n 0, 1) := by decide +kernel
theorem dX11_worksOut_100 : decode cX11_worksOut 100 = .ok (.iload_n 2, 1) := by decide +kernel
theorem dX11_worksOut_101 : decode cX11_worksOut 101 = .ok (.iload_n 1, 1) := by decide +kernel
theorem dX11_worksOut_102 : decode cX11_worksOut 102 = .ok (.invokevirtual 167, 3) := by decide +kernel
theorem dX11_worksOut_105 : decode cX11_worksOut 105 = .ok (.ifCond .eq 7, 3) := by decide +kernel
theorem dX11_worksOut_108 : decode cX11_worksOut 108 = .ok (.iconst 2, 1) := by decide +kernel
theorem dX11_worksOut_109 : decode cX11_worksOut 109 = .ok (.goto 12, 3) := by decide +kernel
theorem dX11_worksOut_112 : decode cX11_worksOut 112 = .ok (.iload_n 3, 1) := by decide +kernel
theorem dX11_worksOut_113 : decode cX11_worksOut 113 = .ok (.ifCond .eq 7, 3) := by decide +kernel
theorem dX11_worksOut_116 : decode cX11_worksOut 116 = .ok (.iconst 3, 1) := by decide +kernel
theorem dX11_worksOut_117 : decode cX11_worksOut 117 = .ok (.goto 4, 3) := by decide +kernel
theorem dX11_worksOut_120 : decode cX11_worksOut 120 = .ok (.iconst 4, 1) := by decide +kernel
theorem dX11_worksOut_121 : decode cX11_worksOut 121 = .ok (.iastore, 1) := by decide +kernel
theorem dX11_worksOut_122 : decode cX11_worksOut 122 = .ok (.aload_n 0, 1) := by decide +kernel
theorem dX11_worksOut_123 : decode cX11_worksOut 123 = .ok (.dup, 1) := by decide +kernel
theorem dX11_worksOut_124 : decode cX11_worksOut 124 = .ok (.getfield 151, 3) := by decide +kernel
theorem dX11_worksOut_127 : decode cX11_worksOut 127 = .ok (.aload_n 0, 1) := by decide +kernel
theorem dX11_worksOut_128 : decode cX11_worksOut 128 = .ok (.getfield 36, 3) := by decide +kernel
theorem dX11_worksOut_131 : decode cX11_worksOut 131 = .ok (.iload_n 2, 1) := by decide +kernel
theorem dX11_worksOut_132 : decode cX11_worksOut 132 = .ok (.iaload, 1) := by decide +kernel
theorem dX11_worksOut_133 : decode cX11_worksOut 133 = .ok (.iconst 3, 1) := by decide +kernel
theorem dX11_worksOut_134 : decode cX11_worksOut 134 = .ok (.if_icmp .lt 9, 3) := by decide +kernel
theorem dX11_worksOut_137 : decode cX11_worksOut 137 = .ok (.iconst 1, 1) := by decide +kernel
theorem dX11_worksOut_138 : decode cX11_worksOut 138 = .ok (.iload_n 2, 1) := by decide +kernel
theorem dX11_worksOut_139 : decode cX11_worksOut 139 = .ok (.ishl, 1) := by decide +kernel
theorem dX11_worksOut_140 : decode cX11_worksOut 140 = .ok (.goto 4, 3) := by decide +kernel
theorem dX11_worksOut_143 : decode cX11_worksOut 143 = .ok (.iconst 0, 1) := by decide +kernel
theorem dX11_worksOut_144 : decode cX11_worksOut 144 = .ok (.ior, 1) := by decide +kernel
theorem dX11_worksOut_145 : decode cX11_worksOut 145 = .ok (.putfield 151, 3) := by decide +kernel
theorem dX11_worksOut_148 : decode cX11_worksOut 148 = .ok (.aload_n 0, 1) := by decide +kernel
theorem dX11_worksOut_149 : decode cX11_worksOut 149 = .ok (.dup, 1) := by decide +kernel
theorem dX11_worksOut_150 : decode cX11_worksOut 150 = .ok (.getfield 154, 3) := by decide +kernel
theorem dX11_worksOut_153 : decode cX11_worksOut 153 = .ok (.aload_n 0, 1) := by decide +kernel
theorem dX11_worksOut_154 : decode cX11_worksOut 154 = .ok (.getfield 36, 3) := by decide +kernel
theorem dX11_worksOut_157 : decode cX11_worksOut 157 = .ok (.iload_n 2, 1) := by decide +kernel
theorem dX11_worksOut_158 : decode cX11_worksOut 158 = .ok (.iaload, 1) := by decide +kernel
theorem dX11_worksOut_159 : decode cX11_worksOut 159 = .ok (.iconst 3, 1) := by decide +kernel
theorem dX11_worksOut_160 : decode cX11_worksOut 160 = .ok (.if_icmp .ne 9, 3) := by decide +kernel
theorem dX11_worksOut_163 : decode cX11_worksOut 163 = .ok (.iconst 1, 1) := by decide +kernel
theorem dX11_worksOut_164 : decode cX11_worksOut 164 = .ok (.iload_n 2, 1) := by decide +kernel
theorem dX11_worksOut_165 : decode cX11_worksOut 165 = .ok (.ishl, 1) := by decide +kernel
theorem dX11_worksOut_166 : decode cX11_worksOut 166 = .ok (.goto 4, 3) := by decide +kernel
theorem dX11_worksOut_169 : decode cX11_worksOut 169 = .ok (.iconst 0, 1) := by decide +kernel
theorem dX11_worksOut_170 : decode cX11_worksOut 170 = .ok (.ior, 1) := by decide +kernel
theorem dX11_worksOut_171 : decode cX11_worksOut 171 = .ok (.putfield 154, 3) := by decide +kernel
theorem dX11_worksOut_174 : decode cX11_worksOut 174 = .ok (.aload_n 0, 1) := by decide +kernel
theorem dX11_worksOut_175 : decode cX11_worksOut 175 = .ok (.getfield 36, 3) := by decide +kernel
theorem dX11_worksOut_178 : decode cX11_worksOut 178 = .ok (.iload_n 2, 1) := by decide +kernel
theorem dX11_worksOut_179 : decode cX11_worksOut 179 = .ok (.iaload, 1) := by decide +kernel
theorem dX11_worksOut_180 : decode cX11_worksOut 180 = .ok (.iconst 3, 1) := by decide +kernel
theorem dX11_worksOut_181 : decode cX11_worksOut 181 = .ok (.if_icmp .lt 36, 3) := by decide +kernel
theorem dX11_worksOut_184 : decode cX11_worksOut 184 = .ok (.aload_n 0, 1) := by decide +kernel
theorem dX11_worksOut_185 : decode cX11_worksOut 185 = .ok (.getfield 45, 3) := by decide +kernel
theorem dX11_worksOut_188 : decode cX11_worksOut 188 = .ok (.iload_n 2, 1) := by decide +kernel
theorem dX11_worksOut_189 : decode cX11_worksOut 189 = .ok (.aload_n 0, 1) := by decide +kernel
theorem dX11_worksOut_190 : decode cX11_worksOut 190 = .ok (.iload_n 2, 1) := by decide +kernel
theorem dX11_worksOut_191 : decode cX11_worksOut 191 = .ok (.aload_n 0, 1) := by decide +kernel
theorem dX11_worksOut_192 : decode cX11_worksOut 192 = .ok (.iload_n 2, 1) := by decide +kernel
theorem dX11_worksOut_193 : decode cX11_worksOut 193 = .ok (.iconst 0, 1) := by decide +kernel
theorem dX11_worksOut_194 : decode cX11_worksOut 194 = .ok (.invokevirtual 147, 3) := by decide +kernel
theorem dX11_worksOut_197 : decode cX11_worksOut 197 = .ok (.l2i, 1) := by decide +kernel
theorem dX11_worksOut_198 : decode cX11_worksOut 198 = .ok (.aload_n 0, 1) := by decide +kernel
theorem dX11_worksOut_199 : decode cX11_worksOut 199 = .ok (.iload_n 2, 1) := by decide +kernel
theorem dX11_worksOut_200 : decode cX11_worksOut 200 = .ok (.iconst 1, 1) := by decide +kernel
theorem dX11_worksOut_201 : decode cX11_worksOut 201 = .ok (.invokevirtual 147, 3) := by decide +kernel
theorem dX11_worksOut_204 : decode cX11_worksOut 204 = .ok (.l2i, 1) := by decide +kernel
theorem dX11_worksOut_205 : decode cX11_worksOut 205 = .ok (.invokevirtual 170, 3) := by decide +kernel
theorem dX11_worksOut_208 : decode cX11_worksOut 208 = .ok (.i2l, 1) := by decide +kernel
theorem dX11_worksOut_209 : decode cX11_worksOut 209 = .ok (.lastore, 1) := by decide +kernel
theorem dX11_worksOut_210 : decode cX11_worksOut 210 = .ok (.aload_n 0, 1) := by decide +kernel
theorem dX11_worksOut_211 : decode cX11_worksOut 211 = .ok (.getfield 48, 3) := by decide +kernel
theorem dX11_worksOut_214 : decode cX11_worksOut 214 = .ok (.iload_n 2, 1) := by decide +kernel
theorem dX11_worksOut_215 : decode cX11_worksOut 215 = .ok (.iconst 1, 1) := by decide +kernel
theorem dX11_worksOut_216 : decode cX11_worksOut 216 = .ok (.bastore, 1) := by decide +kernel
theorem dX11_worksOut_217 : decode cX11_worksOut 217 = .ok (.iinc 2 1, 3) := by decide +kernel
theorem dX11_worksOut_220 : decode cX11_worksOut 220 = .ok (.goto (-184), 3) := by decide +kernel
theorem dX11_worksOut_223 : decode cX11_worksOut 223 = .ok (.aload_n 0, 1) := by decide +kernel
theorem dX11_worksOut_224 : decode cX11_worksOut 224 = .ok (.getfield 151, 3) := by decide +kernel
theorem dX11_worksOut_227 : decode cX11_worksOut 227 = .ok (.ifCond .ne 5, 3) := by decide +kernel
theorem dX11_worksOut_230 : decode cX11_worksOut 230 = .ok (.iconst 0, 1) := by decide +kernel
theorem dX11_worksOut_231 : decode cX11_worksOut 231 = .ok (.ireturn, 1) := by decide +kernel
theorem dX11_worksOut_232 : decode cX11_worksOut 232 = .ok (.aload_n 0, 1) := by decide +kernel
theorem dX11_worksOut_233 : decode cX11_worksOut 233 = .ok (.aload_n 0, 1) := by decide +kernel
theorem dX11_worksOut_234 : decode cX11_worksOut 234 = .ok (.invokevirtual 174, 3) := by decide +kernel
theorem dX11_worksOut_237 : decode cX11_worksOut 237 = .ok (.putfield 178, 3) := by decide +kernel
theorem dX11_worksOut_240 : decode cX11_worksOut 240 = .ok (.aload_n 0, 1) := by decide +kernel
theorem dX11_worksOut_241 : decode cX11_worksOut 241 = .ok (.getfield 178, 3) := by decide +kernel
theorem dX11_worksOut_244 : decode cX11_worksOut 244 = .ok (.lstore_n 2, 1) := by decide +kernel
theorem dX11_worksOut_245 : decode cX11_worksOut 245 = .ok (.iconst 0, 1) := by decide +kernel
theorem dX11_worksOut_246 : decode cX11_worksOut 246 = .ok (.istore 4, 2) := by decide +kernel
theorem dX11_worksOut_248 : decode cX11_worksOut 248 = .ok (.iload 4, 2) := by decide +kernel
theorem dX11_worksOut_250 : decode cX11_worksOut 250 = .ok (.aload_n 0, 1) := by decide +kernel
theorem dX11_worksOut_251 : decode cX11_worksOut 251 = .ok (.getfield 7, 3) := by decide +kernel
theorem dX11_worksOut_254 : decode cX11_worksOut 254 = .ok (.bipush 64, 2) := by decide +kernel
theorem dX11_worksOut_256 : decode cX11_worksOut 256 = .ok (.iaload, 1) := by decide +kernel
theorem dX11_worksOut_257 : decode cX11_worksOut 257 = .ok (.if_icmp .ge 75, 3) := by decide +kernel
theorem dX11_worksOut_260 : decode cX11_worksOut 260 = .ok (.aload_n 0, 1) := by decide +kernel
theorem dX11_worksOut_261 : decode cX11_worksOut 261 = .ok (.getfield 48, 3) := by decide +kernel
theorem dX11_worksOut_264 : decode cX11_worksOut 264 = .ok (.iload 4, 2) := by decide +kernel
theorem dX11_worksOut_266 : decode cX11_worksOut 266 = .ok (.baload, 1) := by decide +kernel
theorem dX11_worksOut_267 : decode cX11_worksOut 267 = .ok (.ifCond .ne 59, 3) := by decide +kernel
theorem dX11_worksOut_270 : decode cX11_worksOut 270 = .ok (.aload_n 0, 1) := by decide +kernel
theorem dX11_worksOut_271 : decode cX11_worksOut 271 = .ok (.iload 4, 2) := by decide +kernel
theorem dX11_worksOut_273 : decode cX11_worksOut 273 = .ok (.bipush 7, 2) := by decide +kernel
theorem dX11_worksOut_275 : decode cX11_worksOut 275 = .ok (.invokevirtual 83, 3) := by decide +kernel
theorem dX11_worksOut_278 : decode cX11_worksOut 278 = .ok (.ldc 77, 2) := by decide +kernel
theorem dX11_worksOut_280 : decode cX11_worksOut 280 = .ok (.if_icmp .eq 46, 3) := by decide +kernel
theorem dX11_worksOut_283 : decode cX11_worksOut 283 = .ok (.aload_n 0, 1) := by decide +kernel
theorem dX11_worksOut_284 : decode cX11_worksOut 284 = .ok (.getfield 45, 3) := by decide +kernel
theorem dX11_worksOut_287 : decode cX11_worksOut 287 = .ok (.iload 4, 2) := by decide +kernel
theorem dX11_worksOut_289 : decode cX11_worksOut 289 = .ok (.lload_n 2, 1) := by decide +kernel
theorem dX11_worksOut_290 : decode cX11_worksOut 290 = .ok (.aload_n 0, 1) := by decide +kernel
theorem dX11_worksOut_291 : decode cX11_worksOut 291 = .ok (.iload 4, 2) := by decide +kernel
theorem dX11_worksOut_293 : decode cX11_worksOut 293 = .ok (.bipush 7, 2) := by decide +kernel
theorem dX11_worksOut_295 : decode cX11_worksOut 295 = .ok (.invokevirtual 83, 3) := by decide +kernel
theorem dX11_worksOut_298 : decode cX11_worksOut 298 = .ok (.i2l, 1) := by decide +kernel
theorem dX11_worksOut_299 : decode cX11_worksOut 299 = .ok (.lmul, 1) := by decide +kernel
theorem dX11_worksOut_300 : decode cX11_worksOut 300 = .ok (.ldc2_w 108, 3) := by decide +kernel
theorem dX11_worksOut_303 : decode cX11_worksOut 303 = .ok (.ldiv, 1) := by decide +kernel
theorem dX11_worksOut_304 : decode cX11_worksOut 304 = .ok (.lastore, 1) := by decide +kernel
theorem dX11_worksOut_305 : decode cX11_worksOut 305 = .ok (.aload_n 0, 1) := by decide +kernel
theorem dX11_worksOut_306 : decode cX11_worksOut 306 = .ok (.getfield 48, 3) := by decide +kernel
theorem dX11_worksOut_309 : decode cX11_worksOut 309 = .ok (.iload 4, 2) := by decide +kernel
theorem dX11_worksOut_311 : decode cX11_worksOut 311 = .ok (.iconst 1, 1) := by decide +kernel
theorem dX11_worksOut_312 : decode cX11_worksOut 312 = .ok (.bastore, 1) := by decide +kernel
theorem dX11_worksOut_313 : decode cX11_worksOut 313 = .ok (.aload_n 0, 1) := by decide +kernel
theorem dX11_worksOut_314 : decode cX11_worksOut 314 = .ok (.dup, 1) := by decide +kernel
theorem dX11_worksOut_315 : decode cX11_worksOut 315 = .ok (.getfield 157, 3) := by decide +kernel
theorem dX11_worksOut_318 : decode cX11_worksOut 318 = .ok (.iconst 1, 1) := by decide +kernel
theorem dX11_worksOut_319 : decode cX11_worksOut 319 = .ok (.iload 4, 2) := by decide +kernel
theorem dX11_worksOut_321 : decode cX11_worksOut 321 = .ok (.ishl, 1) := by decide +kernel
theorem dX11_worksOut_322 : decode cX11_worksOut 322 = .ok (.ior, 1) := by decide +kernel
theorem dX11_worksOut_323 : decode cX11_worksOut 323 = .ok (.putfield 157, 3) := by decide +kernel
theorem dX11_worksOut_326 : decode cX11_worksOut 326 = .ok (.iinc 4 1, 3) := by decide +kernel
theorem dX11_worksOut_329 : decode cX11_worksOut 329 = .ok (.goto (-81), 3) := by decide +kernel
theorem dX11_worksOut_332 : decode cX11_worksOut 332 = .ok (.aload_n 0, 1) := by decide +kernel
theorem dX11_worksOut_333 : decode cX11_worksOut 333 = .ok (.aload_n 0, 1) := by decide +kernel
theorem dX11_worksOut_334 : decode cX11_worksOut 334 = .ok (.invokevirtual 174, 3) := by decide +kernel
theorem dX11_worksOut_337 : decode cX11_worksOut 337 = .ok (.putfield 178, 3) := by decide +kernel
theorem dX11_worksOut_340 : decode cX11_worksOut 340 = .ok (.iconst 1, 1) := by decide +kernel
theorem dX11_worksOut_341 : decode cX11_worksOut 341 = .ok (.ireturn, 1) := by decide +kernel
set_option maxRecDepth 20000 in
theorem ggX11_weighted_X11_of : GoodIn wsX11_weighted wsX11_of := goodIn_r _ [8, 1, 9, 10, 11, 12, 13, 14, 15, 16, 17, 18, 19, 20, 21, 22, 23, 24, 25, 26, 27, 28, 29, 30, 31, 32, 33] (by decide +kernel) (by decide +kernel)
set_option maxRecDepth 20000 in
theorem gX11_weighted_X11_of : GoodIn wsX11_weighted (wsV RX11 83 RX11 yX11_of wsX11_of) := goodIn_app (goodIn_of _ (by decide +kernel)) ggX11_weighted_X11_of
theorem dX11_weighted_0 : decode cX11_weighted 0 = .ok (.lconst 0, 1) := by decide +kernel
theorem dX11_weighted_1 : decode cX11_weighted 1 = .ok (.lstore_n 1, 1) := by decide +kernel
theorem dX11_weighted_2 : decode cX11_weighted 2 = .ok (.lconst 0, 1) := by decide +kernel
theorem dX11_weighted_3 : decode cX11_weighted 3 = .ok (.lstore_n 3, 1) := by decide +kernel
theorem dX11_weighted_4 : decode cX11_weighted 4 = .ok (.iconst 0, 1) := by decide +kernel
theorem dX11_weighted_5 : decode cX11_weighted 5 = .ok (.istore 5, 2) := by decide +kernel
theorem dX11_weighted_7 : decode cX11_weighted 7 = .ok (.iload 5, 2) := by decide +kernel
theorem dX11_weighted_9 : decode cX11_weighted 9 = .ok (.aload_n 0, 1) := by decide +kernel
theorem dX11_weighted_10 : decode cX11_weighted 10 = .ok (.getfield 7, 3) := by decide +kernel
theorem dX11_weighted_13 : decode cX11_weighted 13 = .ok (.bipush 64, 2) := by decide +kernel
theorem dX11_weighted_15 : decode cX11_weighted 15 = .ok (.iaload, 1) := by decide +kernel
theorem dX11_weighted_16 : decode cX11_weighted 16 = .ok (.if_icmp .ge 67, 3) := by decide +kernel
theorem dX11_weighted_19 : decode cX11_weighted 19 = .ok (.lload_n 1, 1) := by decide +kernel
theorem dX11_weighted_20 : decode cX11_weighted 20 = .ok (.aload_n 0, 1) := by decide +kernel
theorem dX11_weighted_21 : decode cX11_weighted 21 = .ok (.getfield 48, 3) := by decide +kernel
theorem dX11_weighted_24 : decode cX11_weighted 24 = .ok (.iload 5, 2) := by decide +kernel
theorem dX11_weighted_26 : decode cX11_weighted 26 = .ok (.baload, 1) := by decide +kernel
theorem dX11_weighted_27 : decode cX11_weighted 27 = .ok (.ifCond .eq 22, 3) := by decide +kernel
theorem dX11_weighted_30 : decode cX11_weighted 30 = .ok (.aload_n 0, 1) := by decide +kernel
theorem dX11_weighted_31 : decode cX11_weighted 31 = .ok (.getfield 45, 3) := by decide +kernel
theorem dX11_weighted_34 : decode cX11_weighted 34 = .ok (.iload 5, 2) := by decide +kernel
theorem dX11_weighted_36 : decode cX11_weighted 36 = .ok (.laload, 1) := by decide +kernel
theorem dX11_weighted_37 : decode cX11_weighted 37 = .ok (.aload_n 0, 1) := by decide +kernel
theorem dX11_weighted_38 : decode cX11_weighted 38 = .ok (.iload 5, 2) := by decide +kernel
theorem dX11_weighted_40 : decode cX11_weighted 40 = .ok (.iconst 2, 1) := by decide +kernel
theorem dX11_weighted_41 : decode cX11_weighted 41 = .ok (.invokevirtual 83, 3) := by decide +kernel
theorem dX11_weighted_44 : decode cX11_weighted 44 = .ok (.i2l, 1) := by decide +kernel
theorem dX11_weighted_45 : decode cX11_weighted 45 = .ok (.lmul, 1) := by decide +kernel
theorem dX11_weighted_46 : decode cX11_weighted 46 = .ok (.goto 4, 3) := by decide +kernel
theorem dX11_weighted_49 : decode cX11_weighted 49 = .ok (.lconst 0, 1) := by decide +kernel
theorem dX11_weighted_50 : decode cX11_weighted 50 = .ok (.ladd, 1) := by decide +kernel
theorem dX11_weighted_51 : decode cX11_weighted 51 = .ok (.lstore_n 1, 1) := by decide +kernel
theorem dX11_weighted_52 : decode cX11_weighted 52 = .ok (.lload_n 3, 1) := by decide +kernel
theorem dX11_weighted_53 : decode cX11_weighted 53 = .ok (.aload_n 0, 1) := by decide +kernel
theorem dX11_weighted_54 : decode cX11_weighted 54 = .ok (.getfield 48, 3) := by decide +kernel
theorem dX11_weighted_57 : decode cX11_weighted 57 = .ok (.iload 5, 2) := by decide +kernel
theorem dX11_weighted_59 : decode cX11_weighted 59 = .ok (.baload, 1) := by decide +kernel
theorem dX11_weighted_60 : decode cX11_weighted 60 = .ok (.ifCond .eq 14, 3) := by decide +kernel
theorem dX11_weighted_63 : decode cX11_weighted 63 = .ok (.aload_n 0, 1) := by decide +kernel
theorem dX11_weighted_64 : decode cX11_weighted 64 = .ok (.iload 5, 2) := by decide +kernel
theorem dX11_weighted_66 : decode cX11_weighted 66 = .ok (.iconst 2, 1) := by decide +kernel
theorem dX11_weighted_67 : decode cX11_weighted 67 = .ok (.invokevirtual 83, 3) := by decide +kernel
theorem dX11_weighted_70 : decode cX11_weighted 70 = .ok (.i2l, 1) := by decide +kernel
theorem dX11_weighted_71 : decode cX11_weighted 71 = .ok (.goto 4, 3) := by decide +kernel
theorem dX11_weighted_74 : decode cX11_weighted 74 = .ok (.lconst 0, 1) := by decide +kernel
theorem dX11_weighted_75 : decode cX11_weighted 75 = .ok (.ladd, 1) := by decide +kernel
theorem dX11_weighted_76 : decode cX11_weighted 76 = .ok (.lstore_n 3, 1) := by decide +kernel
theorem dX11_weighted_77 : decode cX11_weighted 77 = .ok (.iinc 5 1, 3) := by decide +kernel
theorem dX11_weighted_80 : decode cX11_weighted 80 = .ok (.goto (-73), 3) := by decide +kernel
theorem dX11_weighted_83 : decode cX11_weighted 83 = .ok (.lload_n 1, 1) := by decide +kernel
theorem dX11_weighted_84 : decode cX11_weighted 84 = .ok (.lload_n 3, 1) := by decide +kernel
theorem dX11_weighted_85 : decode cX11_weighted 85 = .ok (.ldiv, 1) := by decide +kernel
theorem dX11_weighted_86 : decode cX11_weighted 86 = .ok (.lreturn, 1) := by decide +kernel
set_option maxRecDepth 20000 in
theorem ggX11_roundVelocity_X11_factorFor : GoodIn wsX11_roundVelocity wsX11_factorFor := goodIn_r _ [7, 8, 9, 10, 11, 6, 12, 13, 14, 15, 16, 17, 18, 19, 20, 21, 22, 23, 24, 25, 26, 27, 28, 29, 30, 31, 32, 33, 34, 35, 36, 37, 38, 39, 40, 41, 42, 43, 44, 45] (by decide +kernel) (by decide +kernel)
set_option maxRecDepth 20000 in
theorem gX11_roundVelocity_X11_factorFor : GoodIn wsX11_roundVelocity (wsV RX11 182 RX11 yX11_factorFor wsX11_factorFor) := goodIn_app (goodIn_of _ (by decide +kernel)) ggX11_roundVelocity_X11_factorFor
theorem dX11_roundVelocity_0 : decode cX11_roundVelocity 0 = .ok (.aload_n 0, 1) := by decide +kernel
theorem dX11_roundVelocity_1 : decode cX11_roundVelocity 1 = .ok (.getfield 178, 3) := by decide +kernel
theorem dX11_roundVelocity_4 : decode cX11_roundVelocity 4 = .ok (.aload_n 0, 1) := by decide +kernel
theorem dX11_roundVelocity_5 : decode cX11_roundVelocity 5 = .ok (.aload_n 0, 1) := by decide +kernel
theorem dX11_roundVelocity_6 : decode cX11_roundVelocity 6 = .ok (.getfield 178, 3) := by decide +kernel
theorem dX11_roundVelocity_9 : decode cX11_roundVelocity 9 = .ok (.invokevirtual 182, 3) := by decide +kernel
theorem dX11_roundVelocity_12 : decode cX11_roundVelocity 12 = .ok (.i2l, 1) := by decide +kernel
theorem dX11_roundVelocity_13 : decode cX11_roundVelocity 13 = .ok (.lmul, 1) := by decide +kernel
theorem dX11_roundVelocity_14 : decode cX11_roundVelocity 14 = .ok (.ldc2_w 108, 3) := by decide +kernel
theorem dX11_roundVelocity_17 : decode cX11_roundVelocity 17 = .ok (.ldiv, 1) := by decide +kernel
theorem dX11_roundVelocity_18 : decode cX11_roundVelocity 18 = .ok (.l2i, 1) := by decide +kernel
theorem dX11_roundVelocity_19 : decode cX11_roundVelocity 19 = .ok (.ireturn, 1) := by decide +kernel
set_option maxRecDepth 20000 in
theorem ggX11_tells_X11_timeOf : GoodIn wsX11_tells wsX11_timeOf := goodIn_r _ [13, 14, 15, 16, 17, 12, 18, 19, 27, 28, 29, 30, 31, 32, 33, 34, 35, 36, 37, 38, 39, 40, 41, 42, 43, 44, 45, 46, 47, 48, 49, 50, 51] (by decide +kernel) (by decide +kernel)
set_option maxRecDepth 20000 in
theorem gX11_tells_X11_timeOf : GoodIn wsX11_tells (wsV RX11 147 RX11 yX11_timeOf wsX11_timeOf) := goodIn_app (goodIn_of _ (by decide +kernel)) ggX11_tells_X11_timeOf
set_option maxRecDepth 20000 in
theorem ggX11_tells_X11_lay : GoodIn wsX11_tells wsX11_lay := goodIn_r _ [23, 19, 27, 28, 29, 30, 31, 32, 33, 34, 35, 36, 37, 38, 39, 40, 41, 42, 43, 44, 45, 46, 47, 48, 49, 50, 51] (by decide +kernel) (by decide +kernel)
set_option maxRecDepth 20000 in
theorem gX11_tells_X11_lay : GoodIn wsX11_tells (wsV RX11 73 RX11 yX11_lay wsX11_lay) := goodIn_app (goodIn_of _ (by decide +kernel)) ggX11_tells_X11_lay
set_option maxRecDepth 20000 in
theorem ggX11_tells_X11_held : GoodIn wsX11_tells wsX11_held := goodIn_r _ [26] (by decide +kernel) (by decide +kernel)
set_option maxRecDepth 20000 in
theorem gX11_tells_X11_held : GoodIn wsX11_tells (va_wsS RX11 112 yX11_held wsX11_held) := goodIn_app (goodIn_of _ (by decide +kernel)) ggX11_tells_X11_held
set_option maxRecDepth 20000 in
theorem ggX11_tells_X11_of : GoodIn wsX11_tells wsX11_of := goodIn_r _ [18, 19, 27, 28, 29, 30, 31, 32, 33, 34, 35, 36, 37, 38, 39, 40, 41, 42, 43, 44, 45, 46, 47, 48, 49, 50, 51] (by decide +kernel) (by decide +kernel)
set_option maxRecDepth 20000 in
theorem gX11_tells_X11_of : GoodIn wsX11_tells (wsV RX11 83 RX11 yX11_of wsX11_of) := goodIn_app (goodIn_of _ (by decide +kernel)) ggX11_tells_X11_of
theorem dX11_tells_0 : decode cX11_tells 0 = .ok (.aload_n 0, 1) := by decide +kernel
theorem dX11_tells_1 : decode cX11_tells 1 = .ok (.getfield 36, 3) := by decide +kernel
theorem dX11_tells_4 : decode cX11_tells 4 = .ok (.iload_n 1, 1) := by decide +kernel
theorem dX11_tells_5 : decode cX11_tells 5 = .ok (.iaload, 1) := by decide +kernel
theorem dX11_tells_6 : decode cX11_tells 6 = .ok (.iconst 3, 1) := by decide +kernel
theorem dX11_tells_7 : decode cX11_tells 7 = .ok (.if_icmp .lt 7, 3) := by decide +kernel
theorem dX11_tells_10 : decode cX11_tells 10 = .ok (.iconst 1, 1) := by decide +kernel
theorem dX11_tells_11 : decode cX11_tells 11 = .ok (.goto 4, 3) := by decide +kernel
theorem dX11_tells_14 : decode cX11_tells 14 = .ok (.iconst 0, 1) := by decide +kernel
theorem dX11_tells_15 : decode cX11_tells 15 = .ok (.istore_n 2, 1) := by decide +kernel
theorem dX11_tells_16 : decode cX11_tells 16 = .ok (.iload_n 2, 1) := by decide +kernel
theorem dX11_tells_17 : decode cX11_tells 17 = .ok (.ifCond .eq 36, 3) := by decide +kernel
theorem dX11_tells_20 : decode cX11_tells 20 = .ok (.aload_n 0, 1) := by decide +kernel
theorem dX11_tells_21 : decode cX11_tells 21 = .ok (.iload_n 1, 1) := by decide +kernel
theorem dX11_tells_22 : decode cX11_tells 22 = .ok (.iconst 0, 1) := by decide +kernel
theorem dX11_tells_23 : decode cX11_tells 23 = .ok (.invokevirtual 147, 3) := by decide +kernel
theorem dX11_tells_26 : decode cX11_tells 26 = .ok (.l2i, 1) := by decide +kernel
theorem dX11_tells_27 : decode cX11_tells 27 = .ok (.istore_n 3, 1) := by decide +kernel
theorem dX11_tells_28 : decode cX11_tells 28 = .ok (.aload_n 0, 1) := by decide +kernel
theorem dX11_tells_29 : decode cX11_tells 29 = .ok (.iload_n 1, 1) := by decide +kernel
theorem dX11_tells_30 : decode cX11_tells 30 = .ok (.iconst 1, 1) := by decide +kernel
theorem dX11_tells_31 : decode cX11_tells 31 = .ok (.invokevirtual 147, 3) := by decide +kernel
theorem dX11_tells_34 : decode cX11_tells 34 = .ok (.l2i, 1) := by decide +kernel
theorem dX11_tells_35 : decode cX11_tells 35 = .ok (.istore 4, 2) := by decide +kernel
theorem dX11_tells_37 : decode cX11_tells 37 = .ok (.aload_n 0, 1) := by decide +kernel
theorem dX11_tells_38 : decode cX11_tells 38 = .ok (.iload_n 1, 1) := by decide +kernel
theorem dX11_tells_39 : decode cX11_tells 39 = .ok (.iconst 5, 1) := by decide +kernel
theorem dX11_tells_40 : decode cX11_tells 40 = .ok (.iload_n 3, 1) := by decide +kernel
theorem dX11_tells_41 : decode cX11_tells 41 = .ok (.invokevirtual 73, 3) := by decide +kernel
theorem dX11_tells_44 : decode cX11_tells 44 = .ok (.aload_n 0, 1) := by decide +kernel
theorem dX11_tells_45 : decode cX11_tells 45 = .ok (.iload_n 1, 1) := by decide +kernel
theorem dX11_tells_46 : decode cX11_tells 46 = .ok (.bipush 6, 2) := by decide +kernel
theorem dX11_tells_48 : decode cX11_tells 48 = .ok (.iload 4, 2) := by decide +kernel
theorem dX11_tells_50 : decode cX11_tells 50 = .ok (.invokevirtual 73, 3) := by decide +kernel
theorem dX11_tells_53 : decode cX11_tells 53 = .ok (.iload_n 2, 1) := by decide +kernel
theorem dX11_tells_54 : decode cX11_tells 54 = .ok (.ifCond .eq 41, 3) := by decide +kernel
theorem dX11_tells_57 : decode cX11_tells 57 = .ok (.aload_n 0, 1) := by decide +kernel
theorem dX11_tells_58 : decode cX11_tells 58 = .ok (.getfield 178, 3) := by decide +kernel
theorem dX11_tells_61 : decode cX11_tells 61 = .ok (.lconst 0, 1) := by decide +kernel
theorem dX11_tells_62 : decode cX11_tells 62 = .ok (.lcmp, 1) := by decide +kernel
theorem dX11_tells_63 : decode cX11_tells 63 = .ok (.ifCond .eq 32, 3) := by decide +kernel
theorem dX11_tells_66 : decode cX11_tells 66 = .ok (.aload_n 0, 1) := by decide +kernel
theorem dX11_tells_67 : decode cX11_tells 67 = .ok (.iload_n 1, 1) := by decide +kernel
theorem dX11_tells_68 : decode cX11_tells 68 = .ok (.bipush 7, 2) := by decide +kernel
theorem dX11_tells_70 : decode cX11_tells 70 = .ok (.aload_n 0, 1) := by decide +kernel
theorem dX11_tells_71 : decode cX11_tells 71 = .ok (.getfield 45, 3) := by decide +kernel
theorem dX11_tells_74 : decode cX11_tells 74 = .ok (.iload_n 1, 1) := by decide +kernel
theorem dX11_tells_75 : decode cX11_tells 75 = .ok (.laload, 1) := by decide +kernel
theorem dX11_tells_76 : decode cX11_tells 76 = .ok (.ldc2_w 108, 3) := by decide +kernel
theorem dX11_tells_79 : decode cX11_tells 79 = .ok (.lmul, 1) := by decide +kernel
theorem dX11_tells_80 : decode cX11_tells 80 = .ok (.aload_n 0, 1) := by decide +kernel
theorem dX11_tells_81 : decode cX11_tells 81 = .ok (.getfield 178, 3) := by decide +kernel
theorem dX11_tells_84 : decode cX11_tells 84 = .ok (.ldiv, 1) := by decide +kernel
theorem dX11_tells_85 : decode cX11_tells 85 = .ok (.ldc2_w 186, 3) := by decide +kernel
theorem dX11_tells_88 : decode cX11_tells 88 = .ok (.invokestatic 112, 3) := by decide +kernel
theorem dX11_tells_91 : decode cX11_tells 91 = .ok (.l2i, 1) := by decide +kernel
theorem dX11_tells_92 : decode cX11_tells 92 = .ok (.invokevirtual 73, 3) := by decide +kernel
theorem dX11_tells_95 : decode cX11_tells 95 = .ok (.aload_n 0, 1) := by decide +kernel
theorem dX11_tells_96 : decode cX11_tells 96 = .ok (.iload_n 1, 1) := by decide +kernel
theorem dX11_tells_97 : decode cX11_tells 97 = .ok (.bipush 8, 2) := by decide +kernel
theorem dX11_tells_99 : decode cX11_tells 99 = .ok (.aload_n 0, 1) := by decide +kernel
theorem dX11_tells_100 : decode cX11_tells 100 = .ok (.getfield 36, 3) := by decide +kernel
theorem dX11_tells_103 : decode cX11_tells 103 = .ok (.iload_n 1, 1) := by decide +kernel
theorem dX11_tells_104 : decode cX11_tells 104 = .ok (.iaload, 1) := by decide +kernel
theorem dX11_tells_105 : decode cX11_tells 105 = .ok (.invokevirtual 73, 3) := by decide +kernel
theorem dX11_tells_108 : decode cX11_tells 108 = .ok (.aload_n 0, 1) := by decide +kernel
theorem dX11_tells_109 : decode cX11_tells 109 = .ok (.iload_n 1, 1) := by decide +kernel
theorem dX11_tells_110 : decode cX11_tells 110 = .ok (.bipush 9, 2) := by decide +kernel
theorem dX11_tells_112 : decode cX11_tells 112 = .ok (.aload_n 0, 1) := by decide +kernel
theorem dX11_tells_113 : decode cX11_tells 113 = .ok (.getfield 151, 3) := by decide +kernel
theorem dX11_tells_116 : decode cX11_tells 116 = .ok (.ifCond .eq 22, 3) := by decide +kernel
theorem dX11_tells_119 : decode cX11_tells 119 = .ok (.aload_n 0, 1) := by decide +kernel
theorem dX11_tells_120 : decode cX11_tells 120 = .ok (.getfield 48, 3) := by decide +kernel
theorem dX11_tells_123 : decode cX11_tells 123 = .ok (.iload_n 1, 1) := by decide +kernel
theorem dX11_tells_124 : decode cX11_tells 124 = .ok (.baload, 1) := by decide +kernel
theorem dX11_tells_125 : decode cX11_tells 125 = .ok (.ifCond .eq 13, 3) := by decide +kernel
theorem dX11_tells_128 : decode cX11_tells 128 = .ok (.aload_n 0, 1) := by decide +kernel
theorem dX11_tells_129 : decode cX11_tells 129 = .ok (.getfield 45, 3) := by decide +kernel
theorem dX11_tells_132 : decode cX11_tells 132 = .ok (.iload_n 1, 1) := by decide +kernel
theorem dX11_tells_133 : decode cX11_tells 133 = .ok (.laload, 1) := by decide +kernel
theorem dX11_tells_134 : decode cX11_tells 134 = .ok (.l2i, 1) := by decide +kernel
theorem dX11_tells_135 : decode cX11_tells 135 = .ok (.goto 5, 3) := by decide +kernel
theorem dX11_tells_138 : decode cX11_tells 138 = .ok (.ldc 77, 2) := by decide +kernel
theorem dX11_tells_140 : decode cX11_tells 140 = .ok (.invokevirtual 73, 3) := by decide +kernel
theorem dX11_tells_143 : decode cX11_tells 143 = .ok (.aload_n 0, 1) := by decide +kernel
theorem dX11_tells_144 : decode cX11_tells 144 = .ok (.iload_n 1, 1) := by decide +kernel
theorem dX11_tells_145 : decode cX11_tells 145 = .ok (.bipush 10, 2) := by decide +kernel
theorem dX11_tells_147 : decode cX11_tells 147 = .ok (.iload_n 2, 1) := by decide +kernel
theorem dX11_tells_148 : decode cX11_tells 148 = .ok (.ifCond .eq 7, 3) := by decide +kernel
theorem dX11_tells_151 : decode cX11_tells 151 = .ok (.iconst 0, 1) := by decide +kernel
theorem dX11_tells_152 : decode cX11_tells 152 = .ok (.goto 12, 3) := by decide +kernel
theorem dX11_tells_155 : decode cX11_tells 155 = .ok (.aload_n 0, 1) := by decide +kernel
theorem dX11_tells_156 : decode cX11_tells 156 = .ok (.iload_n 1, 1) := by decide +kernel
theorem dX11_tells_157 : decode cX11_tells 157 = .ok (.bipush 10, 2) := by decide +kernel
theorem dX11_tells_159 : decode cX11_tells 159 = .ok (.invokevirtual 83, 3) := by decide +kernel
theorem dX11_tells_162 : decode cX11_tells 162 = .ok (.iconst 1, 1) := by decide +kernel
theorem dX11_tells_163 : decode cX11_tells 163 = .ok (.iadd, 1) := by decide +kernel
theorem dX11_tells_164 : decode cX11_tells 164 = .ok (.invokevirtual 73, 3) := by decide +kernel
theorem dX11_tells_167 : decode cX11_tells 167 = .ok (.aload_n 0, 1) := by decide +kernel
theorem dX11_tells_168 : decode cX11_tells 168 = .ok (.iload_n 1, 1) := by decide +kernel
theorem dX11_tells_169 : decode cX11_tells 169 = .ok (.bipush 11, 2) := by decide +kernel
theorem dX11_tells_171 : decode cX11_tells 171 = .ok (.aload_n 0, 1) := by decide +kernel
theorem dX11_tells_172 : decode cX11_tells 172 = .ok (.iload_n 1, 1) := by decide +kernel
theorem dX11_tells_173 : decode cX11_tells 173 = .ok (.bipush 11, 2) := by decide +kernel
theorem dX11_tells_175 : decode cX11_tells 175 = .ok (.invokevirtual 83, 3) := by decide +kernel
theorem dX11_tells_178 : decode cX11_tells 178 = .ok (.aload_n 0, 1) := by decide +kernel
theorem dX11_tells_179 : decode cX11_tells 179 = .ok (.getfield 36, 3) := by decide +kernel
theorem dX11_tells_182 : decode cX11_tells 182 = .ok (.iload_n 1, 1) := by decide +kernel
theorem dX11_tells_183 : decode cX11_tells 183 = .ok (.iaload, 1) := by decide +kernel
theorem dX11_tells_184 : decode cX11_tells 184 = .ok (.iconst 3, 1) := by decide +kernel
theorem dX11_tells_185 : decode cX11_tells 185 = .ok (.if_icmp .ne 7, 3) := by decide +kernel
theorem dX11_tells_188 : decode cX11_tells 188 = .ok (.iconst 1, 1) := by decide +kernel
theorem dX11_tells_189 : decode cX11_tells 189 = .ok (.goto 4, 3) := by decide +kernel
theorem dX11_tells_192 : decode cX11_tells 192 = .ok (.iconst 0, 1) := by decide +kernel
theorem dX11_tells_193 : decode cX11_tells 193 = .ok (.iadd, 1) := by decide +kernel
theorem dX11_tells_194 : decode cX11_tells 194 = .ok (.invokevirtual 73, 3) := by decide +kernel
theorem dX11_tells_197 : decode cX11_tells 197 = .ok (.aload_n 0, 1) := by decide +kernel
theorem dX11_tells_198 : decode cX11_tells 198 = .ok (.iload_n 1, 1) := by decide +kernel
theorem dX11_tells_199 : decode cX11_tells 199 = .ok (.bipush 12, 2) := by decide +kernel
theorem dX11_tells_201 : decode cX11_tells 201 = .ok (.aload_n 0, 1) := by decide +kernel
theorem dX11_tells_202 : decode cX11_tells 202 = .ok (.iload_n 1, 1) := by decide +kernel
theorem dX11_tells_203 : decode cX11_tells 203 = .ok (.bipush 12, 2) := by decide +kernel
theorem dX11_tells_205 : decode cX11_tells 205 = .ok (.invokevirtual 83, 3) := by decide +kernel
theorem dX11_tells_208 : decode cX11_tells 208 = .ok (.aload_n 0, 1) := by decide +kernel
theorem dX11_tells_209 : decode cX11_tells 209 = .ok (.getfield 36, 3) := by decide +kernel
theorem dX11_tells_212 : decode cX11_tells 212 = .ok (.iload_n 1, 1) := by decide +kernel
theorem dX11_tells_213 : decode cX11_tells 213 = .ok (.iaload, 1) := by decide +kernel
theorem dX11_tells_214 : decode cX11_tells 214 = .ok (.iconst 2, 1) := by decide +kernel
theorem dX11_tells_215 : decode cX11_tells 215 = .ok (.if_icmp .ne 7, 3) := by decide +kernel
theorem dX11_tells_218 : decode cX11_tells 218 = .ok (.iconst 1, 1) := by decide +kernel
theorem dX11_tells_219 : decode cX11_tells 219 = .ok (.goto 4, 3) := by decide +kernel
theorem dX11_tells_222 : decode cX11_tells 222 = .ok (.iconst 0, 1) := by decide +kernel
theorem dX11_tells_223 : decode cX11_tells 223 = .ok (.iadd, 1) := by decide +kernel
theorem dX11_tells_224 : decode cX11_tells 224 = .ok (.invokevirtual 73, 3) := by decide +kernel
theorem dX11_tells_227 : decode cX11_tells 227 = .ok (.return_, 1) := by decide +kernel
theorem dX11_keeps_0 : decode cX11_keeps 0 = .ok (.bipush 71, 2) := by decide +kernel
theorem dX11_keeps_2 : decode cX11_keeps 2 = .ok (.istore_n 3, 1) := by decide +kernel
theorem dX11_keeps_3 : decode cX11_keeps 3 = .ok (.iload_n 3, 1) := by decide +kernel
theorem dX11_keeps_4 : decode cX11_keeps 4 = .ok (.bipush 6, 2) := by decide +kernel
theorem dX11_keeps_6 : decode cX11_keeps 6 = .ok (.if_icmp .lt 30, 3) := by decide +kernel
theorem dX11_keeps_9 : decode cX11_keeps 9 = .ok (.aload_n 0, 1) := by decide +kernel
theorem dX11_keeps_10 : decode cX11_keeps 10 = .ok (.getfield 7, 3) := by decide +kernel
theorem dX11_keeps_13 : decode cX11_keeps 13 = .ok (.bipush 87, 2) := by decide +kernel
theorem dX11_keeps_15 : decode cX11_keeps 15 = .ok (.iload_n 3, 1) := by decide +kernel
theorem dX11_keeps_16 : decode cX11_keeps 16 = .ok (.iadd, 1) := by decide +kernel
theorem dX11_keeps_17 : decode cX11_keeps 17 = .ok (.aload_n 0, 1) := by decide +kernel
theorem dX11_keeps_18 : decode cX11_keeps 18 = .ok (.getfield 7, 3) := by decide +kernel
theorem dX11_keeps_21 : decode cX11_keeps 21 = .ok (.bipush 87, 2) := by decide +kernel
theorem dX11_keeps_23 : decode cX11_keeps 23 = .ok (.iload_n 3, 1) := by decide +kernel
theorem dX11_keeps_24 : decode cX11_keeps 24 = .ok (.iadd, 1) := by decide +kernel
theorem dX11_keeps_25 : decode cX11_keeps 25 = .ok (.bipush 6, 2) := by decide +kernel
theorem dX11_keeps_27 : decode cX11_keeps 27 = .ok (.isub, 1) := by decide +kernel
theorem dX11_keeps_28 : decode cX11_keeps 28 = .ok (.iaload, 1) := by decide +kernel
theorem dX11_keeps_29 : decode cX11_keeps 29 = .ok (.iastore, 1) := by decide +kernel
theorem dX11_keeps_30 : decode cX11_keeps 30 = .ok (.iinc 3 (-1), 3) := by decide +kernel
theorem dX11_keeps_33 : decode cX11_keeps 33 = .ok (.goto (-30), 3) := by decide +kernel
theorem dX11_keeps_36 : decode cX11_keeps 36 = .ok (.aload_n 0, 1) := by decide +kernel
theorem dX11_keeps_37 : decode cX11_keeps 37 = .ok (.getfield 7, 3) := by decide +kernel
theorem dX11_keeps_40 : decode cX11_keeps 40 = .ok (.bipush 87, 2) := by decide +kernel
theorem dX11_keeps_42 : decode cX11_keeps 42 = .ok (.iload_n 1, 1) := by decide +kernel
theorem dX11_keeps_43 : decode cX11_keeps 43 = .ok (.ifCond .eq 7, 3) := by decide +kernel
theorem dX11_keeps_46 : decode cX11_keeps 46 = .ok (.iload_n 2, 1) := by decide +kernel
theorem dX11_keeps_47 : decode cX11_keeps 47 = .ok (.goto 5, 3) := by decide +kernel
theorem dX11_keeps_50 : decode cX11_keeps 50 = .ok (.ldc 77, 2) := by decide +kernel
theorem dX11_keeps_52 : decode cX11_keeps 52 = .ok (.iastore, 1) := by decide +kernel
theorem dX11_keeps_53 : decode cX11_keeps 53 = .ok (.aload_n 0, 1) := by decide +kernel
theorem dX11_keeps_54 : decode cX11_keeps 54 = .ok (.getfield 7, 3) := by decide +kernel
theorem dX11_keeps_57 : decode cX11_keeps 57 = .ok (.bipush 88, 2) := by decide +kernel
theorem dX11_keeps_59 : decode cX11_keeps 59 = .ok (.iload_n 1, 1) := by decide +kernel
theorem dX11_keeps_60 : decode cX11_keeps 60 = .ok (.ifCond .eq 11, 3) := by decide +kernel
theorem dX11_keeps_63 : decode cX11_keeps 63 = .ok (.aload_n 0, 1) := by decide +kernel
theorem dX11_keeps_64 : decode cX11_keeps 64 = .ok (.getfield 178, 3) := by decide +kernel
theorem dX11_keeps_67 : decode cX11_keeps 67 = .ok (.l2i, 1) := by decide +kernel
theorem dX11_keeps_68 : decode cX11_keeps 68 = .ok (.goto 5, 3) := by decide +kernel
theorem dX11_keeps_71 : decode cX11_keeps 71 = .ok (.ldc 77, 2) := by decide +kernel
theorem dX11_keeps_73 : decode cX11_keeps 73 = .ok (.iastore, 1) := by decide +kernel
theorem dX11_keeps_74 : decode cX11_keeps 74 = .ok (.aload_n 0, 1) := by decide +kernel
theorem dX11_keeps_75 : decode cX11_keeps 75 = .ok (.getfield 7, 3) := by decide +kernel
theorem dX11_keeps_78 : decode cX11_keeps 78 = .ok (.bipush 89, 2) := by decide +kernel
theorem dX11_keeps_80 : decode cX11_keeps 80 = .ok (.aload_n 0, 1) := by decide +kernel
theorem dX11_keeps_81 : decode cX11_keeps 81 = .ok (.getfield 151, 3) := by decide +kernel
theorem dX11_keeps_84 : decode cX11_keeps 84 = .ok (.iastore, 1) := by decide +kernel
theorem dX11_keeps_85 : decode cX11_keeps 85 = .ok (.aload_n 0, 1) := by decide +kernel
theorem dX11_keeps_86 : decode cX11_keeps 86 = .ok (.getfield 7, 3) := by decide +kernel
theorem dX11_keeps_89 : decode cX11_keeps 89 = .ok (.bipush 90, 2) := by decide +kernel
theorem dX11_keeps_91 : decode cX11_keeps 91 = .ok (.aload_n 0, 1) := by decide +kernel
theorem dX11_keeps_92 : decode cX11_keeps 92 = .ok (.getfield 154, 3) := by decide +kernel
theorem dX11_keeps_95 : decode cX11_keeps 95 = .ok (.iastore, 1) := by decide +kernel
theorem dX11_keeps_96 : decode cX11_keeps 96 = .ok (.aload_n 0, 1) := by decide +kernel
theorem dX11_keeps_97 : decode cX11_keeps 97 = .ok (.getfield 7, 3) := by decide +kernel
theorem dX11_keeps_100 : decode cX11_keeps 100 = .ok (.bipush 91, 2) := by decide +kernel
theorem dX11_keeps_102 : decode cX11_keeps 102 = .ok (.aload_n 0, 1) := by decide +kernel
theorem dX11_keeps_103 : decode cX11_keeps 103 = .ok (.getfield 157, 3) := by decide +kernel
theorem dX11_keeps_106 : decode cX11_keeps 106 = .ok (.iastore, 1) := by decide +kernel
theorem dX11_keeps_107 : decode cX11_keeps 107 = .ok (.aload_n 0, 1) := by decide +kernel
theorem dX11_keeps_108 : decode cX11_keeps 108 = .ok (.getfield 7, 3) := by decide +kernel
theorem dX11_keeps_111 : decode cX11_keeps 111 = .ok (.bipush 92, 2) := by decide +kernel
theorem dX11_keeps_113 : decode cX11_keeps 113 = .ok (.aload_n 0, 1) := by decide +kernel
theorem dX11_keeps_114 : decode cX11_keeps 114 = .ok (.getfield 141, 3) := by decide +kernel
theorem dX11_keeps_117 : decode cX11_keeps 117 = .ok (.iastore, 1) := by decide +kernel
theorem dX11_keeps_118 : decode cX11_keeps 118 = .ok (.aload_n 0, 1) := by decide +kernel
theorem dX11_keeps_119 : decode cX11_keeps 119 = .ok (.getfield 7, 3) := by decide +kernel
theorem dX11_keeps_122 : decode cX11_keeps 122 = .ok (.bipush 86, 2) := by decide +kernel
theorem dX11_keeps_124 : decode cX11_keeps 124 = .ok (.dup2, 1) := by decide +kernel
theorem dX11_keeps_125 : decode cX11_keeps 125 = .ok (.iaload, 1) := by decide +kernel
theorem dX11_keeps_126 : decode cX11_keeps 126 = .ok (.aload_n 0, 1) := by decide +kernel
theorem dX11_keeps_127 : decode cX11_keeps 127 = .ok (.getfield 7, 3) := by decide +kernel
theorem dX11_keeps_130 : decode cX11_keeps 130 = .ok (.bipush 86, 2) := by decide +kernel
theorem dX11_keeps_132 : decode cX11_keeps 132 = .ok (.iaload, 1) := by decide +kernel
theorem dX11_keeps_133 : decode cX11_keeps 133 = .ok (.bipush 12, 2) := by decide +kernel
theorem dX11_keeps_135 : decode cX11_keeps 135 = .ok (.if_icmp .ge 7, 3) := by decide +kernel
theorem dX11_keeps_138 : decode cX11_keeps 138 = .ok (.iconst 1, 1) := by decide +kernel
theorem dX11_keeps_139 : decode cX11_keeps 139 = .ok (.goto 4, 3) := by decide +kernel
theorem dX11_keeps_142 : decode cX11_keeps 142 = .ok (.iconst 0, 1) := by decide +kernel
theorem dX11_keeps_143 : decode cX11_keeps 143 = .ok (.iadd, 1) := by decide +kernel
theorem dX11_keeps_144 : decode cX11_keeps 144 = .ok (.iastore, 1) := by decide +kernel
theorem dX11_keeps_145 : decode cX11_keeps 145 = .ok (.return_, 1) := by decide +kernel
set_option maxRecDepth 20000 in
theorem ggX11_closes_X11_worksOut : GoodIn wsX11_closes wsX11_worksOut := goodIn_r _ [9, 10, 11, 12, 13, 1, 14, 15, 16, 17, 18, 2, 3, 19, 20, 21, 8, 22, 23, 24, 25, 26, 27, 28, 29, 30, 31, 32, 33, 34, 35, 36, 37, 38, 39, 40, 41, 42, 43, 44, 45, 46, 47, 48, 49, 50, 51, 52, 53, 54, 55, 56, 57, 58, 59, 60, 61, 62, 63, 97, 98, 99, 100, 101, 102, 103, 104, 105, 106, 107, 108, 109, 110, 111, 112, 113, 114, 115, 116, 117, 118, 119, 120, 121] (by decide +kernel) (by decide +kernel)
set_option maxRecDepth 20000 in
theorem gX11_closes_X11_worksOut : GoodIn wsX11_closes (wsV RX11 188 RX11 yX11_worksOut wsX11_worksOut) := goodIn_app (goodIn_of _ (by decide +kernel)) ggX11_closes_X11_worksOut
set_option maxRecDepth 20000 in
theorem ggX11_closes_X11_roundVelocity : GoodIn wsX11_closes wsX11_roundVelocity := goodIn_r _ [67, 18, 3, 68, 69, 70, 8, 71, 1, 72, 73, 74, 75, 76, 77, 78, 79, 80, 81, 82, 83, 97, 98, 99, 100, 101, 102, 103, 104, 105, 106, 107, 108, 109, 110, 111, 112, 113, 114, 115, 116, 117, 118, 119, 120, 121] (by decide +kernel) (by decide +kernel)
set_option maxRecDepth 20000 in
theorem gX11_closes_X11_roundVelocity : GoodIn wsX11_closes (wsV RX11 191 RX11 yX11_roundVelocity wsX11_roundVelocity) := goodIn_app (goodIn_of _ (by decide +kernel)) ggX11_closes_X11_roundVelocity
set_option maxRecDepth 20000 in
theorem ggX11_closes_X11_tells : GoodIn wsX11_closes wsX11_tells := goodIn_r _ [87, 15, 18, 17, 3, 88, 11, 14, 2, 47, 48, 49, 8, 50, 16, 24, 25, 26, 27, 1, 89, 90, 91, 92, 57, 58, 59, 97, 98, 99, 100, 101, 102, 103, 104, 105, 106, 107, 108, 109, 110, 111, 112, 113, 114, 115, 116, 117, 118, 119, 120, 121] (by decide +kernel) (by decide +kernel)
set_option maxRecDepth 20000 in
theorem gX11_closes_X11_tells : GoodIn wsX11_closes (wsV RX11 194 RX11 yX11_tells wsX11_tells) := goodIn_app (goodIn_of _ (by decide +kernel)) ggX11_closes_X11_tells
set_option maxRecDepth 20000 in
theorem ggX11_closes_X11_lay : GoodIn wsX11_closes wsX11_lay := goodIn_r _ [92, 1, 97, 98, 99, 100, 101, 102, 103, 104, 105, 106, 107, 108, 109, 110, 111, 112, 113, 114, 115, 116, 117, 118, 119, 120, 121] (by decide +kernel) (by decide +kernel)
set_option maxRecDepth 20000 in
theorem gX11_closes_X11_lay : GoodIn wsX11_closes (wsV RX11 73 RX11 yX11_lay wsX11_lay) := goodIn_app (goodIn_of _ (by decide +kernel)) ggX11_closes_X11_lay
set_option maxRecDepth 20000 in
theorem ggX11_closes_X11_keeps : GoodIn wsX11_closes wsX11_keeps := goodIn_r _ [96, 1, 2, 18, 11, 12, 13, 10, 97, 98, 99, 100, 101, 102, 103, 104, 105, 106, 107, 108, 109, 110, 111, 112, 113, 114, 115, 116, 117, 118, 119, 120, 121] (by decide +kernel) (by decide +kernel)
set_option maxRecDepth 20000 in
theorem gX11_closes_X11_keeps : GoodIn wsX11_closes (wsV RX11 197 RX11 yX11_keeps wsX11_keeps) := goodIn_app (goodIn_of _ (by decide +kernel)) ggX11_closes_X11_keeps
theorem dX11_closes_0 : decode cX11_closes 0 = .ok (.aload_n 0, 1) := by decide +kernel
theorem dX11_closes_1 : decode cX11_closes 1 = .ok (.aload_n 0, 1) := by decide +kernel
theorem dX11_closes_2 : decode cX11_closes 2 = .ok (.getfield 7, 3) := by decide +kernel
theorem dX11_closes_5 : decode cX11_closes 5 = .ok (.bipush 79, 2) := by decide +kernel
theorem dX11_closes_7 : decode cX11_closes 7 = .ok (.iaload, 1) := by decide +kernel
theorem dX11_closes_8 : decode cX11_closes 8 = .ok (.invokevirtual 188, 3) := by decide +kernel
theorem dX11_closes_11 : decode cX11_closes 11 = .ok (.istore_n 1, 1) := by decide +kernel
theorem dX11_closes_12 : decode cX11_closes 12 = .ok (.iload_n 1, 1) := by decide +kernel
theorem dX11_closes_13 : decode cX11_closes 13 = .ok (.ifCond .eq 10, 3) := by decide +kernel
theorem dX11_closes_16 : decode cX11_closes 16 = .ok (.aload_n 0, 1) := by decide +kernel
theorem dX11_closes_17 : decode cX11_closes 17 = .ok (.invokevirtual 191, 3) := by decide +kernel
theorem dX11_closes_20 : decode cX11_closes 20 = .ok (.goto 5, 3) := by decide +kernel
theorem dX11_closes_23 : decode cX11_closes 23 = .ok (.ldc 77, 2) := by decide +kernel
theorem dX11_closes_25 : decode cX11_closes 25 = .ok (.istore_n 2, 1) := by decide +kernel
theorem dX11_closes_26 : decode cX11_closes 26 = .ok (.iconst 0, 1) := by decide +kernel
theorem dX11_closes_27 : decode cX11_closes 27 = .ok (.istore_n 3, 1) := by decide +kernel
theorem dX11_closes_28 : decode cX11_closes 28 = .ok (.iload_n 3, 1) := by decide +kernel
theorem dX11_closes_29 : decode cX11_closes 29 = .ok (.aload_n 0, 1) := by decide +kernel
theorem dX11_closes_30 : decode cX11_closes 30 = .ok (.getfield 7, 3) := by decide +kernel
theorem dX11_closes_33 : decode cX11_closes 33 = .ok (.bipush 64, 2) := by decide +kernel
theorem dX11_closes_35 : decode cX11_closes 35 = .ok (.iaload, 1) := by decide +kernel
theorem dX11_closes_36 : decode cX11_closes 36 = .ok (.if_icmp .ge 14, 3) := by decide +kernel
theorem dX11_closes_39 : decode cX11_closes 39 = .ok (.aload_n 0, 1) := by decide +kernel
theorem dX11_closes_40 : decode cX11_closes 40 = .ok (.iload_n 3, 1) := by decide +kernel
theorem dX11_closes_41 : decode cX11_closes 41 = .ok (.invokevirtual 194, 3) := by decide +kernel
theorem dX11_closes_44 : decode cX11_closes 44 = .ok (.iinc 3 1, 3) := by decide +kernel
theorem dX11_closes_47 : decode cX11_closes 47 = .ok (.goto (-19), 3) := by decide +kernel
theorem dX11_closes_50 : decode cX11_closes 50 = .ok (.iconst 0, 1) := by decide +kernel
theorem dX11_closes_51 : decode cX11_closes 51 = .ok (.istore_n 3, 1) := by decide +kernel
theorem dX11_closes_52 : decode cX11_closes 52 = .ok (.iload_n 3, 1) := by decide +kernel
theorem dX11_closes_53 : decode cX11_closes 53 = .ok (.aload_n 0, 1) := by decide +kernel
theorem dX11_closes_54 : decode cX11_closes 54 = .ok (.getfield 7, 3) := by decide +kernel
theorem dX11_closes_57 : decode cX11_closes 57 = .ok (.bipush 64, 2) := by decide +kernel
theorem dX11_closes_59 : decode cX11_closes 59 = .ok (.iaload, 1) := by decide +kernel
theorem dX11_closes_60 : decode cX11_closes 60 = .ok (.if_icmp .ge 18, 3) := by decide +kernel
theorem dX11_closes_63 : decode cX11_closes 63 = .ok (.aload_n 0, 1) := by decide +kernel
theorem dX11_closes_64 : decode cX11_closes 64 = .ok (.iload_n 3, 1) := by decide +kernel
theorem dX11_closes_65 : decode cX11_closes 65 = .ok (.bipush 13, 2) := by decide +kernel
theorem dX11_closes_67 : decode cX11_closes 67 = .ok (.ldc 77, 2) := by decide +kernel
theorem dX11_closes_69 : decode cX11_closes 69 = .ok (.invokevirtual 73, 3) := by decide +kernel
theorem dX11_closes_72 : decode cX11_closes 72 = .ok (.iinc 3 1, 3) := by decide +kernel
theorem dX11_closes_75 : decode cX11_closes 75 = .ok (.goto (-23), 3) := by decide +kernel
theorem dX11_closes_78 : decode cX11_closes 78 = .ok (.aload_n 0, 1) := by decide +kernel
theorem dX11_closes_79 : decode cX11_closes 79 = .ok (.iload_n 1, 1) := by decide +kernel
theorem dX11_closes_80 : decode cX11_closes 80 = .ok (.iload_n 2, 1) := by decide +kernel
theorem dX11_closes_81 : decode cX11_closes 81 = .ok (.invokevirtual 197, 3) := by decide +kernel
theorem dX11_closes_84 : decode cX11_closes 84 = .ok (.aload_n 0, 1) := by decide +kernel
theorem dX11_closes_85 : decode cX11_closes 85 = .ok (.getfield 7, 3) := by decide +kernel
theorem dX11_closes_88 : decode cX11_closes 88 = .ok (.bipush 84, 2) := by decide +kernel
theorem dX11_closes_90 : decode cX11_closes 90 = .ok (.dup2, 1) := by decide +kernel
theorem dX11_closes_91 : decode cX11_closes 91 = .ok (.iaload, 1) := by decide +kernel
theorem dX11_closes_92 : decode cX11_closes 92 = .ok (.iconst 1, 1) := by decide +kernel
theorem dX11_closes_93 : decode cX11_closes 93 = .ok (.iadd, 1) := by decide +kernel
theorem dX11_closes_94 : decode cX11_closes 94 = .ok (.iastore, 1) := by decide +kernel
theorem dX11_closes_95 : decode cX11_closes 95 = .ok (.aload_n 0, 1) := by decide +kernel
theorem dX11_closes_96 : decode cX11_closes 96 = .ok (.getfield 7, 3) := by decide +kernel
theorem dX11_closes_99 : decode cX11_closes 99 = .ok (.bipush 85, 2) := by decide +kernel
theorem dX11_closes_101 : decode cX11_closes 101 = .ok (.dup2, 1) := by decide +kernel
theorem dX11_closes_102 : decode cX11_closes 102 = .ok (.iaload, 1) := by decide +kernel
theorem dX11_closes_103 : decode cX11_closes 103 = .ok (.iload_n 1, 1) := by decide +kernel
theorem dX11_closes_104 : decode cX11_closes 104 = .ok (.ifCond .eq 7, 3) := by decide +kernel
theorem dX11_closes_107 : decode cX11_closes 107 = .ok (.iconst 0, 1) := by decide +kernel
theorem dX11_closes_108 : decode cX11_closes 108 = .ok (.goto 4, 3) := by decide +kernel
theorem dX11_closes_111 : decode cX11_closes 111 = .ok (.iconst 1, 1) := by decide +kernel
theorem dX11_closes_112 : decode cX11_closes 112 = .ok (.iadd, 1) := by decide +kernel
theorem dX11_closes_113 : decode cX11_closes 113 = .ok (.iastore, 1) := by decide +kernel
theorem dX11_closes_114 : decode cX11_closes 114 = .ok (.iload_n 1, 1) := by decide +kernel
theorem dX11_closes_115 : decode cX11_closes 115 = .ok (.ifCond .eq 69, 3) := by decide +kernel
theorem dX11_closes_118 : decode cX11_closes 118 = .ok (.iload_n 2, 1) := by decide +kernel
theorem dX11_closes_119 : decode cX11_closes 119 = .ok (.i2l, 1) := by decide +kernel
theorem dX11_closes_120 : decode cX11_closes 120 = .ok (.aload_n 0, 1) := by decide +kernel
theorem dX11_closes_121 : decode cX11_closes 121 = .ok (.getfield 7, 3) := by decide +kernel
theorem dX11_closes_124 : decode cX11_closes 124 = .ok (.bipush 81, 2) := by decide +kernel
theorem dX11_closes_126 : decode cX11_closes 126 = .ok (.iaload, 1) := by decide +kernel
theorem dX11_closes_127 : decode cX11_closes 127 = .ok (.i2l, 1) := by decide +kernel
theorem dX11_closes_128 : decode cX11_closes 128 = .ok (.lmul, 1) := by decide +kernel
theorem dX11_closes_129 : decode cX11_closes 129 = .ok (.aload_n 0, 1) := by decide +kernel
theorem dX11_closes_130 : decode cX11_closes 130 = .ok (.getfield 7, 3) := by decide +kernel
theorem dX11_closes_133 : decode cX11_closes 133 = .ok (.bipush 82, 2) := by decide +kernel
theorem dX11_closes_135 : decode cX11_closes 135 = .ok (.iaload, 1) := by decide +kernel
theorem dX11_closes_136 : decode cX11_closes 136 = .ok (.i2l, 1) := by decide +kernel
theorem dX11_closes_137 : decode cX11_closes 137 = .ok (.lmul, 1) := by decide +kernel
theorem dX11_closes_138 : decode cX11_closes 138 = .ok (.ldc2_w 108, 3) := by decide +kernel
theorem dX11_closes_141 : decode cX11_closes 141 = .ok (.ldiv, 1) := by decide +kernel
theorem dX11_closes_142 : decode cX11_closes 142 = .ok (.lstore_n 3, 1) := by decide +kernel
theorem dX11_closes_143 : decode cX11_closes 143 = .ok (.aload_n 0, 1) := by decide +kernel
theorem dX11_closes_144 : decode cX11_closes 144 = .ok (.getfield 13, 3) := by decide +kernel
theorem dX11_closes_147 : decode cX11_closes 147 = .ok (.iconst 0, 1) := by decide +kernel
theorem dX11_closes_148 : decode cX11_closes 148 = .ok (.dup2, 1) := by decide +kernel
theorem dX11_closes_149 : decode cX11_closes 149 = .ok (.laload, 1) := by decide +kernel
theorem dX11_closes_150 : decode cX11_closes 150 = .ok (.lload_n 3, 1) := by decide +kernel
theorem dX11_closes_151 : decode cX11_closes 151 = .ok (.lconst 0, 1) := by decide +kernel
theorem dX11_closes_152 : decode cX11_closes 152 = .ok (.lcmp, 1) := by decide +kernel
theorem dX11_closes_153 : decode cX11_closes 153 = .ok (.ifCond .le 7, 3) := by decide +kernel
theorem dX11_closes_156 : decode cX11_closes 156 = .ok (.lload_n 3, 1) := by decide +kernel
theorem dX11_closes_157 : decode cX11_closes 157 = .ok (.goto 4, 3) := by decide +kernel
theorem dX11_closes_160 : decode cX11_closes 160 = .ok (.lconst 0, 1) := by decide +kernel
theorem dX11_closes_161 : decode cX11_closes 161 = .ok (.ladd, 1) := by decide +kernel
theorem dX11_closes_162 : decode cX11_closes 162 = .ok (.lastore, 1) := by decide +kernel
theorem dX11_closes_163 : decode cX11_closes 163 = .ok (.aload_n 0, 1) := by decide +kernel
theorem dX11_closes_164 : decode cX11_closes 164 = .ok (.getfield 13, 3) := by decide +kernel
theorem dX11_closes_167 : decode cX11_closes 167 = .ok (.iconst 1, 1) := by decide +kernel
theorem dX11_closes_168 : decode cX11_closes 168 = .ok (.dup2, 1) := by decide +kernel
theorem dX11_closes_169 : decode cX11_closes 169 = .ok (.laload, 1) := by decide +kernel
theorem dX11_closes_170 : decode cX11_closes 170 = .ok (.lload_n 3, 1) := by decide +kernel
theorem dX11_closes_171 : decode cX11_closes 171 = .ok (.lconst 0, 1) := by decide +kernel
theorem dX11_closes_172 : decode cX11_closes 172 = .ok (.lcmp, 1) := by decide +kernel
theorem dX11_closes_173 : decode cX11_closes 173 = .ok (.ifCond .ge 8, 3) := by decide +kernel
theorem dX11_closes_176 : decode cX11_closes 176 = .ok (.lload_n 3, 1) := by decide +kernel
theorem dX11_closes_177 : decode cX11_closes 177 = .ok (.lneg, 1) := by decide +kernel
theorem dX11_closes_178 : decode cX11_closes 178 = .ok (.goto 4, 3) := by decide +kernel
theorem dX11_closes_181 : decode cX11_closes 181 = .ok (.lconst 0, 1) := by decide +kernel
theorem dX11_closes_182 : decode cX11_closes 182 = .ok (.ladd, 1) := by decide +kernel
theorem dX11_closes_183 : decode cX11_closes 183 = .ok (.lastore, 1) := by decide +kernel
theorem dX11_closes_184 : decode cX11_closes 184 = .ok (.iload_n 2, 1) := by decide +kernel
theorem dX11_closes_185 : decode cX11_closes 185 = .ok (.ireturn, 1) := by decide +kernel
set_option maxRecDepth 20000 in
theorem ggX11_close_X11_records : GoodIn wsX11_close wsX11_records := goodIn_r _ [7, 8, 9, 10, 1, 11, 109, 110, 111, 112, 113, 114, 115, 116, 117, 118, 119, 120, 121, 122, 123, 124, 125, 126, 127, 128, 129, 130, 131, 132, 133] (by decide +kernel) (by decide +kernel)
set_option maxRecDepth 20000 in
theorem gX11_close_X11_records : GoodIn wsX11_close (wsV RX11 70 RX11 yX11_records wsX11_records) := goodIn_app (goodIn_of _ (by decide +kernel)) ggX11_close_X11_records
set_option maxRecDepth 20000 in
theorem ggX11_close_X11_closes : GoodIn wsX11_close wsX11_closes := goodIn_r _ [15, 1, 16, 17, 11, 18, 19, 20, 6, 21, 22, 23, 24, 25, 26, 27, 28, 29, 30, 31, 32, 33, 34, 35, 36, 37, 38, 39, 40, 41, 42, 43, 44, 45, 46, 47, 48, 49, 50, 51, 52, 53, 54, 55, 56, 57, 58, 59, 60, 61, 62, 63, 64, 65, 66, 67, 68, 69, 70, 71, 72, 73, 74, 75, 76, 77, 78, 79, 80, 81, 82, 83, 84, 85, 86, 87, 88, 89, 90, 91, 92, 93, 94, 95, 96, 97, 98, 99, 100, 101, 102, 103, 104, 105, 106, 107, 108, 109, 110, 111, 112, 113, 114, 115, 116, 117, 118, 119, 120, 121, 122, 123, 124, 125, 126, 127, 128, 129, 130, 131, 132, 133] (by decide +kernel) (by decide +kernel)
set_option maxRecDepth 20000 in
theorem gX11_close_X11_closes : GoodIn wsX11_close (wsV RX11 201 RX11 yX11_closes wsX11_closes) := goodIn_app (goodIn_of _ (by decide +kernel)) ggX11_close_X11_closes
theorem dX11_close_0 : decode cX11_close 0 = .ok (.aload_n 0, 1) := by decide +kernel
theorem dX11_close_1 : decode cX11_close 1 = .ok (.getfield 7, 3) := by decide +kernel
theorem dX11_close_4 : decode cX11_close 4 = .ok (.bipush 64, 2) := by decide +kernel
theorem dX11_close_6 : decode cX11_close 6 = .ok (.iaload, 1) := by decide +kernel
theorem dX11_close_7 : decode cX11_close 7 = .ok (.ifCond .ne 6, 3) := by decide +kernel
theorem dX11_close_10 : decode cX11_close 10 = .ok (.ldc 98, 2) := by decide +kernel
theorem dX11_close_12 : decode cX11_close 12 = .ok (.ireturn, 1) := by decide +kernel
theorem dX11_close_13 : decode cX11_close 13 = .ok (.aload_n 0, 1) := by decide +kernel
theorem dX11_close_14 : decode cX11_close 14 = .ok (.invokevirtual 70, 3) := by decide +kernel
theorem dX11_close_17 : decode cX11_close 17 = .ok (.aload_n 0, 1) := by decide +kernel
theorem dX11_close_18 : decode cX11_close 18 = .ok (.invokevirtual 201, 3) := by decide +kernel
theorem dX11_close_21 : decode cX11_close 21 = .ok (.ireturn, 1) := by decide +kernel
set_option maxRecDepth 20000 in
theorem ggX11_exchanges_X11_of : GoodIn wsX11_exchanges wsX11_of := goodIn_r _ [5, 6, 11, 12, 13, 14, 15, 16, 17, 18, 19, 20, 21, 22, 23, 24, 25, 26, 27, 28, 29, 30, 31, 32, 33, 34, 35] (by decide +kernel) (by decide +kernel)
set_option maxRecDepth 20000 in
theorem gX11_exchanges_X11_of : GoodIn wsX11_exchanges (wsV RX11 83 RX11 yX11_of wsX11_of) := goodIn_app (goodIn_of _ (by decide +kernel)) ggX11_exchanges_X11_of
set_option maxRecDepth 20000 in
theorem ggX11_exchanges_X11_lay : GoodIn wsX11_exchanges wsX11_lay := goodIn_r _ [10, 6, 11, 12, 13, 14, 15, 16, 17, 18, 19, 20, 21, 22, 23, 24, 25, 26, 27, 28, 29, 30, 31, 32, 33, 34, 35] (by decide +kernel) (by decide +kernel)
set_option maxRecDepth 20000 in
theorem gX11_exchanges_X11_lay : GoodIn wsX11_exchanges (wsV RX11 73 RX11 yX11_lay wsX11_lay) := goodIn_app (goodIn_of _ (by decide +kernel)) ggX11_exchanges_X11_lay
theorem dX11_exchanges_0 : decode cX11_exchanges 0 = .ok (.aload_n 0, 1) := by decide +kernel
theorem dX11_exchanges_1 : decode cX11_exchanges 1 = .ok (.iload_n 1, 1) := by decide +kernel
theorem dX11_exchanges_2 : decode cX11_exchanges 2 = .ok (.iload_n 2, 1) := by decide +kernel
theorem dX11_exchanges_3 : decode cX11_exchanges 3 = .ok (.invokevirtual 83, 3) := by decide +kernel
theorem dX11_exchanges_6 : decode cX11_exchanges 6 = .ok (.istore_n 3, 1) := by decide +kernel
theorem dX11_exchanges_7 : decode cX11_exchanges 7 = .ok (.aload_n 0, 1) := by decide +kernel
theorem dX11_exchanges_8 : decode cX11_exchanges 8 = .ok (.iload_n 1, 1) := by decide +kernel
theorem dX11_exchanges_9 : decode cX11_exchanges 9 = .ok (.iload_n 2, 1) := by decide +kernel
theorem dX11_exchanges_10 : decode cX11_exchanges 10 = .ok (.aload_n 0, 1) := by decide +kernel
theorem dX11_exchanges_11 : decode cX11_exchanges 11 = .ok (.iload_n 1, 1) := by decide +kernel
theorem dX11_exchanges_12 : decode cX11_exchanges 12 = .ok (.iload_n 2, 1) := by decide +kernel
theorem dX11_exchanges_13 : decode cX11_exchanges 13 = .ok (.iconst 1, 1) := by decide +kernel
theorem dX11_exchanges_14 : decode cX11_exchanges 14 = .ok (.iadd, 1) := by decide +kernel
theorem dX11_exchanges_15 : decode cX11_exchanges 15 = .ok (.invokevirtual 83, 3) := by decide +kernel
theorem dX11_exchanges_18 : decode cX11_exchanges 18 = .ok (.invokevirtual 73, 3) := by decide +kernel
theorem dX11_exchanges_21 : decode cX11_exchanges 21 = .ok (.aload_n 0, 1) := by decide +kernel
theorem dX11_exchanges_22 : decode cX11_exchanges 22 = .ok (.iload_n 1, 1) := by decide +kernel
theorem dX11_exchanges_23 : decode cX11_exchanges 23 = .ok (.iload_n 2, 1) := by decide +kernel
theorem dX11_exchanges_24 : decode cX11_exchanges 24 = .ok (.iconst 1, 1) := by decide +kernel
theorem dX11_exchanges_25 : decode cX11_exchanges 25 = .ok (.iadd, 1) := by decide +kernel
theorem dX11_exchanges_26 : decode cX11_exchanges 26 = .ok (.iload_n 3, 1) := by decide +kernel
theorem dX11_exchanges_27 : decode cX11_exchanges 27 = .ok (.invokevirtual 73, 3) := by decide +kernel
theorem dX11_exchanges_30 : decode cX11_exchanges 30 = .ok (.return_, 1) := by decide +kernel
set_option maxRecDepth 20000 in
theorem ggX11_swaps_X11_of : GoodIn wsX11_swaps wsX11_of := goodIn_r _ [7, 1, 16, 17, 18, 19, 20, 21, 22, 23, 24, 25, 26, 27, 28, 29, 30, 31, 32, 33, 34, 35, 36, 37, 38, 39, 40] (by decide +kernel) (by decide +kernel)
set_option maxRecDepth 20000 in
theorem gX11_swaps_X11_of : GoodIn wsX11_swaps (wsV RX11 83 RX11 yX11_of wsX11_of) := goodIn_app (goodIn_of _ (by decide +kernel)) ggX11_swaps_X11_of
set_option maxRecDepth 20000 in
theorem ggX11_swaps_X11_exchanges : GoodIn wsX11_swaps wsX11_exchanges := goodIn_r _ [11, 3, 4, 5, 6, 7, 1, 12, 13, 14, 15, 16, 17, 18, 19, 20, 21, 22, 23, 24, 25, 26, 27, 28, 29, 30, 31, 32, 33, 34, 35, 36, 37, 38, 39, 40] (by decide +kernel) (by decide +kernel)
set_option maxRecDepth 20000 in
theorem gX11_swaps_X11_exchanges : GoodIn wsX11_swaps (wsV RX11 204 RX11 yX11_exchanges wsX11_exchanges) := goodIn_app (goodIn_of _ (by decide +kernel)) ggX11_swaps_X11_exchanges
theorem dX11_swaps_0 : decode cX11_swaps 0 = .ok (.aload_n 0, 1) := by decide +kernel
theorem dX11_swaps_1 : decode cX11_swaps 1 = .ok (.getfield 7, 3) := by decide +kernel
theorem dX11_swaps_4 : decode cX11_swaps 4 = .ok (.bipush 83, 2) := by decide +kernel
theorem dX11_swaps_6 : decode cX11_swaps 6 = .ok (.iconst 1, 1) := by decide +kernel
theorem dX11_swaps_7 : decode cX11_swaps 7 = .ok (.aload_n 0, 1) := by decide +kernel
theorem dX11_swaps_8 : decode cX11_swaps 8 = .ok (.getfield 7, 3) := by decide +kernel
theorem dX11_swaps_11 : decode cX11_swaps 11 = .ok (.bipush 83, 2) := by decide +kernel
theorem dX11_swaps_13 : decode cX11_swaps 13 = .ok (.iaload, 1) := by decide +kernel
theorem dX11_swaps_14 : decode cX11_swaps 14 = .ok (.isub, 1) := by decide +kernel
theorem dX11_swaps_15 : decode cX11_swaps 15 = .ok (.iastore, 1) := by decide +kernel
theorem dX11_swaps_16 : decode cX11_swaps 16 = .ok (.iconst 0, 1) := by decide +kernel
theorem dX11_swaps_17 : decode cX11_swaps 17 = .ok (.istore_n 1, 1) := by decide +kernel
theorem dX11_swaps_18 : decode cX11_swaps 18 = .ok (.iload_n 1, 1) := by decide +kernel
theorem dX11_swaps_19 : decode cX11_swaps 19 = .ok (.aload_n 0, 1) := by decide +kernel
theorem dX11_swaps_20 : decode cX11_swaps 20 = .ok (.getfield 7, 3) := by decide +kernel
theorem dX11_swaps_23 : decode cX11_swaps 23 = .ok (.bipush 64, 2) := by decide +kernel
theorem dX11_swaps_25 : decode cX11_swaps 25 = .ok (.iaload, 1) := by decide +kernel
theorem dX11_swaps_26 : decode cX11_swaps 26 = .ok (.if_icmp .ge 45, 3) := by decide +kernel
theorem dX11_swaps_29 : decode cX11_swaps 29 = .ok (.aload_n 0, 1) := by decide +kernel
theorem dX11_swaps_30 : decode cX11_swaps 30 = .ok (.iload_n 1, 1) := by decide +kernel
theorem dX11_swaps_31 : decode cX11_swaps 31 = .ok (.iconst 5, 1) := by decide +kernel
theorem dX11_swaps_32 : decode cX11_swaps 32 = .ok (.invokevirtual 83, 3) := by decide +kernel
theorem dX11_swaps_35 : decode cX11_swaps 35 = .ok (.ldc 77, 2) := by decide +kernel
theorem dX11_swaps_37 : decode cX11_swaps 37 = .ok (.if_icmp .eq 9, 3) := by decide +kernel
theorem dX11_swaps_40 : decode cX11_swaps 40 = .ok (.aload_n 0, 1) := by decide +kernel
theorem dX11_swaps_41 : decode cX11_swaps 41 = .ok (.iload_n 1, 1) := by decide +kernel
theorem dX11_swaps_42 : decode cX11_swaps 42 = .ok (.iconst 5, 1) := by decide +kernel
theorem dX11_swaps_43 : decode cX11_swaps 43 = .ok (.invokevirtual 204, 3) := by decide +kernel
theorem dX11_swaps_46 : decode cX11_swaps 46 = .ok (.aload_n 0, 1) := by decide +kernel
theorem dX11_swaps_47 : decode cX11_swaps 47 = .ok (.iload_n 1, 1) := by decide +kernel
theorem dX11_swaps_48 : decode cX11_swaps 48 = .ok (.bipush 13, 2) := by decide +kernel
theorem dX11_swaps_50 : decode cX11_swaps 50 = .ok (.invokevirtual 83, 3) := by decide +kernel
theorem dX11_swaps_53 : decode cX11_swaps 53 = .ok (.ldc 77, 2) := by decide +kernel
theorem dX11_swaps_55 : decode cX11_swaps 55 = .ok (.if_icmp .eq 10, 3) := by decide +kernel
theorem dX11_swaps_58 : decode cX11_swaps 58 = .ok (.aload_n 0, 1) := by decide +kernel
theorem dX11_swaps_59 : decode cX11_swaps 59 = .ok (.iload_n 1, 1) := by decide +kernel
theorem dX11_swaps_60 : decode cX11_swaps 60 = .ok (.bipush 13, 2) := by decide +kernel
theorem dX11_swaps_62 : decode cX11_swaps 62 = .ok (.invokevirtual 204, 3) := by decide +kernel
theorem dX11_swaps_65 : decode cX11_swaps 65 = .ok (.iinc 1 1, 3) := by decide +kernel
theorem dX11_swaps_68 : decode cX11_swaps 68 = .ok (.goto (-50), 3) := by decide +kernel
theorem dX11_swaps_71 : decode cX11_swaps 71 = .ok (.aload_n 0, 1) := by decide +kernel
theorem dX11_swaps_72 : decode cX11_swaps 72 = .ok (.getfield 7, 3) := by decide +kernel
theorem dX11_swaps_75 : decode cX11_swaps 75 = .ok (.bipush 83, 2) := by decide +kernel
theorem dX11_swaps_77 : decode cX11_swaps 77 = .ok (.iaload, 1) := by decide +kernel
theorem dX11_swaps_78 : decode cX11_swaps 78 = .ok (.ireturn, 1) := by decide +kernel
set_option maxRecDepth 20000 in
theorem ggX11_swap_X11_records : GoodIn wsX11_swap wsX11_records := goodIn_r _ [5, 6, 7, 8, 9, 10, 28, 29, 30, 31, 32, 33, 34, 35, 36, 37, 38, 39, 40, 41, 42, 43, 44, 45, 46, 47, 48, 49, 50, 51, 52] (by decide +kernel) (by decide +kernel)
set_option maxRecDepth 20000 in
theorem gX11_swap_X11_records : GoodIn wsX11_swap (wsV RX11 70 RX11 yX11_records wsX11_records) := goodIn_app (goodIn_of _ (by decide +kernel)) ggX11_swap_X11_records
set_option maxRecDepth 20000 in
theorem ggX11_swap_X11_swaps : GoodIn wsX11_swap wsX11_swaps := goodIn_r _ [14, 9, 15, 16, 17, 18, 4, 19, 20, 21, 22, 23, 24, 25, 26, 27, 28, 29, 30, 31, 32, 33, 34, 35, 36, 37, 38, 39, 40, 41, 42, 43, 44, 45, 46, 47, 48, 49, 50, 51, 52] (by decide +kernel) (by decide +kernel)
set_option maxRecDepth 20000 in
theorem gX11_swap_X11_swaps : GoodIn wsX11_swap (wsV RX11 208 RX11 yX11_swaps wsX11_swaps) := goodIn_app (goodIn_of _ (by decide +kernel)) ggX11_swap_X11_swaps
theorem dX11_swap_0 : decode cX11_swap 0 = .ok (.aload_n 0, 1) := by decide +kernel
theorem dX11_swap_1 : decode cX11_swap 1 = .ok (.invokevirtual 70, 3) := by decide +kernel
theorem dX11_swap_4 : decode cX11_swap 4 = .ok (.aload_n 0, 1) := by decide +kernel
theorem dX11_swap_5 : decode cX11_swap 5 = .ok (.invokevirtual 208, 3) := by decide +kernel
theorem dX11_swap_8 : decode cX11_swap 8 = .ok (.ireturn, 1) := by decide +kernel
set_option maxRecDepth 20000 in
theorem ggX11_forget_X11_isPath : GoodIn wsX11_forget wsX11_isPath := goodIn_r _ [7, 8, 9, 10, 6, 11, 28, 29, 30, 31, 32, 33, 34, 35, 36, 37, 38, 39, 40, 41, 42, 43, 44, 45, 46, 47, 48, 49, 50, 51, 52] (by decide +kernel) (by decide +kernel)
set_option maxRecDepth 20000 in
theorem gX11_forget_X11_isPath : GoodIn wsX11_forget (wsV RX11 78 RX11 yX11_isPath wsX11_isPath) := goodIn_app (goodIn_of _ (by decide +kernel)) ggX11_forget_X11_isPath
set_option maxRecDepth 20000 in
theorem ggX11_forget_X11_records : GoodIn wsX11_forget wsX11_records := goodIn_r _ [15, 16, 17, 18, 8, 19, 28, 29, 30, 31, 32, 33, 34, 35, 36, 37, 38, 39, 40, 41, 42, 43, 44, 45, 46, 47, 48, 49, 50, 51, 52] (by decide +kernel) (by decide +kernel)
set_option maxRecDepth 20000 in
theorem gX11_forget_X11_records : GoodIn wsX11_forget (wsV RX11 70 RX11 yX11_records wsX11_records) := goodIn_app (goodIn_of _ (by decide +kernel)) ggX11_forget_X11_records
set_option maxRecDepth 20000 in
theorem ggX11_forget_X11_of : GoodIn wsX11_forget wsX11_of := goodIn_r _ [23, 8, 28, 29, 30, 31, 32, 33, 34, 35, 36, 37, 38, 39, 40, 41, 42, 43, 44, 45, 46, 47, 48, 49, 50, 51, 52] (by decide +kernel) (by decide +kernel)
set_option maxRecDepth 20000 in
theorem gX11_forget_X11_of : GoodIn wsX11_forget (wsV RX11 83 RX11 yX11_of wsX11_of) := goodIn_app (goodIn_of _ (by decide +kernel)) ggX11_forget_X11_of
set_option maxRecDepth 20000 in
theorem ggX11_forget_X11_lay : GoodIn wsX11_forget wsX11_lay := goodIn_r _ [27, 8, 28, 29, 30, 31, 32, 33, 34, 35, 36, 37, 38, 39, 40, 41, 42, 43, 44, 45, 46, 47, 48, 49, 50, 51, 52] (by decide +kernel) (by decide +kernel)
set_option maxRecDepth 20000 in
theorem gX11_forget_X11_lay : GoodIn wsX11_forget (wsV RX11 73 RX11 yX11_lay wsX11_lay) := goodIn_app (goodIn_of _ (by decide +kernel)) ggX11_forget_X11_lay
theorem dX11_forget_0 : decode cX11_forget 0 = .ok (.aload_n 0, 1) := by decide +kernel
theorem dX11_forget_1 : decode cX11_forget 1 = .ok (.iload_n 1, 1) := by decide +kernel
theorem dX11_forget_2 : decode cX11_forget 2 = .ok (.invokevirtual 78, 3) := by decide +kernel
theorem dX11_forget_5 : decode cX11_forget 5 = .ok (.ifCond .ne 6, 3) := by decide +kernel
theorem dX11_forget_8 : decode cX11_forget 8 = .ok (.ldc 82, 2) := by decide +kernel
theorem dX11_forget_10 : decode cX11_forget 10 = .ok (.ireturn, 1) := by decide +kernel
theorem dX11_forget_11 : decode cX11_forget 11 = .ok (.aload_n 0, 1) := by decide +kernel
theorem dX11_forget_12 : decode cX11_forget 12 = .ok (.invokevirtual 70, 3) := by decide +kernel
theorem dX11_forget_15 : decode cX11_forget 15 = .ok (.aload_n 0, 1) := by decide +kernel
theorem dX11_forget_16 : decode cX11_forget 16 = .ok (.iload_n 1, 1) := by decide +kernel
theorem dX11_forget_17 : decode cX11_forget 17 = .ok (.iconst 5, 1) := by decide +kernel
theorem dX11_forget_18 : decode cX11_forget 18 = .ok (.invokevirtual 83, 3) := by decide +kernel
theorem dX11_forget_21 : decode cX11_forget 21 = .ok (.ldc 77, 2) := by decide +kernel
theorem dX11_forget_23 : decode cX11_forget 23 = .ok (.if_icmp .ne 7, 3) := by decide +kernel
theorem dX11_forget_26 : decode cX11_forget 26 = .ok (.iconst 0, 1) := by decide +kernel
theorem dX11_forget_27 : decode cX11_forget 27 = .ok (.goto 4, 3) := by decide +kernel
theorem dX11_forget_30 : decode cX11_forget 30 = .ok (.iconst 1, 1) := by decide +kernel
theorem dX11_forget_31 : decode cX11_forget 31 = .ok (.istore_n 2, 1) := by decide +kernel
theorem dX11_forget_32 : decode cX11_forget 32 = .ok (.aload_n 0, 1) := by decide +kernel
theorem dX11_forget_33 : decode cX11_forget 33 = .ok (.iload_n 1, 1) := by decide +kernel
theorem dX11_forget_34 : decode cX11_forget 34 = .ok (.iconst 5, 1) := by decide +kernel
theorem dX11_forget_35 : decode cX11_forget 35 = .ok (.ldc 77, 2) := by decide +kernel
theorem dX11_forget_37 : decode cX11_forget 37 = .ok (.invokevirtual 73, 3) := by decide +kernel
theorem dX11_forget_40 : decode cX11_forget 40 = .ok (.aload_n 0, 1) := by decide +kernel
theorem dX11_forget_41 : decode cX11_forget 41 = .ok (.iload_n 1, 1) := by decide +kernel
theorem dX11_forget_42 : decode cX11_forget 42 = .ok (.bipush 6, 2) := by decide +kernel
theorem dX11_forget_44 : decode cX11_forget 44 = .ok (.ldc 77, 2) := by decide +kernel
theorem dX11_forget_46 : decode cX11_forget 46 = .ok (.invokevirtual 73, 3) := by decide +kernel
theorem dX11_forget_49 : decode cX11_forget 49 = .ok (.aload_n 0, 1) := by decide +kernel
theorem dX11_forget_50 : decode cX11_forget 50 = .ok (.iload_n 1, 1) := by decide +kernel
theorem dX11_forget_51 : decode cX11_forget 51 = .ok (.bipush 7, 2) := by decide +kernel
theorem dX11_forget_53 : decode cX11_forget 53 = .ok (.ldc 77, 2) := by decide +kernel
theorem dX11_forget_55 : decode cX11_forget 55 = .ok (.invokevirtual 73, 3) := by decide +kernel
theorem dX11_forget_58 : decode cX11_forget 58 = .ok (.iload_n 2, 1) := by decide +kernel
theorem dX11_forget_59 : decode cX11_forget 59 = .ok (.ireturn, 1) := by decide +kernel
set_option maxRecDepth 20000 in
theorem ggX11_append_X11_in : GoodIn wsX11_append wsX11_in := goodIn_r _ [8] (by decide +kernel) (by decide +kernel)
set_option maxRecDepth 20000 in
theorem gX11_append_X11_in : GoodIn wsX11_append (va_wsS RX11 64 yX11_in wsX11_in) := goodIn_app (goodIn_of _ (by decide +kernel)) ggX11_append_X11_in
theorem dX11_append_0 : decode cX11_append 0 = .ok (.iload_n 1, 1) := by decide +kernel
theorem dX11_append_1 : decode cX11_append 1 = .ok (.bipush 32, 2) := by decide +kernel
theorem dX11_append_3 : decode cX11_append 3 = .ok (.bipush 126, 2) := by decide +kernel
theorem dX11_append_5 : decode cX11_append 5 = .ok (.invokestatic 64, 3) := by decide +kernel
theorem dX11_append_8 : decode cX11_append 8 = .ok (.ifCond .ne 6, 3) := by decide +kernel
theorem dX11_append_11 : decode cX11_append 11 = .ok (.ldc 68, 2) := by decide +kernel
theorem dX11_append_13 : decode cX11_append 13 = .ok (.ireturn, 1) := by decide +kernel
theorem dX11_append_14 : decode cX11_append 14 = .ok (.aload_n 0, 1) := by decide +kernel
theorem dX11_append_15 : decode cX11_append 15 = .ok (.getfield 211, 3) := by decide +kernel
theorem dX11_append_18 : decode cX11_append 18 = .ok (.bipush 100, 2) := by decide +kernel
theorem dX11_append_20 : decode cX11_append 20 = .ok (.if_icmp .ne 6, 3) := by decide +kernel
theorem dX11_append_23 : decode cX11_append 23 = .ok (.ldc 69, 2) := by decide +kernel
theorem dX11_append_25 : decode cX11_append 25 = .ok (.ireturn, 1) := by decide +kernel
theorem dX11_append_26 : decode cX11_append 26 = .ok (.aload_n 0, 1) := by decide +kernel
theorem dX11_append_27 : decode cX11_append 27 = .ok (.getfield 33, 3) := by decide +kernel
theorem dX11_append_30 : decode cX11_append 30 = .ok (.aload_n 0, 1) := by decide +kernel
theorem dX11_append_31 : decode cX11_append 31 = .ok (.getfield 211, 3) := by decide +kernel
theorem dX11_append_34 : decode cX11_append 34 = .ok (.iload_n 1, 1) := by decide +kernel
theorem dX11_append_35 : decode cX11_append 35 = .ok (.iastore, 1) := by decide +kernel
theorem dX11_append_36 : decode cX11_append 36 = .ok (.aload_n 0, 1) := by decide +kernel
theorem dX11_append_37 : decode cX11_append 37 = .ok (.dup, 1) := by decide +kernel
theorem dX11_append_38 : decode cX11_append 38 = .ok (.getfield 211, 3) := by decide +kernel
theorem dX11_append_41 : decode cX11_append 41 = .ok (.iconst 1, 1) := by decide +kernel

theorem dL_kept_0 : decode cL_kept 0 = .ok (.aload_n 0, 1) := by decide +kernel
theorem dL_kept_1 : decode cL_kept 1 = .ok (.iconst 0, 1) := by decide +kernel
theorem dL_kept_2 : decode cL_kept 2 = .ok (.invokestatic 112, 3) := by decide +kernel
theorem dL_kept_5 : decode cL_kept 5 = .ok (.l2i, 1) := by decide +kernel
theorem dL_kept_6 : decode cL_kept 6 = .ok (.istore_n 1, 1) := by decide +kernel
theorem dL_kept_7 : decode cL_kept 7 = .ok (.aload_n 0, 1) := by decide +kernel
theorem dL_kept_8 : decode cL_kept 8 = .ok (.iconst 1, 1) := by decide +kernel
theorem dL_kept_9 : decode cL_kept 9 = .ok (.invokestatic 112, 3) := by decide +kernel
theorem dL_kept_12 : decode cL_kept 12 = .ok (.l2i, 1) := by decide +kernel
theorem dL_kept_13 : decode cL_kept 13 = .ok (.istore_n 2, 1) := by decide +kernel
theorem dL_kept_14 : decode cL_kept 14 = .ok (.aload_n 0, 1) := by decide +kernel
theorem dL_kept_15 : decode cL_kept 15 = .ok (.iconst 2, 1) := by decide +kernel
theorem dL_kept_16 : decode cL_kept 16 = .ok (.invokestatic 112, 3) := by decide +kernel
theorem dL_kept_19 : decode cL_kept 19 = .ok (.l2i, 1) := by decide +kernel
theorem dL_kept_20 : decode cL_kept 20 = .ok (.istore_n 3, 1) := by decide +kernel
theorem dL_kept_21 : decode cL_kept 21 = .ok (.iload_n 1, 1) := by decide +kernel
theorem dL_kept_22 : decode cL_kept 22 = .ok (.i2l, 1) := by decide +kernel
theorem dL_kept_23 : decode cL_kept 23 = .ok (.lconst 0, 1) := by decide +kernel
theorem dL_kept_24 : decode cL_kept 24 = .ok (.ldc2_w 183, 3) := by decide +kernel
theorem dL_kept_27 : decode cL_kept 27 = .ok (.invokestatic 185, 3) := by decide +kernel
theorem dL_kept_30 : decode cL_kept 30 = .ok (.ifCond .eq 31, 3) := by decide +kernel
theorem dL_kept_33 : decode cL_kept 33 = .ok (.iload_n 2, 1) := by decide +kernel
theorem dL_kept_34 : decode cL_kept 34 = .ok (.i2l, 1) := by decide +kernel
theorem dL_kept_35 : decode cL_kept 35 = .ok (.lconst 0, 1) := by decide +kernel
theorem dL_kept_36 : decode cL_kept 36 = .ok (.ldc2_w 183, 3) := by decide +kernel
theorem dL_kept_39 : decode cL_kept 39 = .ok (.invokestatic 185, 3) := by decide +kernel
theorem dL_kept_42 : decode cL_kept 42 = .ok (.ifCond .eq 19, 3) := by decide +kernel
theorem dL_kept_45 : decode cL_kept 45 = .ok (.iload_n 3, 1) := by decide +kernel
theorem dL_kept_46 : decode cL_kept 46 = .ok (.i2l, 1) := by decide +kernel
theorem dL_kept_47 : decode cL_kept 47 = .ok (.lconst 0, 1) := by decide +kernel
theorem dL_kept_48 : decode cL_kept 48 = .ok (.ldc2_w 189, 3) := by decide +kernel
theorem dL_kept_51 : decode cL_kept 51 = .ok (.invokestatic 185, 3) := by decide +kernel
theorem dL_kept_54 : decode cL_kept 54 = .ok (.ifCond .eq 7, 3) := by decide +kernel
theorem dL_kept_57 : decode cL_kept 57 = .ok (.iconst 1, 1) := by decide +kernel
theorem dL_kept_58 : decode cL_kept 58 = .ok (.goto 4, 3) := by decide +kernel
theorem dL_kept_61 : decode cL_kept 61 = .ok (.iconst 0, 1) := by decide +kernel
theorem dL_kept_62 : decode cL_kept 62 = .ok (.istore 4, 2) := by decide +kernel
theorem dL_kept_64 : decode cL_kept 64 = .ok (.lconst 0, 1) := by decide +kernel
theorem dL_kept_65 : decode cL_kept 65 = .ok (.lstore 5, 2) := by decide +kernel
theorem dL_kept_67 : decode cL_kept 67 = .ok (.lconst 0, 1) := by decide +kernel
theorem dL_kept_68 : decode cL_kept 68 = .ok (.lstore 7, 2) := by decide +kernel
theorem dL_kept_70 : decode cL_kept 70 = .ok (.lconst 0, 1) := by decide +kernel
theorem dL_kept_71 : decode cL_kept 71 = .ok (.lstore 9, 2) := by decide +kernel
theorem dL_kept_73 : decode cL_kept 73 = .ok (.lconst 0, 1) := by decide +kernel
theorem dL_kept_74 : decode cL_kept 74 = .ok (.lstore 11, 2) := by decide +kernel
theorem dL_kept_76 : decode cL_kept 76 = .ok (.iconst 0, 1) := by decide +kernel
theorem dL_kept_77 : decode cL_kept 77 = .ok (.istore 13, 2) := by decide +kernel
theorem dL_kept_79 : decode cL_kept 79 = .ok (.iload 13, 2) := by decide +kernel
theorem dL_kept_81 : decode cL_kept 81 = .ok (.iload_n 2, 1) := by decide +kernel
theorem dL_kept_82 : decode cL_kept 82 = .ok (.if_icmp .ge 590, 3) := by decide +kernel
theorem dL_kept_85 : decode cL_kept 85 = .ok (.iload 4, 2) := by decide +kernel
theorem dL_kept_87 : decode cL_kept 87 = .ok (.ifCond .eq 585, 3) := by decide +kernel
theorem dL_kept_90 : decode cL_kept 90 = .ok (.iconst 3, 1) := by decide +kernel
theorem dL_kept_91 : decode cL_kept 91 = .ok (.newarray .long, 2) := by decide +kernel
theorem dL_kept_93 : decode cL_kept 93 = .ok (.astore 14, 2) := by decide +kernel
theorem dL_kept_95 : decode cL_kept 95 = .ok (.lconst 0, 1) := by decide +kernel
theorem dL_kept_96 : decode cL_kept 96 = .ok (.lstore 15, 2) := by decide +kernel
theorem dL_kept_98 : decode cL_kept 98 = .ok (.aload_n 0, 1) := by decide +kernel
theorem dL_kept_99 : decode cL_kept 99 = .ok (.iload 13, 2) := by decide +kernel
theorem dL_kept_101 : decode cL_kept 101 = .ok (.iconst 3, 1) := by decide +kernel
theorem dL_kept_102 : decode cL_kept 102 = .ok (.invokestatic 127, 3) := by decide +kernel
theorem dL_kept_105 : decode cL_kept 105 = .ok (.lconst 0, 1) := by decide +kernel
theorem dL_kept_106 : decode cL_kept 106 = .ok (.lcmp, 1) := by decide +kernel
theorem dL_kept_107 : decode cL_kept 107 = .ok (.ifCond .ne 7, 3) := by decide +kernel
theorem dL_kept_110 : decode cL_kept 110 = .ok (.iconst 1, 1) := by decide +kernel
theorem dL_kept_111 : decode cL_kept 111 = .ok (.goto 4, 3) := by decide +kernel
theorem dL_kept_114 : decode cL_kept 114 = .ok (.iconst 0, 1) := by decide +kernel
theorem dL_kept_115 : decode cL_kept 115 = .ok (.istore 17, 2) := by decide +kernel
theorem dL_kept_117 : decode cL_kept 117 = .ok (.iconst 0, 1) := by decide +kernel
theorem dL_kept_118 : decode cL_kept 118 = .ok (.istore 18, 2) := by decide +kernel
theorem dL_kept_120 : decode cL_kept 120 = .ok (.iload 18, 2) := by decide +kernel
theorem dL_kept_122 : decode cL_kept 122 = .ok (.iload_n 1, 1) := by decide +kernel
theorem dL_kept_123 : decode cL_kept 123 = .ok (.if_icmp .ge 126, 3) := by decide +kernel
theorem dL_kept_126 : decode cL_kept 126 = .ok (.iload 4, 2) := by decide +kernel
theorem dL_kept_128 : decode cL_kept 128 = .ok (.ifCond .eq 121, 3) := by decide +kernel
theorem dL_kept_131 : decode cL_kept 131 = .ok (.iconst 0, 1) := by decide +kernel
theorem dL_kept_132 : decode cL_kept 132 = .ok (.istore 19, 2) := by decide +kernel
theorem dL_kept_134 : decode cL_kept 134 = .ok (.iload 19, 2) := by decide +kernel
theorem dL_kept_136 : decode cL_kept 136 = .ok (.iconst 3, 1) := by decide +kernel
theorem dL_kept_137 : decode cL_kept 137 = .ok (.if_icmp .ge 27, 3) := by decide +kernel
theorem dL_kept_140 : decode cL_kept 140 = .ok (.aload 14, 2) := by decide +kernel
theorem dL_kept_142 : decode cL_kept 142 = .ok (.iload 19, 2) := by decide +kernel
theorem dL_kept_144 : decode cL_kept 144 = .ok (.dup2, 1) := by decide +kernel
theorem dL_kept_145 : decode cL_kept 145 = .ok (.laload, 1) := by decide +kernel
theorem dL_kept_146 : decode cL_kept 146 = .ok (.aload_n 0, 1) := by decide +kernel
theorem dL_kept_147 : decode cL_kept 147 = .ok (.iload 18, 2) := by decide +kernel
theorem dL_kept_149 : decode cL_kept 149 = .ok (.iload 13, 2) := by decide +kernel
theorem dL_kept_151 : decode cL_kept 151 = .ok (.iload 19, 2) := by decide +kernel
theorem dL_kept_153 : decode cL_kept 153 = .ok (.invokestatic 122, 3) := by decide +kernel
theorem dL_kept_156 : decode cL_kept 156 = .ok (.ladd, 1) := by decide +kernel
theorem dL_kept_157 : decode cL_kept 157 = .ok (.lastore, 1) := by decide +kernel
theorem dL_kept_158 : decode cL_kept 158 = .ok (.iinc 19 1, 3) := by decide +kernel
theorem dL_kept_161 : decode cL_kept 161 = .ok (.goto (-27), 3) := by decide +kernel
theorem dL_kept_164 : decode cL_kept 164 = .ok (.aload_n 0, 1) := by decide +kernel
theorem dL_kept_165 : decode cL_kept 165 = .ok (.iload 18, 2) := by decide +kernel
theorem dL_kept_167 : decode cL_kept 167 = .ok (.iload 13, 2) := by decide +kernel
theorem dL_kept_169 : decode cL_kept 169 = .ok (.invokestatic 158, 3) := by decide +kernel
theorem dL_kept_172 : decode cL_kept 172 = .ok (.lstore 19, 2) := by decide +kernel
theorem dL_kept_174 : decode cL_kept 174 = .ok (.lload 15, 2) := by decide +kernel
theorem dL_kept_176 : decode cL_kept 176 = .ok (.iload 17, 2) := by decide +kernel
theorem dL_kept_178 : decode cL_kept 178 = .ok (.ifCond .eq 8, 3) := by decide +kernel
theorem dL_kept_181 : decode cL_kept 181 = .ok (.lload 19, 2) := by decide +kernel
theorem dL_kept_183 : decode cL_kept 183 = .ok (.goto 4, 3) := by decide +kernel
theorem dL_kept_186 : decode cL_kept 186 = .ok (.lconst 0, 1) := by decide +kernel
theorem dL_kept_187 : decode cL_kept 187 = .ok (.ladd, 1) := by decide +kernel
theorem dL_kept_188 : decode cL_kept 188 = .ok (.lstore 15, 2) := by decide +kernel
theorem dL_kept_190 : decode cL_kept 190 = .ok (.iload 17, 2) := by decide +kernel
theorem dL_kept_192 : decode cL_kept 192 = .ok (.ifCond .eq 21, 3) := by decide +kernel
theorem dL_kept_195 : decode cL_kept 195 = .ok (.lload 19, 2) := by decide +kernel
theorem dL_kept_197 : decode cL_kept 197 = .ok (.lconst 0, 1) := by decide +kernel
theorem dL_kept_198 : decode cL_kept 198 = .ok (.aload_n 0, 1) := by decide +kernel
theorem dL_kept_199 : decode cL_kept 199 = .ok (.iload 18, 2) := by decide +kernel
theorem dL_kept_201 : decode cL_kept 201 = .ok (.iload 13, 2) := by decide +kernel
theorem dL_kept_203 : decode cL_kept 203 = .ok (.iconst 0, 1) := by decide +kernel
theorem dL_kept_204 : decode cL_kept 204 = .ok (.invokestatic 122, 3) := by decide +kernel
theorem dL_kept_207 : decode cL_kept 207 = .ok (.invokestatic 185, 3) := by decide +kernel
theorem dL_kept_210 : decode cL_kept 210 = .ok (.goto 31, 3) := by decide +kernel
theorem dL_kept_213 : decode cL_kept 213 = .ok (.lload 19, 2) := by decide +kernel
theorem dL_kept_215 : decode cL_kept 215 = .ok (.ldc2_w 160, 3) := by decide +kernel
theorem dL_kept_218 : decode cL_kept 218 = .ok (.lcmp, 1) := by decide +kernel
theorem dL_kept_219 : decode cL_kept 219 = .ok (.ifCond .ne 21, 3) := by decide +kernel
theorem dL_kept_222 : decode cL_kept 222 = .ok (.aload_n 0, 1) := by decide +kernel
theorem dL_kept_223 : decode cL_kept 223 = .ok (.iload 18, 2) := by decide +kernel
theorem dL_kept_225 : decode cL_kept 225 = .ok (.iload 13, 2) := by decide +kernel
theorem dL_kept_227 : decode cL_kept 227 = .ok (.iconst 0, 1) := by decide +kernel
theorem dL_kept_228 : decode cL_kept 228 = .ok (.invokestatic 122, 3) := by decide +kernel
theorem dL_kept_231 : decode cL_kept 231 = .ok (.lconst 0, 1) := by decide +kernel
theorem dL_kept_232 : decode cL_kept 232 = .ok (.lcmp, 1) := by decide +kernel
theorem dL_kept_233 : decode cL_kept 233 = .ok (.ifCond .ne 7, 3) := by decide +kernel
theorem dL_kept_236 : decode cL_kept 236 = .ok (.iconst 1, 1) := by decide +kernel
theorem dL_kept_237 : decode cL_kept 237 = .ok (.goto 4, 3) := by decide +kernel
theorem dL_kept_240 : decode cL_kept 240 = .ok (.iconst 0, 1) := by decide +kernel
theorem dL_kept_241 : decode cL_kept 241 = .ok (.istore 4, 2) := by decide +kernel
theorem dL_kept_243 : decode cL_kept 243 = .ok (.iinc 18 1, 3) := by decide +kernel
theorem dL_kept_246 : decode cL_kept 246 = .ok (.goto (-126), 3) := by decide +kernel
theorem dL_kept_249 : decode cL_kept 249 = .ok (.lconst 0, 1) := by decide +kernel
theorem dL_kept_250 : decode cL_kept 250 = .ok (.lstore 18, 2) := by decide +kernel
theorem dL_kept_252 : decode cL_kept 252 = .ok (.lconst 0, 1) := by decide +kernel
theorem dL_kept_253 : decode cL_kept 253 = .ok (.lstore 20, 2) := by decide +kernel
theorem dL_kept_255 : decode cL_kept 255 = .ok (.iconst 0, 1) := by decide +kernel
theorem dL_kept_256 : decode cL_kept 256 = .ok (.istore 22, 2) := by decide +kernel
theorem dL_kept_258 : decode cL_kept 258 = .ok (.iload 22, 2) := by decide +kernel
theorem dL_kept_260 : decode cL_kept 260 = .ok (.iload_n 3, 1) := by decide +kernel
theorem dL_kept_261 : decode cL_kept 261 = .ok (.if_icmp .ge 91, 3) := by decide +kernel
theorem dL_kept_264 : decode cL_kept 264 = .ok (.lload 18, 2) := by decide +kernel
theorem dL_kept_266 : decode cL_kept 266 = .ok (.aload_n 0, 1) := by decide +kernel
theorem dL_kept_267 : decode cL_kept 267 = .ok (.iload 22, 2) := by decide +kernel
theorem dL_kept_269 : decode cL_kept 269 = .ok (.iconst 1, 1) := by decide +kernel
theorem dL_kept_270 : decode cL_kept 270 = .ok (.invokestatic 129, 3) := by decide +kernel
theorem dL_kept_273 : decode cL_kept 273 = .ok (.iload 13, 2) := by decide +kernel
theorem dL_kept_275 : decode cL_kept 275 = .ok (.i2l, 1) := by decide +kernel
theorem dL_kept_276 : decode cL_kept 276 = .ok (.lcmp, 1) := by decide +kernel
theorem dL_kept_277 : decode cL_kept 277 = .ok (.ifCond .ne 13, 3) := by decide +kernel
theorem dL_kept_280 : decode cL_kept 280 = .ok (.aload_n 0, 1) := by decide +kernel
theorem dL_kept_281 : decode cL_kept 281 = .ok (.iload 22, 2) := by decide +kernel
theorem dL_kept_283 : decode cL_kept 283 = .ok (.iconst 2, 1) := by decide +kernel
theorem dL_kept_284 : decode cL_kept 284 = .ok (.invokestatic 129, 3) := by decide +kernel
theorem dL_kept_287 : decode cL_kept 287 = .ok (.goto 4, 3) := by decide +kernel
theorem dL_kept_290 : decode cL_kept 290 = .ok (.lconst 0, 1) := by decide +kernel
theorem dL_kept_291 : decode cL_kept 291 = .ok (.ladd, 1) := by decide +kernel
theorem dL_kept_292 : decode cL_kept 292 = .ok (.lstore 18, 2) := by decide +kernel
theorem dL_kept_294 : decode cL_kept 294 = .ok (.lload 20, 2) := by decide +kernel
theorem dL_kept_296 : decode cL_kept 296 = .ok (.aload_n 0, 1) := by decide +kernel
theorem dL_kept_297 : decode cL_kept 297 = .ok (.iload 22, 2) := by decide +kernel
theorem dL_kept_299 : decode cL_kept 299 = .ok (.iconst 1, 1) := by decide +kernel
theorem dL_kept_300 : decode cL_kept 300 = .ok (.invokestatic 129, 3) := by decide +kernel
theorem dL_kept_303 : decode cL_kept 303 = .ok (.iload 13, 2) := by decide +kernel
theorem dL_kept_305 : decode cL_kept 305 = .ok (.i2l, 1) := by decide +kernel
theorem dL_kept_306 : decode cL_kept 306 = .ok (.lcmp, 1) := by decide +kernel
theorem dL_kept_307 : decode cL_kept 307 = .ok (.ifCond .eq 17, 3) := by decide +kernel
theorem dL_kept_310 : decode cL_kept 310 = .ok (.aload_n 0, 1) := by decide +kernel
theorem dL_kept_311 : decode cL_kept 311 = .ok (.iload 22, 2) := by decide +kernel
theorem dL_kept_313 : decode cL_kept 313 = .ok (.iconst 1, 1) := by decide +kernel
theorem dL_kept_314 : decode cL_kept 314 = .ok (.invokestatic 129, 3) := by decide +kernel
theorem dL_kept_317 : decode cL_kept 317 = .ok (.ldc2_w 160, 3) := by decide +kernel
theorem dL_kept_320 : decode cL_kept 320 = .ok (.lcmp, 1) := by decide +kernel
theorem dL_kept_321 : decode cL_kept 321 = .ok (.ifCond .ne 21, 3) := by decide +kernel
theorem dL_kept_324 : decode cL_kept 324 = .ok (.aload_n 0, 1) := by decide +kernel
theorem dL_kept_325 : decode cL_kept 325 = .ok (.iload 22, 2) := by decide +kernel
theorem dL_kept_327 : decode cL_kept 327 = .ok (.iconst 0, 1) := by decide +kernel
theorem dL_kept_328 : decode cL_kept 328 = .ok (.invokestatic 129, 3) := by decide +kernel
theorem dL_kept_331 : decode cL_kept 331 = .ok (.aload_n 0, 1) := by decide +kernel
theorem dL_kept_332 : decode cL_kept 332 = .ok (.iload 22, 2) := by decide +kernel
theorem dL_kept_334 : decode cL_kept 334 = .ok (.iconst 2, 1) := by decide +kernel
theorem dL_kept_335 : decode cL_kept 335 = .ok (.invokestatic 129, 3) := by decide +kernel
theorem dL_kept_338 : decode cL_kept 338 = .ok (.lsub, 1) := by decide +kernel
theorem dL_kept_339 : decode cL_kept 339 = .ok (.goto 4, 3) := by decide +kernel
theorem dL_kept_342 : decode cL_kept 342 = .ok (.lconst 0, 1) := by decide +kernel
theorem dL_kept_343 : decode cL_kept 343 = .ok (.ladd, 1) := by decide +kernel
theorem dL_kept_344 : decode cL_kept 344 = .ok (.lstore 20, 2) := by decide +kernel
theorem dL_kept_346 : decode cL_kept 346 = .ok (.iinc 22 1, 3) := by decide +kernel
theorem dL_kept_349 : decode cL_kept 349 = .ok (.goto (-91), 3) := by decide +kernel
theorem dL_kept_352 : decode cL_kept 352 = .ok (.iload 4, 2) := by decide +kernel
theorem dL_kept_354 : decode cL_kept 354 = .ok (.ifCond .eq 263, 3) := by decide +kernel
theorem dL_kept_357 : decode cL_kept 357 = .ok (.aload_n 0, 1) := by decide +kernel
theorem dL_kept_358 : decode cL_kept 358 = .ok (.iload 13, 2) := by decide +kernel
theorem dL_kept_360 : decode cL_kept 360 = .ok (.bipush 8, 2) := by decide +kernel
theorem dL_kept_362 : decode cL_kept 362 = .ok (.invokestatic 127, 3) := by decide +kernel
theorem dL_kept_365 : decode cL_kept 365 = .ok (.aload 14, 2) := by decide +kernel
theorem dL_kept_367 : decode cL_kept 367 = .ok (.iconst 0, 1) := by decide +kernel
theorem dL_kept_368 : decode cL_kept 368 = .ok (.laload, 1) := by decide +kernel
theorem dL_kept_369 : decode cL_kept 369 = .ok (.lcmp, 1) := by decide +kernel
theorem dL_kept_370 : decode cL_kept 370 = .ok (.ifCond .ne 247, 3) := by decide +kernel
theorem dL_kept_373 : decode cL_kept 373 = .ok (.aload_n 0, 1) := by decide +kernel
theorem dL_kept_374 : decode cL_kept 374 = .ok (.iload 13, 2) := by decide +kernel
theorem dL_kept_376 : decode cL_kept 376 = .ok (.bipush 7, 2) := by decide +kernel
theorem dL_kept_378 : decode cL_kept 378 = .ok (.invokestatic 127, 3) := by decide +kernel
theorem dL_kept_381 : decode cL_kept 381 = .ok (.aload 14, 2) := by decide +kernel
theorem dL_kept_383 : decode cL_kept 383 = .ok (.iconst 1, 1) := by decide +kernel
theorem dL_kept_384 : decode cL_kept 384 = .ok (.laload, 1) := by decide +kernel
theorem dL_kept_385 : decode cL_kept 385 = .ok (.lcmp, 1) := by decide +kernel
theorem dL_kept_386 : decode cL_kept 386 = .ok (.ifCond .ne 231, 3) := by decide +kernel
theorem dL_kept_389 : decode cL_kept 389 = .ok (.aload_n 0, 1) := by decide +kernel
theorem dL_kept_390 : decode cL_kept 390 = .ok (.iload 13, 2) := by decide +kernel
theorem dL_kept_392 : decode cL_kept 392 = .ok (.iconst 4, 1) := by decide +kernel
theorem dL_kept_393 : decode cL_kept 393 = .ok (.invokestatic 127, 3) := by decide +kernel
theorem dL_kept_396 : decode cL_kept 396 = .ok (.aload 14, 2) := by decide +kernel
theorem dL_kept_398 : decode cL_kept 398 = .ok (.iconst 2, 1) := by decide +kernel
theorem dL_kept_399 : decode cL_kept 399 = .ok (.laload, 1) := by decide +kernel
theorem dL_kept_400 : decode cL_kept 400 = .ok (.lcmp, 1) := by decide +kernel
theorem dL_kept_401 : decode cL_kept 401 = .ok (.ifCond .ne 216, 3) := by decide +kernel
theorem dL_kept_404 : decode cL_kept 404 = .ok (.lload 18, 2) := by decide +kernel
theorem dL_kept_406 : decode cL_kept 406 = .ok (.aload 14, 2) := by decide +kernel
theorem dL_kept_408 : decode cL_kept 408 = .ok (.iconst 2, 1) := by decide +kernel
theorem dL_kept_409 : decode cL_kept 409 = .ok (.laload, 1) := by decide +kernel
theorem dL_kept_410 : decode cL_kept 410 = .ok (.lcmp, 1) := by decide +kernel
theorem dL_kept_411 : decode cL_kept 411 = .ok (.ifCond .ne 206, 3) := by decide +kernel
theorem dL_kept_414 : decode cL_kept 414 = .ok (.aload_n 0, 1) := by decide +kernel
theorem dL_kept_415 : decode cL_kept 415 = .ok (.iload 13, 2) := by decide +kernel
theorem dL_kept_417 : decode cL_kept 417 = .ok (.invokestatic 164, 3) := by decide +kernel
theorem dL_kept_420 : decode cL_kept 420 = .ok (.lload 20, 2) := by decide +kernel
theorem dL_kept_422 : decode cL_kept 422 = .ok (.lcmp, 1) := by decide +kernel
theorem dL_kept_423 : decode cL_kept 423 = .ok (.ifCond .ne 194, 3) := by decide +kernel
theorem dL_kept_426 : decode cL_kept 426 = .ok (.aload_n 0, 1) := by decide +kernel
theorem dL_kept_427 : decode cL_kept 427 = .ok (.iload 13, 2) := by decide +kernel
theorem dL_kept_429 : decode cL_kept 429 = .ok (.iconst 1, 1) := by decide +kernel
theorem dL_kept_430 : decode cL_kept 430 = .ok (.invokestatic 127, 3) := by decide +kernel
theorem dL_kept_433 : decode cL_kept 433 = .ok (.aload_n 0, 1) := by decide +kernel
theorem dL_kept_434 : decode cL_kept 434 = .ok (.iload 13, 2) := by decide +kernel
theorem dL_kept_436 : decode cL_kept 436 = .ok (.iconst 2, 1) := by decide +kernel
theorem dL_kept_437 : decode cL_kept 437 = .ok (.invokestatic 127, 3) := by decide +kernel
theorem dL_kept_440 : decode cL_kept 440 = .ok (.aload 14, 2) := by decide +kernel
theorem dL_kept_442 : decode cL_kept 442 = .ok (.iconst 1, 1) := by decide +kernel
theorem dL_kept_443 : decode cL_kept 443 = .ok (.laload, 1) := by decide +kernel
theorem dL_kept_444 : decode cL_kept 444 = .ok (.ladd, 1) := by decide +kernel
theorem dL_kept_445 : decode cL_kept 445 = .ok (.aload 14, 2) := by decide +kernel
theorem dL_kept_447 : decode cL_kept 447 = .ok (.iconst 2, 1) := by decide +kernel
theorem dL_kept_448 : decode cL_kept 448 = .ok (.laload, 1) := by decide +kernel
theorem dL_kept_449 : decode cL_kept 449 = .ok (.ladd, 1) := by decide +kernel
theorem dL_kept_450 : decode cL_kept 450 = .ok (.aload_n 0, 1) := by decide +kernel
theorem dL_kept_451 : decode cL_kept 451 = .ok (.iload 13, 2) := by decide +kernel
theorem dL_kept_453 : decode cL_kept 453 = .ok (.iconst 5, 1) := by decide +kernel
theorem dL_kept_454 : decode cL_kept 454 = .ok (.invokestatic 127, 3) := by decide +kernel
theorem dL_kept_457 : decode cL_kept 457 = .ok (.ladd, 1) := by decide +kernel
theorem dL_kept_458 : decode cL_kept 458 = .ok (.aload_n 0, 1) := by decide +kernel
theorem dL_kept_459 : decode cL_kept 459 = .ok (.iload 13, 2) := by decide +kernel
theorem dL_kept_461 : decode cL_kept 461 = .ok (.bipush 6, 2) := by decide +kernel
theorem dL_kept_463 : decode cL_kept 463 = .ok (.invokestatic 127, 3) := by decide +kernel
theorem dL_kept_466 : decode cL_kept 466 = .ok (.ladd, 1) := by decide +kernel
theorem dL_kept_467 : decode cL_kept 467 = .ok (.lcmp, 1) := by decide +kernel
theorem dL_kept_468 : decode cL_kept 468 = .ok (.ifCond .ne 149, 3) := by decide +kernel
theorem dL_kept_471 : decode cL_kept 471 = .ok (.iload 17, 2) := by decide +kernel
theorem dL_kept_473 : decode cL_kept 473 = .ok (.ifCond .eq 105, 3) := by decide +kernel
theorem dL_kept_476 : decode cL_kept 476 = .ok (.aload 14, 2) := by decide +kernel
theorem dL_kept_478 : decode cL_kept 478 = .ok (.iconst 1, 1) := by decide +kernel
theorem dL_kept_479 : decode cL_kept 479 = .ok (.laload, 1) := by decide +kernel
theorem dL_kept_480 : decode cL_kept 480 = .ok (.aload 14, 2) := by decide +kernel
theorem dL_kept_482 : decode cL_kept 482 = .ok (.iconst 2, 1) := by decide +kernel
theorem dL_kept_483 : decode cL_kept 483 = .ok (.laload, 1) := by decide +kernel
theorem dL_kept_484 : decode cL_kept 484 = .ok (.ladd, 1) := by decide +kernel
theorem dL_kept_485 : decode cL_kept 485 = .ok (.aload_n 0, 1) := by decide +kernel
theorem dL_kept_486 : decode cL_kept 486 = .ok (.iload 13, 2) := by decide +kernel
theorem dL_kept_488 : decode cL_kept 488 = .ok (.iconst 5, 1) := by decide +kernel
theorem dL_kept_489 : decode cL_kept 489 = .ok (.invokestatic 127, 3) := by decide +kernel
theorem dL_kept_492 : decode cL_kept 492 = .ok (.ladd, 1) := by decide +kernel
theorem dL_kept_493 : decode cL_kept 493 = .ok (.aload_n 0, 1) := by decide +kernel
theorem dL_kept_494 : decode cL_kept 494 = .ok (.iload 13, 2) := by decide +kernel
theorem dL_kept_496 : decode cL_kept 496 = .ok (.bipush 6, 2) := by decide +kernel
theorem dL_kept_498 : decode cL_kept 498 = .ok (.invokestatic 127, 3) := by decide +kernel
theorem dL_kept_501 : decode cL_kept 501 = .ok (.ladd, 1) := by decide +kernel
theorem dL_kept_502 : decode cL_kept 502 = .ok (.lconst 0, 1) := by decide +kernel
theorem dL_kept_503 : decode cL_kept 503 = .ok (.lcmp, 1) := by decide +kernel
theorem dL_kept_504 : decode cL_kept 504 = .ok (.ifCond .ne 113, 3) := by decide +kernel
theorem dL_kept_507 : decode cL_kept 507 = .ok (.lload 15, 2) := by decide +kernel
theorem dL_kept_509 : decode cL_kept 509 = .ok (.aload 14, 2) := by decide +kernel
theorem dL_kept_511 : decode cL_kept 511 = .ok (.iconst 0, 1) := by decide +kernel
theorem dL_kept_512 : decode cL_kept 512 = .ok (.laload, 1) := by decide +kernel
theorem dL_kept_513 : decode cL_kept 513 = .ok (.aload_n 0, 1) := by decide +kernel
theorem dL_kept_514 : decode cL_kept 514 = .ok (.iload 13, 2) := by decide +kernel
theorem dL_kept_516 : decode cL_kept 516 = .ok (.iconst 2, 1) := by decide +kernel

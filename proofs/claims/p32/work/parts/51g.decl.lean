theorem dL_follows_0 : decode cL_follows 0 = .ok (.aload_n 0, 1) := by decide +kernel
theorem dL_follows_1 : decode cL_follows 1 = .ok (.invokestatic 131, 3) := by decide +kernel
theorem dL_follows_4 : decode cL_follows 4 = .ok (.lstore_n 2, 1) := by decide +kernel
theorem dL_follows_5 : decode cL_follows 5 = .ok (.aload_n 0, 1) := by decide +kernel
theorem dL_follows_6 : decode cL_follows 6 = .ok (.iconst 0, 1) := by decide +kernel
theorem dL_follows_7 : decode cL_follows 7 = .ok (.invokestatic 112, 3) := by decide +kernel
theorem dL_follows_10 : decode cL_follows 10 = .ok (.l2i, 1) := by decide +kernel
theorem dL_follows_11 : decode cL_follows 11 = .ok (.istore 4, 2) := by decide +kernel
theorem dL_follows_13 : decode cL_follows 13 = .ok (.aload_n 0, 1) := by decide +kernel
theorem dL_follows_14 : decode cL_follows 14 = .ok (.iconst 1, 1) := by decide +kernel
theorem dL_follows_15 : decode cL_follows 15 = .ok (.invokestatic 112, 3) := by decide +kernel
theorem dL_follows_18 : decode cL_follows 18 = .ok (.l2i, 1) := by decide +kernel
theorem dL_follows_19 : decode cL_follows 19 = .ok (.istore 5, 2) := by decide +kernel
theorem dL_follows_21 : decode cL_follows 21 = .ok (.aload_n 0, 1) := by decide +kernel
theorem dL_follows_22 : decode cL_follows 22 = .ok (.iconst 3, 1) := by decide +kernel
theorem dL_follows_23 : decode cL_follows 23 = .ok (.invokestatic 112, 3) := by decide +kernel
theorem dL_follows_26 : decode cL_follows 26 = .ok (.lstore 6, 2) := by decide +kernel
theorem dL_follows_28 : decode cL_follows 28 = .ok (.aload_n 0, 1) := by decide +kernel
theorem dL_follows_29 : decode cL_follows 29 = .ok (.iconst 1, 1) := by decide +kernel
theorem dL_follows_30 : decode cL_follows 30 = .ok (.invokestatic 177, 3) := by decide +kernel
theorem dL_follows_33 : decode cL_follows 33 = .ok (.lload 6, 2) := by decide +kernel
theorem dL_follows_35 : decode cL_follows 35 = .ok (.lcmp, 1) := by decide +kernel
theorem dL_follows_36 : decode cL_follows 36 = .ok (.ifCond .ne 36, 3) := by decide +kernel
theorem dL_follows_39 : decode cL_follows 39 = .ok (.aload_n 0, 1) := by decide +kernel
theorem dL_follows_40 : decode cL_follows 40 = .ok (.iload_n 1, 1) := by decide +kernel
theorem dL_follows_41 : decode cL_follows 41 = .ok (.i2l, 1) := by decide +kernel
theorem dL_follows_42 : decode cL_follows 42 = .ok (.bipush 9, 2) := by decide +kernel
theorem dL_follows_44 : decode cL_follows 44 = .ok (.invokestatic 174, 3) := by decide +kernel
theorem dL_follows_47 : decode cL_follows 47 = .ok (.aload_n 0, 1) := by decide +kernel
theorem dL_follows_48 : decode cL_follows 48 = .ok (.iload_n 1, 1) := by decide +kernel
theorem dL_follows_49 : decode cL_follows 49 = .ok (.i2l, 1) := by decide +kernel
theorem dL_follows_50 : decode cL_follows 50 = .ok (.bipush 9, 2) := by decide +kernel
theorem dL_follows_52 : decode cL_follows 52 = .ok (.invokestatic 174, 3) := by decide +kernel
theorem dL_follows_55 : decode cL_follows 55 = .ok (.lcmp, 1) := by decide +kernel
theorem dL_follows_56 : decode cL_follows 56 = .ok (.ifCond .ne 16, 3) := by decide +kernel
theorem dL_follows_59 : decode cL_follows 59 = .ok (.aload_n 0, 1) := by decide +kernel
theorem dL_follows_60 : decode cL_follows 60 = .ok (.invokestatic 131, 3) := by decide +kernel
theorem dL_follows_63 : decode cL_follows 63 = .ok (.lload_n 2, 1) := by decide +kernel
theorem dL_follows_64 : decode cL_follows 64 = .ok (.lcmp, 1) := by decide +kernel
theorem dL_follows_65 : decode cL_follows 65 = .ok (.ifCond .ne 7, 3) := by decide +kernel
theorem dL_follows_68 : decode cL_follows 68 = .ok (.iconst 1, 1) := by decide +kernel
theorem dL_follows_69 : decode cL_follows 69 = .ok (.goto 4, 3) := by decide +kernel
theorem dL_follows_72 : decode cL_follows 72 = .ok (.iconst 0, 1) := by decide +kernel
theorem dL_follows_73 : decode cL_follows 73 = .ok (.istore 8, 2) := by decide +kernel
theorem dL_follows_75 : decode cL_follows 75 = .ok (.iload 4, 2) := by decide +kernel
theorem dL_follows_77 : decode cL_follows 77 = .ok (.ifCond .le 809, 3) := by decide +kernel
theorem dL_follows_80 : decode cL_follows 80 = .ok (.iload 5, 2) := by decide +kernel
theorem dL_follows_82 : decode cL_follows 82 = .ok (.ifCond .le 804, 3) := by decide +kernel
theorem dL_follows_85 : decode cL_follows 85 = .ok (.iload 8, 2) := by decide +kernel
theorem dL_follows_87 : decode cL_follows 87 = .ok (.ifCond .eq 799, 3) := by decide +kernel
theorem dL_follows_90 : decode cL_follows 90 = .ok (.iload_n 1, 1) := by decide +kernel
theorem dL_follows_91 : decode cL_follows 91 = .ok (.iload 4, 2) := by decide +kernel
theorem dL_follows_93 : decode cL_follows 93 = .ok (.irem, 1) := by decide +kernel
theorem dL_follows_94 : decode cL_follows 94 = .ok (.istore 9, 2) := by decide +kernel
theorem dL_follows_96 : decode cL_follows 96 = .ok (.iload_n 1, 1) := by decide +kernel
theorem dL_follows_97 : decode cL_follows 97 = .ok (.bipush 6, 2) := by decide +kernel
theorem dL_follows_99 : decode cL_follows 99 = .ok (.idiv, 1) := by decide +kernel
theorem dL_follows_100 : decode cL_follows 100 = .ok (.iload 5, 2) := by decide +kernel
theorem dL_follows_102 : decode cL_follows 102 = .ok (.irem, 1) := by decide +kernel
theorem dL_follows_103 : decode cL_follows 103 = .ok (.istore 10, 2) := by decide +kernel
theorem dL_follows_105 : decode cL_follows 105 = .ok (.aload_n 0, 1) := by decide +kernel
theorem dL_follows_106 : decode cL_follows 106 = .ok (.iload 10, 2) := by decide +kernel
theorem dL_follows_108 : decode cL_follows 108 = .ok (.iconst 0, 1) := by decide +kernel
theorem dL_follows_109 : decode cL_follows 109 = .ok (.invokestatic 127, 3) := by decide +kernel
theorem dL_follows_112 : decode cL_follows 112 = .ok (.lstore 11, 2) := by decide +kernel
theorem dL_follows_114 : decode cL_follows 114 = .ok (.aload_n 0, 1) := by decide +kernel
theorem dL_follows_115 : decode cL_follows 115 = .ok (.iload 10, 2) := by decide +kernel
theorem dL_follows_117 : decode cL_follows 117 = .ok (.iconst 3, 1) := by decide +kernel
theorem dL_follows_118 : decode cL_follows 118 = .ok (.invokestatic 127, 3) := by decide +kernel
theorem dL_follows_121 : decode cL_follows 121 = .ok (.lconst 0, 1) := by decide +kernel
theorem dL_follows_122 : decode cL_follows 122 = .ok (.lcmp, 1) := by decide +kernel
theorem dL_follows_123 : decode cL_follows 123 = .ok (.ifCond .ne 344, 3) := by decide +kernel
theorem dL_follows_126 : decode cL_follows 126 = .ok (.aload_n 0, 1) := by decide +kernel
theorem dL_follows_127 : decode cL_follows 127 = .ok (.iload 9, 2) := by decide +kernel
theorem dL_follows_129 : decode cL_follows 129 = .ok (.iload 10, 2) := by decide +kernel
theorem dL_follows_131 : decode cL_follows 131 = .ok (.invokestatic 158, 3) := by decide +kernel
theorem dL_follows_134 : decode cL_follows 134 = .ok (.lstore 13, 2) := by decide +kernel
theorem dL_follows_136 : decode cL_follows 136 = .ok (.aload_n 0, 1) := by decide +kernel
theorem dL_follows_137 : decode cL_follows 137 = .ok (.iload 9, 2) := by decide +kernel
theorem dL_follows_139 : decode cL_follows 139 = .ok (.iconst 1, 1) := by decide +kernel
theorem dL_follows_140 : decode cL_follows 140 = .ok (.invokestatic 117, 3) := by decide +kernel
theorem dL_follows_143 : decode cL_follows 143 = .ok (.lstore 15, 2) := by decide +kernel
theorem dL_follows_145 : decode cL_follows 145 = .ok (.aload_n 0, 1) := by decide +kernel
theorem dL_follows_146 : decode cL_follows 146 = .ok (.iload 9, 2) := by decide +kernel
theorem dL_follows_148 : decode cL_follows 148 = .ok (.iconst 0, 1) := by decide +kernel
theorem dL_follows_149 : decode cL_follows 149 = .ok (.invokestatic 117, 3) := by decide +kernel
theorem dL_follows_152 : decode cL_follows 152 = .ok (.lstore 17, 2) := by decide +kernel
theorem dL_follows_154 : decode cL_follows 154 = .ok (.aload_n 0, 1) := by decide +kernel
theorem dL_follows_155 : decode cL_follows 155 = .ok (.iload 10, 2) := by decide +kernel
theorem dL_follows_157 : decode cL_follows 157 = .ok (.invokestatic 150, 3) := by decide +kernel
theorem dL_follows_160 : decode cL_follows 160 = .ok (.lstore 19, 2) := by decide +kernel
theorem dL_follows_162 : decode cL_follows 162 = .ok (.aload_n 0, 1) := by decide +kernel
theorem dL_follows_163 : decode cL_follows 163 = .ok (.iload 9, 2) := by decide +kernel
theorem dL_follows_165 : decode cL_follows 165 = .ok (.iload 10, 2) := by decide +kernel
theorem dL_follows_167 : decode cL_follows 167 = .ok (.iconst 1, 1) := by decide +kernel
theorem dL_follows_168 : decode cL_follows 168 = .ok (.invokestatic 122, 3) := by decide +kernel
theorem dL_follows_171 : decode cL_follows 171 = .ok (.lload 13, 2) := by decide +kernel
theorem dL_follows_173 : decode cL_follows 173 = .ok (.lcmp, 1) := by decide +kernel
theorem dL_follows_174 : decode cL_follows 174 = .ok (.ifCond .ne 84, 3) := by decide +kernel
theorem dL_follows_177 : decode cL_follows 177 = .ok (.aload_n 0, 1) := by decide +kernel
theorem dL_follows_178 : decode cL_follows 178 = .ok (.iload 9, 2) := by decide +kernel
theorem dL_follows_180 : decode cL_follows 180 = .ok (.iconst 1, 1) := by decide +kernel
theorem dL_follows_181 : decode cL_follows 181 = .ok (.invokestatic 117, 3) := by decide +kernel
theorem dL_follows_184 : decode cL_follows 184 = .ok (.lload 15, 2) := by decide +kernel
theorem dL_follows_186 : decode cL_follows 186 = .ok (.lload 11, 2) := by decide +kernel
theorem dL_follows_188 : decode cL_follows 188 = .ok (.lload 13, 2) := by decide +kernel
theorem dL_follows_190 : decode cL_follows 190 = .ok (.lmul, 1) := by decide +kernel
theorem dL_follows_191 : decode cL_follows 191 = .ok (.ladd, 1) := by decide +kernel
theorem dL_follows_192 : decode cL_follows 192 = .ok (.lload 11, 2) := by decide +kernel
theorem dL_follows_194 : decode cL_follows 194 = .ok (.lload 13, 2) := by decide +kernel
theorem dL_follows_196 : decode cL_follows 196 = .ok (.lmul, 1) := by decide +kernel
theorem dL_follows_197 : decode cL_follows 197 = .ok (.ldc2_w 191, 3) := by decide +kernel
theorem dL_follows_200 : decode cL_follows 200 = .ok (.ldiv, 1) := by decide +kernel
theorem dL_follows_201 : decode cL_follows 201 = .ok (.lsub, 1) := by decide +kernel
theorem dL_follows_202 : decode cL_follows 202 = .ok (.lcmp, 1) := by decide +kernel
theorem dL_follows_203 : decode cL_follows 203 = .ok (.ifCond .ne 55, 3) := by decide +kernel
theorem dL_follows_206 : decode cL_follows 206 = .ok (.aload_n 0, 1) := by decide +kernel
theorem dL_follows_207 : decode cL_follows 207 = .ok (.iload 9, 2) := by decide +kernel
theorem dL_follows_209 : decode cL_follows 209 = .ok (.iconst 0, 1) := by decide +kernel
theorem dL_follows_210 : decode cL_follows 210 = .ok (.invokestatic 117, 3) := by decide +kernel
theorem dL_follows_213 : decode cL_follows 213 = .ok (.lload 17, 2) := by decide +kernel
theorem dL_follows_215 : decode cL_follows 215 = .ok (.lload 13, 2) := by decide +kernel
theorem dL_follows_217 : decode cL_follows 217 = .ok (.ladd, 1) := by decide +kernel
theorem dL_follows_218 : decode cL_follows 218 = .ok (.ldc2_w 196, 3) := by decide +kernel
theorem dL_follows_221 : decode cL_follows 221 = .ok (.lcmp, 1) := by decide +kernel
theorem dL_follows_222 : decode cL_follows 222 = .ok (.ifCond .le 9, 3) := by decide +kernel
theorem dL_follows_225 : decode cL_follows 225 = .ok (.ldc2_w 196, 3) := by decide +kernel
theorem dL_follows_228 : decode cL_follows 228 = .ok (.goto 8, 3) := by decide +kernel
theorem dL_follows_231 : decode cL_follows 231 = .ok (.lload 17, 2) := by decide +kernel
theorem dL_follows_233 : decode cL_follows 233 = .ok (.lload 13, 2) := by decide +kernel
theorem dL_follows_235 : decode cL_follows 235 = .ok (.ladd, 1) := by decide +kernel
theorem dL_follows_236 : decode cL_follows 236 = .ok (.lcmp, 1) := by decide +kernel
theorem dL_follows_237 : decode cL_follows 237 = .ok (.ifCond .ne 21, 3) := by decide +kernel
theorem dL_follows_240 : decode cL_follows 240 = .ok (.aload_n 0, 1) := by decide +kernel
theorem dL_follows_241 : decode cL_follows 241 = .ok (.iload 10, 2) := by decide +kernel
theorem dL_follows_243 : decode cL_follows 243 = .ok (.bipush 7, 2) := by decide +kernel
theorem dL_follows_245 : decode cL_follows 245 = .ok (.invokestatic 127, 3) := by decide +kernel
theorem dL_follows_248 : decode cL_follows 248 = .ok (.lload 19, 2) := by decide +kernel
theorem dL_follows_250 : decode cL_follows 250 = .ok (.lcmp, 1) := by decide +kernel
theorem dL_follows_251 : decode cL_follows 251 = .ok (.ifCond .ne 7, 3) := by decide +kernel
theorem dL_follows_254 : decode cL_follows 254 = .ok (.iconst 1, 1) := by decide +kernel
theorem dL_follows_255 : decode cL_follows 255 = .ok (.goto 4, 3) := by decide +kernel
theorem dL_follows_258 : decode cL_follows 258 = .ok (.iconst 0, 1) := by decide +kernel
theorem dL_follows_259 : decode cL_follows 259 = .ok (.istore 8, 2) := by decide +kernel
theorem dL_follows_261 : decode cL_follows 261 = .ok (.aload_n 0, 1) := by decide +kernel
theorem dL_follows_262 : decode cL_follows 262 = .ok (.iload 10, 2) := by decide +kernel
theorem dL_follows_264 : decode cL_follows 264 = .ok (.invokestatic 164, 3) := by decide +kernel
theorem dL_follows_267 : decode cL_follows 267 = .ok (.lload 19, 2) := by decide +kernel
theorem dL_follows_269 : decode cL_follows 269 = .ok (.lcmp, 1) := by decide +kernel
theorem dL_follows_270 : decode cL_follows 270 = .ok (.ifCond .lt 84, 3) := by decide +kernel
theorem dL_follows_273 : decode cL_follows 273 = .ok (.iload 8, 2) := by decide +kernel
theorem dL_follows_275 : decode cL_follows 275 = .ok (.ifCond .eq 79, 3) := by decide +kernel
theorem dL_follows_278 : decode cL_follows 278 = .ok (.aload_n 0, 1) := by decide +kernel
theorem dL_follows_279 : decode cL_follows 279 = .ok (.iload 10, 2) := by decide +kernel
theorem dL_follows_281 : decode cL_follows 281 = .ok (.invokestatic 152, 3) := by decide +kernel
theorem dL_follows_284 : decode cL_follows 284 = .ok (.lload 19, 2) := by decide +kernel
theorem dL_follows_286 : decode cL_follows 286 = .ok (.lcmp, 1) := by decide +kernel
theorem dL_follows_287 : decode cL_follows 287 = .ok (.ifCond .ne 64, 3) := by decide +kernel
theorem dL_follows_290 : decode cL_follows 290 = .ok (.aload_n 0, 1) := by decide +kernel
theorem dL_follows_291 : decode cL_follows 291 = .ok (.iconst 3, 1) := by decide +kernel
theorem dL_follows_292 : decode cL_follows 292 = .ok (.invokestatic 112, 3) := by decide +kernel
theorem dL_follows_295 : decode cL_follows 295 = .ok (.lload 6, 2) := by decide +kernel
theorem dL_follows_297 : decode cL_follows 297 = .ok (.lload 19, 2) := by decide +kernel
theorem dL_follows_299 : decode cL_follows 299 = .ok (.ladd, 1) := by decide +kernel
theorem dL_follows_300 : decode cL_follows 300 = .ok (.lcmp, 1) := by decide +kernel
theorem dL_follows_301 : decode cL_follows 301 = .ok (.ifCond .ne 50, 3) := by decide +kernel
theorem dL_follows_304 : decode cL_follows 304 = .ok (.aload_n 0, 1) := by decide +kernel
theorem dL_follows_305 : decode cL_follows 305 = .ok (.iload 9, 2) := by decide +kernel
theorem dL_follows_307 : decode cL_follows 307 = .ok (.iconst 1, 1) := by decide +kernel
theorem dL_follows_308 : decode cL_follows 308 = .ok (.invokestatic 117, 3) := by decide +kernel
theorem dL_follows_311 : decode cL_follows 311 = .ok (.lload 15, 2) := by decide +kernel
theorem dL_follows_313 : decode cL_follows 313 = .ok (.lload 11, 2) := by decide +kernel
theorem dL_follows_315 : decode cL_follows 315 = .ok (.lload 13, 2) := by decide +kernel
theorem dL_follows_317 : decode cL_follows 317 = .ok (.lmul, 1) := by decide +kernel
theorem dL_follows_318 : decode cL_follows 318 = .ok (.ladd, 1) := by decide +kernel
theorem dL_follows_319 : decode cL_follows 319 = .ok (.lcmp, 1) := by decide +kernel
theorem dL_follows_320 : decode cL_follows 320 = .ok (.ifCond .ne 31, 3) := by decide +kernel
theorem dL_follows_323 : decode cL_follows 323 = .ok (.aload_n 0, 1) := by decide +kernel
theorem dL_follows_324 : decode cL_follows 324 = .ok (.iload 9, 2) := by decide +kernel
theorem dL_follows_326 : decode cL_follows 326 = .ok (.iload 10, 2) := by decide +kernel
theorem dL_follows_328 : decode cL_follows 328 = .ok (.iconst 2, 1) := by decide +kernel
theorem dL_follows_329 : decode cL_follows 329 = .ok (.invokestatic 122, 3) := by decide +kernel
theorem dL_follows_332 : decode cL_follows 332 = .ok (.lload 13, 2) := by decide +kernel
theorem dL_follows_334 : decode cL_follows 334 = .ok (.lcmp, 1) := by decide +kernel
theorem dL_follows_335 : decode cL_follows 335 = .ok (.ifCond .ne 16, 3) := by decide +kernel
theorem dL_follows_338 : decode cL_follows 338 = .ok (.aload_n 0, 1) := by decide +kernel
theorem dL_follows_339 : decode cL_follows 339 = .ok (.invokestatic 198, 3) := by decide +kernel
theorem dL_follows_342 : decode cL_follows 342 = .ok (.lconst 0, 1) := by decide +kernel
theorem dL_follows_343 : decode cL_follows 343 = .ok (.lcmp, 1) := by decide +kernel
theorem dL_follows_344 : decode cL_follows 344 = .ok (.ifCond .lt 7, 3) := by decide +kernel
theorem dL_follows_347 : decode cL_follows 347 = .ok (.iconst 1, 1) := by decide +kernel
theorem dL_follows_348 : decode cL_follows 348 = .ok (.goto 4, 3) := by decide +kernel
theorem dL_follows_351 : decode cL_follows 351 = .ok (.iconst 0, 1) := by decide +kernel
theorem dL_follows_352 : decode cL_follows 352 = .ok (.istore 8, 2) := by decide +kernel
theorem dL_follows_354 : decode cL_follows 354 = .ok (.iload 8, 2) := by decide +kernel
theorem dL_follows_356 : decode cL_follows 356 = .ok (.ifCond .eq 25, 3) := by decide +kernel
theorem dL_follows_359 : decode cL_follows 359 = .ok (.aload_n 0, 1) := by decide +kernel
theorem dL_follows_360 : decode cL_follows 360 = .ok (.invokestatic 198, 3) := by decide +kernel
theorem dL_follows_363 : decode cL_follows 363 = .ok (.lconst 0, 1) := by decide +kernel
theorem dL_follows_364 : decode cL_follows 364 = .ok (.lcmp, 1) := by decide +kernel
theorem dL_follows_365 : decode cL_follows 365 = .ok (.ifCond .lt 16, 3) := by decide +kernel
theorem dL_follows_368 : decode cL_follows 368 = .ok (.aload_n 0, 1) := by decide +kernel
theorem dL_follows_369 : decode cL_follows 369 = .ok (.invokestatic 131, 3) := by decide +kernel
theorem dL_follows_372 : decode cL_follows 372 = .ok (.lload_n 2, 1) := by decide +kernel
theorem dL_follows_373 : decode cL_follows 373 = .ok (.lcmp, 1) := by decide +kernel
theorem dL_follows_374 : decode cL_follows 374 = .ok (.ifCond .ne 7, 3) := by decide +kernel
theorem dL_follows_377 : decode cL_follows 377 = .ok (.iconst 1, 1) := by decide +kernel
theorem dL_follows_378 : decode cL_follows 378 = .ok (.goto 4, 3) := by decide +kernel
theorem dL_follows_381 : decode cL_follows 381 = .ok (.iconst 0, 1) := by decide +kernel
theorem dL_follows_382 : decode cL_follows 382 = .ok (.istore 8, 2) := by decide +kernel
theorem dL_follows_384 : decode cL_follows 384 = .ok (.aload_n 0, 1) := by decide +kernel
theorem dL_follows_385 : decode cL_follows 385 = .ok (.iload 9, 2) := by decide +kernel
theorem dL_follows_387 : decode cL_follows 387 = .ok (.iload 10, 2) := by decide +kernel
theorem dL_follows_389 : decode cL_follows 389 = .ok (.bipush 60, 2) := by decide +kernel
theorem dL_follows_391 : decode cL_follows 391 = .ok (.invokestatic 137, 3) := by decide +kernel
theorem dL_follows_394 : decode cL_follows 394 = .ok (.lstore 21, 2) := by decide +kernel
theorem dL_follows_396 : decode cL_follows 396 = .ok (.iload 8, 2) := by decide +kernel
theorem dL_follows_398 : decode cL_follows 398 = .ok (.ifCond .eq 66, 3) := by decide +kernel
theorem dL_follows_401 : decode cL_follows 401 = .ok (.aload_n 0, 1) := by decide +kernel
theorem dL_follows_402 : decode cL_follows 402 = .ok (.iload 9, 2) := by decide +kernel
theorem dL_follows_404 : decode cL_follows 404 = .ok (.iload 10, 2) := by decide +kernel
theorem dL_follows_406 : decode cL_follows 406 = .ok (.invokestatic 158, 3) := by decide +kernel
theorem dL_follows_409 : decode cL_follows 409 = .ok (.lload 13, 2) := by decide +kernel
theorem dL_follows_411 : decode cL_follows 411 = .ok (.lcmp, 1) := by decide +kernel
theorem dL_follows_412 : decode cL_follows 412 = .ok (.ifCond .lt 52, 3) := by decide +kernel
theorem dL_follows_415 : decode cL_follows 415 = .ok (.aload_n 0, 1) := by decide +kernel
theorem dL_follows_416 : decode cL_follows 416 = .ok (.iload 9, 2) := by decide +kernel
theorem dL_follows_418 : decode cL_follows 418 = .ok (.iload 10, 2) := by decide +kernel
theorem dL_follows_420 : decode cL_follows 420 = .ok (.lload 21, 2) := by decide +kernel
theorem dL_follows_422 : decode cL_follows 422 = .ok (.l2i, 1) := by decide +kernel
theorem dL_follows_423 : decode cL_follows 423 = .ok (.invokestatic 137, 3) := by decide +kernel
theorem dL_follows_426 : decode cL_follows 426 = .ok (.ldc2_w 200, 3) := by decide +kernel
theorem dL_follows_429 : decode cL_follows 429 = .ok (.lcmp, 1) := by decide +kernel
theorem dL_follows_430 : decode cL_follows 430 = .ok (.ifCond .ne 34, 3) := by decide +kernel
theorem dL_follows_433 : decode cL_follows 433 = .ok (.aload_n 0, 1) := by decide +kernel
theorem dL_follows_434 : decode cL_follows 434 = .ok (.invokestatic 131, 3) := by decide +kernel
theorem dL_follows_437 : decode cL_follows 437 = .ok (.lload_n 2, 1) := by decide +kernel
theorem dL_follows_438 : decode cL_follows 438 = .ok (.lcmp, 1) := by decide +kernel
theorem dL_follows_439 : decode cL_follows 439 = .ok (.ifCond .ne 25, 3) := by decide +kernel
theorem dL_follows_442 : decode cL_follows 442 = .ok (.aload_n 0, 1) := by decide +kernel
theorem dL_follows_443 : decode cL_follows 443 = .ok (.invokestatic 198, 3) := by decide +kernel
theorem dL_follows_446 : decode cL_follows 446 = .ok (.lconst 0, 1) := by decide +kernel
theorem dL_follows_447 : decode cL_follows 447 = .ok (.lcmp, 1) := by decide +kernel
theorem dL_follows_448 : decode cL_follows 448 = .ok (.ifCond .lt 16, 3) := by decide +kernel
theorem dL_follows_451 : decode cL_follows 451 = .ok (.aload_n 0, 1) := by decide +kernel
theorem dL_follows_452 : decode cL_follows 452 = .ok (.invokestatic 198, 3) := by decide +kernel
theorem dL_follows_455 : decode cL_follows 455 = .ok (.lconst 0, 1) := by decide +kernel
theorem dL_follows_456 : decode cL_follows 456 = .ok (.lcmp, 1) := by decide +kernel
theorem dL_follows_457 : decode cL_follows 457 = .ok (.ifCond .lt 7, 3) := by decide +kernel
theorem dL_follows_460 : decode cL_follows 460 = .ok (.iconst 1, 1) := by decide +kernel
theorem dL_follows_461 : decode cL_follows 461 = .ok (.goto 4, 3) := by decide +kernel
theorem dL_follows_464 : decode cL_follows 464 = .ok (.iconst 0, 1) := by decide +kernel
theorem dL_follows_465 : decode cL_follows 465 = .ok (.istore 8, 2) := by decide +kernel
theorem dL_follows_467 : decode cL_follows 467 = .ok (.aload_n 0, 1) := by decide +kernel
theorem dL_follows_468 : decode cL_follows 468 = .ok (.iload 9, 2) := by decide +kernel
theorem dL_follows_470 : decode cL_follows 470 = .ok (.iload 10, 2) := by decide +kernel
theorem dL_follows_472 : decode cL_follows 472 = .ok (.iconst 2, 1) := by decide +kernel
theorem dL_follows_473 : decode cL_follows 473 = .ok (.invokestatic 122, 3) := by decide +kernel
theorem dL_follows_476 : decode cL_follows 476 = .ok (.lstore 13, 2) := by decide +kernel
theorem dL_follows_478 : decode cL_follows 478 = .ok (.lload 13, 2) := by decide +kernel
theorem dL_follows_480 : decode cL_follows 480 = .ok (.lconst 0, 1) := by decide +kernel
theorem dL_follows_481 : decode cL_follows 481 = .ok (.lcmp, 1) := by decide +kernel
theorem dL_follows_482 : decode cL_follows 482 = .ok (.ifCond .le 341, 3) := by decide +kernel
theorem dL_follows_485 : decode cL_follows 485 = .ok (.iload 8, 2) := by decide +kernel
theorem dL_follows_487 : decode cL_follows 487 = .ok (.ifCond .eq 336, 3) := by decide +kernel
theorem dL_follows_490 : decode cL_follows 490 = .ok (.aload_n 0, 1) := by decide +kernel
theorem dL_follows_491 : decode cL_follows 491 = .ok (.iload 9, 2) := by decide +kernel
theorem dL_follows_493 : decode cL_follows 493 = .ok (.iconst 1, 1) := by decide +kernel
theorem dL_follows_494 : decode cL_follows 494 = .ok (.invokestatic 117, 3) := by decide +kernel
theorem dL_follows_497 : decode cL_follows 497 = .ok (.lstore 15, 2) := by decide +kernel
theorem dL_follows_499 : decode cL_follows 499 = .ok (.aload_n 0, 1) := by decide +kernel
theorem dL_follows_500 : decode cL_follows 500 = .ok (.iload 10, 2) := by decide +kernel
theorem dL_follows_502 : decode cL_follows 502 = .ok (.iconst 2, 1) := by decide +kernel
theorem dL_follows_503 : decode cL_follows 503 = .ok (.invokestatic 127, 3) := by decide +kernel
theorem dL_follows_506 : decode cL_follows 506 = .ok (.lstore 17, 2) := by decide +kernel
theorem dL_follows_508 : decode cL_follows 508 = .ok (.aload_n 0, 1) := by decide +kernel
theorem dL_follows_509 : decode cL_follows 509 = .ok (.iload 9, 2) := by decide +kernel
theorem dL_follows_511 : decode cL_follows 511 = .ok (.iload 10, 2) := by decide +kernel
theorem dL_follows_513 : decode cL_follows 513 = .ok (.invokestatic 154, 3) := by decide +kernel
theorem dL_follows_516 : decode cL_follows 516 = .ok (.lstore 19, 2) := by decide +kernel
theorem dL_follows_518 : decode cL_follows 518 = .ok (.lload 19, 2) := by decide +kernel
theorem dL_follows_520 : decode cL_follows 520 = .ok (.lload 17, 2) := by decide +kernel
theorem dL_follows_522 : decode cL_follows 522 = .ok (.lconst 0, 1) := by decide +kernel
theorem dL_follows_523 : decode cL_follows 523 = .ok (.lcmp, 1) := by decide +kernel
theorem dL_follows_524 : decode cL_follows 524 = .ok (.ifCond .le 7, 3) := by decide +kernel
theorem dL_follows_527 : decode cL_follows 527 = .ok (.lconst 1, 1) := by decide +kernel
theorem dL_follows_528 : decode cL_follows 528 = .ok (.goto 4, 3) := by decide +kernel
theorem dL_follows_531 : decode cL_follows 531 = .ok (.lconst 0, 1) := by decide +kernel
theorem dL_follows_532 : decode cL_follows 532 = .ok (.lcmp, 1) := by decide +kernel
theorem dL_follows_533 : decode cL_follows 533 = .ok (.ifCond .ne 88, 3) := by decide +kernel

theorem dL_errors_0 : decode cL_errors 0 = .ok (.aload_n 0, 1) := by decide +kernel
theorem dL_errors_1 : decode cL_errors 1 = .ok (.invokestatic 131, 3) := by decide +kernel
theorem dL_errors_4 : decode cL_errors 4 = .ok (.lstore_n 1, 1) := by decide +kernel
theorem dL_errors_5 : decode cL_errors 5 = .ok (.aload_n 0, 1) := by decide +kernel
theorem dL_errors_6 : decode cL_errors 6 = .ok (.iconst 0, 1) := by decide +kernel
theorem dL_errors_7 : decode cL_errors 7 = .ok (.invokestatic 112, 3) := by decide +kernel
theorem dL_errors_10 : decode cL_errors 10 = .ok (.l2i, 1) := by decide +kernel
theorem dL_errors_11 : decode cL_errors 11 = .ok (.istore_n 3, 1) := by decide +kernel
theorem dL_errors_12 : decode cL_errors 12 = .ok (.aload_n 0, 1) := by decide +kernel
theorem dL_errors_13 : decode cL_errors 13 = .ok (.iconst 1, 1) := by decide +kernel
theorem dL_errors_14 : decode cL_errors 14 = .ok (.invokestatic 112, 3) := by decide +kernel
theorem dL_errors_17 : decode cL_errors 17 = .ok (.l2i, 1) := by decide +kernel
theorem dL_errors_18 : decode cL_errors 18 = .ok (.istore 4, 2) := by decide +kernel
theorem dL_errors_20 : decode cL_errors 20 = .ok (.aload_n 0, 1) := by decide +kernel
theorem dL_errors_21 : decode cL_errors 21 = .ok (.iconst 2, 1) := by decide +kernel
theorem dL_errors_22 : decode cL_errors 22 = .ok (.invokestatic 112, 3) := by decide +kernel
theorem dL_errors_25 : decode cL_errors 25 = .ok (.l2i, 1) := by decide +kernel
theorem dL_errors_26 : decode cL_errors 26 = .ok (.istore 5, 2) := by decide +kernel
theorem dL_errors_28 : decode cL_errors 28 = .ok (.aload_n 0, 1) := by decide +kernel
theorem dL_errors_29 : decode cL_errors 29 = .ok (.iconst (-1), 1) := by decide +kernel
theorem dL_errors_30 : decode cL_errors 30 = .ok (.invokestatic 112, 3) := by decide +kernel
theorem dL_errors_33 : decode cL_errors 33 = .ok (.ldc2_w 17, 3) := by decide +kernel
theorem dL_errors_36 : decode cL_errors 36 = .ok (.lcmp, 1) := by decide +kernel
theorem dL_errors_37 : decode cL_errors 37 = .ok (.ifCond .ne 262, 3) := by decide +kernel
theorem dL_errors_40 : decode cL_errors 40 = .ok (.aload_n 0, 1) := by decide +kernel
theorem dL_errors_41 : decode cL_errors 41 = .ok (.bipush 10, 2) := by decide +kernel
theorem dL_errors_43 : decode cL_errors 43 = .ok (.invokestatic 112, 3) := by decide +kernel
theorem dL_errors_46 : decode cL_errors 46 = .ok (.ldc2_w 17, 3) := by decide +kernel
theorem dL_errors_49 : decode cL_errors 49 = .ok (.lcmp, 1) := by decide +kernel
theorem dL_errors_50 : decode cL_errors 50 = .ok (.ifCond .ne 249, 3) := by decide +kernel
theorem dL_errors_53 : decode cL_errors 53 = .ok (.aload_n 0, 1) := by decide +kernel
theorem dL_errors_54 : decode cL_errors 54 = .ok (.iload_n 3, 1) := by decide +kernel
theorem dL_errors_55 : decode cL_errors 55 = .ok (.bipush 9, 2) := by decide +kernel
theorem dL_errors_57 : decode cL_errors 57 = .ok (.invokestatic 117, 3) := by decide +kernel
theorem dL_errors_60 : decode cL_errors 60 = .ok (.ldc2_w 36, 3) := by decide +kernel
theorem dL_errors_63 : decode cL_errors 63 = .ok (.lcmp, 1) := by decide +kernel
theorem dL_errors_64 : decode cL_errors 64 = .ok (.ifCond .ne 235, 3) := by decide +kernel
theorem dL_errors_67 : decode cL_errors 67 = .ok (.iload_n 3, 1) := by decide +kernel
theorem dL_errors_68 : decode cL_errors 68 = .ok (.ifCond .eq 16, 3) := by decide +kernel
theorem dL_errors_71 : decode cL_errors 71 = .ok (.aload_n 0, 1) := by decide +kernel
theorem dL_errors_72 : decode cL_errors 72 = .ok (.iconst 0, 1) := by decide +kernel
theorem dL_errors_73 : decode cL_errors 73 = .ok (.iconst 4, 1) := by decide +kernel
theorem dL_errors_74 : decode cL_errors 74 = .ok (.invokestatic 117, 3) := by decide +kernel
theorem dL_errors_77 : decode cL_errors 77 = .ok (.ldc2_w 17, 3) := by decide +kernel
theorem dL_errors_80 : decode cL_errors 80 = .ok (.lcmp, 1) := by decide +kernel
theorem dL_errors_81 : decode cL_errors 81 = .ok (.ifCond .ne 218, 3) := by decide +kernel
theorem dL_errors_84 : decode cL_errors 84 = .ok (.aload_n 0, 1) := by decide +kernel
theorem dL_errors_85 : decode cL_errors 85 = .ok (.iload 4, 2) := by decide +kernel
theorem dL_errors_87 : decode cL_errors 87 = .ok (.bipush 9, 2) := by decide +kernel
theorem dL_errors_89 : decode cL_errors 89 = .ok (.invokestatic 127, 3) := by decide +kernel
theorem dL_errors_92 : decode cL_errors 92 = .ok (.ldc2_w 36, 3) := by decide +kernel
theorem dL_errors_95 : decode cL_errors 95 = .ok (.lcmp, 1) := by decide +kernel
theorem dL_errors_96 : decode cL_errors 96 = .ok (.ifCond .ne 203, 3) := by decide +kernel
theorem dL_errors_99 : decode cL_errors 99 = .ok (.iload 4, 2) := by decide +kernel
theorem dL_errors_101 : decode cL_errors 101 = .ok (.ifCond .eq 17, 3) := by decide +kernel
theorem dL_errors_104 : decode cL_errors 104 = .ok (.aload_n 0, 1) := by decide +kernel
theorem dL_errors_105 : decode cL_errors 105 = .ok (.iconst 0, 1) := by decide +kernel
theorem dL_errors_106 : decode cL_errors 106 = .ok (.bipush 9, 2) := by decide +kernel
theorem dL_errors_108 : decode cL_errors 108 = .ok (.invokestatic 127, 3) := by decide +kernel
theorem dL_errors_111 : decode cL_errors 111 = .ok (.ldc2_w 17, 3) := by decide +kernel
theorem dL_errors_114 : decode cL_errors 114 = .ok (.lcmp, 1) := by decide +kernel
theorem dL_errors_115 : decode cL_errors 115 = .ok (.ifCond .ne 184, 3) := by decide +kernel
theorem dL_errors_118 : decode cL_errors 118 = .ok (.aload_n 0, 1) := by decide +kernel
theorem dL_errors_119 : decode cL_errors 119 = .ok (.iload 5, 2) := by decide +kernel
theorem dL_errors_121 : decode cL_errors 121 = .ok (.bipush 9, 2) := by decide +kernel
theorem dL_errors_123 : decode cL_errors 123 = .ok (.invokestatic 129, 3) := by decide +kernel
theorem dL_errors_126 : decode cL_errors 126 = .ok (.ldc2_w 36, 3) := by decide +kernel
theorem dL_errors_129 : decode cL_errors 129 = .ok (.lcmp, 1) := by decide +kernel
theorem dL_errors_130 : decode cL_errors 130 = .ok (.ifCond .ne 169, 3) := by decide +kernel
theorem dL_errors_133 : decode cL_errors 133 = .ok (.iload 5, 2) := by decide +kernel
theorem dL_errors_135 : decode cL_errors 135 = .ok (.ifCond .eq 47, 3) := by decide +kernel
theorem dL_errors_138 : decode cL_errors 138 = .ok (.aload_n 0, 1) := by decide +kernel
theorem dL_errors_139 : decode cL_errors 139 = .ok (.iconst 0, 1) := by decide +kernel
theorem dL_errors_140 : decode cL_errors 140 = .ok (.iconst 3, 1) := by decide +kernel
theorem dL_errors_141 : decode cL_errors 141 = .ok (.invokestatic 129, 3) := by decide +kernel
theorem dL_errors_144 : decode cL_errors 144 = .ok (.ldc2_w 17, 3) := by decide +kernel
theorem dL_errors_147 : decode cL_errors 147 = .ok (.lcmp, 1) := by decide +kernel
theorem dL_errors_148 : decode cL_errors 148 = .ok (.ifCond .ne 151, 3) := by decide +kernel
theorem dL_errors_151 : decode cL_errors 151 = .ok (.aload_n 0, 1) := by decide +kernel
theorem dL_errors_152 : decode cL_errors 152 = .ok (.iconst 0, 1) := by decide +kernel
theorem dL_errors_153 : decode cL_errors 153 = .ok (.iconst 0, 1) := by decide +kernel
theorem dL_errors_154 : decode cL_errors 154 = .ok (.bipush 9, 2) := by decide +kernel
theorem dL_errors_156 : decode cL_errors 156 = .ok (.invokestatic 135, 3) := by decide +kernel
theorem dL_errors_159 : decode cL_errors 159 = .ok (.ldc2_w 17, 3) := by decide +kernel
theorem dL_errors_162 : decode cL_errors 162 = .ok (.lcmp, 1) := by decide +kernel
theorem dL_errors_163 : decode cL_errors 163 = .ok (.ifCond .ne 136, 3) := by decide +kernel
theorem dL_errors_166 : decode cL_errors 166 = .ok (.aload_n 0, 1) := by decide +kernel
theorem dL_errors_167 : decode cL_errors 167 = .ok (.iconst 0, 1) := by decide +kernel
theorem dL_errors_168 : decode cL_errors 168 = .ok (.iload 5, 2) := by decide +kernel
theorem dL_errors_170 : decode cL_errors 170 = .ok (.bipush 9, 2) := by decide +kernel
theorem dL_errors_172 : decode cL_errors 172 = .ok (.invokestatic 135, 3) := by decide +kernel
theorem dL_errors_175 : decode cL_errors 175 = .ok (.ldc2_w 36, 3) := by decide +kernel
theorem dL_errors_178 : decode cL_errors 178 = .ok (.lcmp, 1) := by decide +kernel
theorem dL_errors_179 : decode cL_errors 179 = .ok (.ifCond .ne 120, 3) := by decide +kernel
theorem dL_errors_182 : decode cL_errors 182 = .ok (.aload_n 0, 1) := by decide +kernel
theorem dL_errors_183 : decode cL_errors 183 = .ok (.iload_n 3, 1) := by decide +kernel
theorem dL_errors_184 : decode cL_errors 184 = .ok (.iconst 0, 1) := by decide +kernel
theorem dL_errors_185 : decode cL_errors 185 = .ok (.bipush 9, 2) := by decide +kernel
theorem dL_errors_187 : decode cL_errors 187 = .ok (.invokestatic 122, 3) := by decide +kernel
theorem dL_errors_190 : decode cL_errors 190 = .ok (.ldc2_w 36, 3) := by decide +kernel
theorem dL_errors_193 : decode cL_errors 193 = .ok (.lcmp, 1) := by decide +kernel
theorem dL_errors_194 : decode cL_errors 194 = .ok (.ifCond .ne 105, 3) := by decide +kernel
theorem dL_errors_197 : decode cL_errors 197 = .ok (.aload_n 0, 1) := by decide +kernel
theorem dL_errors_198 : decode cL_errors 198 = .ok (.iconst 0, 1) := by decide +kernel
theorem dL_errors_199 : decode cL_errors 199 = .ok (.iload 4, 2) := by decide +kernel
theorem dL_errors_201 : decode cL_errors 201 = .ok (.bipush 9, 2) := by decide +kernel
theorem dL_errors_203 : decode cL_errors 203 = .ok (.invokestatic 122, 3) := by decide +kernel
theorem dL_errors_206 : decode cL_errors 206 = .ok (.ldc2_w 36, 3) := by decide +kernel
theorem dL_errors_209 : decode cL_errors 209 = .ok (.lcmp, 1) := by decide +kernel
theorem dL_errors_210 : decode cL_errors 210 = .ok (.ifCond .ne 89, 3) := by decide +kernel
theorem dL_errors_213 : decode cL_errors 213 = .ok (.iload_n 3, 1) := by decide +kernel
theorem dL_errors_214 : decode cL_errors 214 = .ok (.ifCond .eq 81, 3) := by decide +kernel
theorem dL_errors_217 : decode cL_errors 217 = .ok (.iload 4, 2) := by decide +kernel
theorem dL_errors_219 : decode cL_errors 219 = .ok (.ifCond .eq 76, 3) := by decide +kernel
theorem dL_errors_222 : decode cL_errors 222 = .ok (.aload_n 0, 1) := by decide +kernel
theorem dL_errors_223 : decode cL_errors 223 = .ok (.iconst 0, 1) := by decide +kernel
theorem dL_errors_224 : decode cL_errors 224 = .ok (.iconst 0, 1) := by decide +kernel
theorem dL_errors_225 : decode cL_errors 225 = .ok (.iconst 3, 1) := by decide +kernel
theorem dL_errors_226 : decode cL_errors 226 = .ok (.invokestatic 122, 3) := by decide +kernel
theorem dL_errors_229 : decode cL_errors 229 = .ok (.ldc2_w 17, 3) := by decide +kernel
theorem dL_errors_232 : decode cL_errors 232 = .ok (.lcmp, 1) := by decide +kernel
theorem dL_errors_233 : decode cL_errors 233 = .ok (.ifCond .ne 66, 3) := by decide +kernel
theorem dL_errors_236 : decode cL_errors 236 = .ok (.aload_n 0, 1) := by decide +kernel
theorem dL_errors_237 : decode cL_errors 237 = .ok (.iconst 0, 1) := by decide +kernel
theorem dL_errors_238 : decode cL_errors 238 = .ok (.iconst 0, 1) := by decide +kernel
theorem dL_errors_239 : decode cL_errors 239 = .ok (.bipush 61, 2) := by decide +kernel
theorem dL_errors_241 : decode cL_errors 241 = .ok (.invokestatic 137, 3) := by decide +kernel
theorem dL_errors_244 : decode cL_errors 244 = .ok (.ldc2_w 17, 3) := by decide +kernel
theorem dL_errors_247 : decode cL_errors 247 = .ok (.lcmp, 1) := by decide +kernel
theorem dL_errors_248 : decode cL_errors 248 = .ok (.ifCond .ne 51, 3) := by decide +kernel
theorem dL_errors_251 : decode cL_errors 251 = .ok (.aload_n 0, 1) := by decide +kernel
theorem dL_errors_252 : decode cL_errors 252 = .ok (.iconst 0, 1) := by decide +kernel
theorem dL_errors_253 : decode cL_errors 253 = .ok (.iconst 0, 1) := by decide +kernel
theorem dL_errors_254 : decode cL_errors 254 = .ok (.bipush 61, 2) := by decide +kernel
theorem dL_errors_256 : decode cL_errors 256 = .ok (.invokestatic 139, 3) := by decide +kernel
theorem dL_errors_259 : decode cL_errors 259 = .ok (.ldc2_w 17, 3) := by decide +kernel
theorem dL_errors_262 : decode cL_errors 262 = .ok (.lcmp, 1) := by decide +kernel
theorem dL_errors_263 : decode cL_errors 263 = .ok (.ifCond .ne 36, 3) := by decide +kernel
theorem dL_errors_266 : decode cL_errors 266 = .ok (.aload_n 0, 1) := by decide +kernel
theorem dL_errors_267 : decode cL_errors 267 = .ok (.iconst 0, 1) := by decide +kernel
theorem dL_errors_268 : decode cL_errors 268 = .ok (.iconst 0, 1) := by decide +kernel
theorem dL_errors_269 : decode cL_errors 269 = .ok (.iconst 0, 1) := by decide +kernel
theorem dL_errors_270 : decode cL_errors 270 = .ok (.invokestatic 139, 3) := by decide +kernel
theorem dL_errors_273 : decode cL_errors 273 = .ok (.ldc2_w 17, 3) := by decide +kernel
theorem dL_errors_276 : decode cL_errors 276 = .ok (.lcmp, 1) := by decide +kernel
theorem dL_errors_277 : decode cL_errors 277 = .ok (.ifCond .ne 22, 3) := by decide +kernel
theorem dL_errors_280 : decode cL_errors 280 = .ok (.aload_n 0, 1) := by decide +kernel
theorem dL_errors_281 : decode cL_errors 281 = .ok (.iconst 0, 1) := by decide +kernel
theorem dL_errors_282 : decode cL_errors 282 = .ok (.iconst 0, 1) := by decide +kernel
theorem dL_errors_283 : decode cL_errors 283 = .ok (.iconst 0, 1) := by decide +kernel
theorem dL_errors_284 : decode cL_errors 284 = .ok (.iconst 1, 1) := by decide +kernel
theorem dL_errors_285 : decode cL_errors 285 = .ok (.invokestatic 141, 3) := by decide +kernel
theorem dL_errors_288 : decode cL_errors 288 = .ok (.ldc2_w 17, 3) := by decide +kernel
theorem dL_errors_291 : decode cL_errors 291 = .ok (.lcmp, 1) := by decide +kernel
theorem dL_errors_292 : decode cL_errors 292 = .ok (.ifCond .ne 7, 3) := by decide +kernel
theorem dL_errors_295 : decode cL_errors 295 = .ok (.iconst 1, 1) := by decide +kernel
theorem dL_errors_296 : decode cL_errors 296 = .ok (.goto 4, 3) := by decide +kernel
theorem dL_errors_299 : decode cL_errors 299 = .ok (.iconst 0, 1) := by decide +kernel
theorem dL_errors_300 : decode cL_errors 300 = .ok (.istore 6, 2) := by decide +kernel
theorem dL_errors_302 : decode cL_errors 302 = .ok (.iload 6, 2) := by decide +kernel
theorem dL_errors_304 : decode cL_errors 304 = .ok (.ifCond .eq 213, 3) := by decide +kernel
theorem dL_errors_307 : decode cL_errors 307 = .ok (.aload_n 0, 1) := by decide +kernel
theorem dL_errors_308 : decode cL_errors 308 = .ok (.iconst (-1), 1) := by decide +kernel
theorem dL_errors_309 : decode cL_errors 309 = .ok (.invokestatic 144, 3) := by decide +kernel
theorem dL_errors_312 : decode cL_errors 312 = .ok (.ldc2_w 17, 3) := by decide +kernel
theorem dL_errors_315 : decode cL_errors 315 = .ok (.lcmp, 1) := by decide +kernel
theorem dL_errors_316 : decode cL_errors 316 = .ok (.ifCond .ne 201, 3) := by decide +kernel
theorem dL_errors_319 : decode cL_errors 319 = .ok (.iload_n 3, 1) := by decide +kernel
theorem dL_errors_320 : decode cL_errors 320 = .ok (.bipush 6, 2) := by decide +kernel
theorem dL_errors_322 : decode cL_errors 322 = .ok (.if_icmp .lt 15, 3) := by decide +kernel
theorem dL_errors_325 : decode cL_errors 325 = .ok (.aload_n 0, 1) := by decide +kernel
theorem dL_errors_326 : decode cL_errors 326 = .ok (.iconst 0, 1) := by decide +kernel
theorem dL_errors_327 : decode cL_errors 327 = .ok (.invokestatic 144, 3) := by decide +kernel
theorem dL_errors_330 : decode cL_errors 330 = .ok (.ldc2_w 21, 3) := by decide +kernel
theorem dL_errors_333 : decode cL_errors 333 = .ok (.lcmp, 1) := by decide +kernel
theorem dL_errors_334 : decode cL_errors 334 = .ok (.ifCond .ne 183, 3) := by decide +kernel
theorem dL_errors_337 : decode cL_errors 337 = .ok (.aload_n 0, 1) := by decide +kernel
theorem dL_errors_338 : decode cL_errors 338 = .ok (.bipush 100, 2) := by decide +kernel
theorem dL_errors_340 : decode cL_errors 340 = .ok (.iconst 0, 1) := by decide +kernel
theorem dL_errors_341 : decode cL_errors 341 = .ok (.invokestatic 146, 3) := by decide +kernel
theorem dL_errors_344 : decode cL_errors 344 = .ok (.ldc2_w 17, 3) := by decide +kernel
theorem dL_errors_347 : decode cL_errors 347 = .ok (.lcmp, 1) := by decide +kernel
theorem dL_errors_348 : decode cL_errors 348 = .ok (.ifCond .ne 169, 3) := by decide +kernel
theorem dL_errors_351 : decode cL_errors 351 = .ok (.iload 4, 2) := by decide +kernel
theorem dL_errors_353 : decode cL_errors 353 = .ok (.bipush 6, 2) := by decide +kernel
theorem dL_errors_355 : decode cL_errors 355 = .ok (.if_icmp .lt 16, 3) := by decide +kernel
theorem dL_errors_358 : decode cL_errors 358 = .ok (.aload_n 0, 1) := by decide +kernel
theorem dL_errors_359 : decode cL_errors 359 = .ok (.iconst 1, 1) := by decide +kernel
theorem dL_errors_360 : decode cL_errors 360 = .ok (.iconst 0, 1) := by decide +kernel
theorem dL_errors_361 : decode cL_errors 361 = .ok (.invokestatic 146, 3) := by decide +kernel
theorem dL_errors_364 : decode cL_errors 364 = .ok (.ldc2_w 21, 3) := by decide +kernel
theorem dL_errors_367 : decode cL_errors 367 = .ok (.lcmp, 1) := by decide +kernel
theorem dL_errors_368 : decode cL_errors 368 = .ok (.ifCond .ne 149, 3) := by decide +kernel
theorem dL_errors_371 : decode cL_errors 371 = .ok (.aload_n 0, 1) := by decide +kernel
theorem dL_errors_372 : decode cL_errors 372 = .ok (.iconst 0, 1) := by decide +kernel
theorem dL_errors_373 : decode cL_errors 373 = .ok (.invokestatic 148, 3) := by decide +kernel
theorem dL_errors_376 : decode cL_errors 376 = .ok (.ldc2_w 17, 3) := by decide +kernel
theorem dL_errors_379 : decode cL_errors 379 = .ok (.lcmp, 1) := by decide +kernel
theorem dL_errors_380 : decode cL_errors 380 = .ok (.ifCond .ne 137, 3) := by decide +kernel
theorem dL_errors_383 : decode cL_errors 383 = .ok (.iload 5, 2) := by decide +kernel
theorem dL_errors_385 : decode cL_errors 385 = .ok (.bipush 8, 2) := by decide +kernel
theorem dL_errors_387 : decode cL_errors 387 = .ok (.if_icmp .lt 15, 3) := by decide +kernel
theorem dL_errors_390 : decode cL_errors 390 = .ok (.aload_n 0, 1) := by decide +kernel
theorem dL_errors_391 : decode cL_errors 391 = .ok (.iconst 1, 1) := by decide +kernel
theorem dL_errors_392 : decode cL_errors 392 = .ok (.invokestatic 148, 3) := by decide +kernel
theorem dL_errors_395 : decode cL_errors 395 = .ok (.ldc2_w 21, 3) := by decide +kernel
theorem dL_errors_398 : decode cL_errors 398 = .ok (.lcmp, 1) := by decide +kernel
theorem dL_errors_399 : decode cL_errors 399 = .ok (.ifCond .ne 118, 3) := by decide +kernel
theorem dL_errors_402 : decode cL_errors 402 = .ok (.aload_n 0, 1) := by decide +kernel
theorem dL_errors_403 : decode cL_errors 403 = .ok (.iload_n 3, 1) := by decide +kernel
theorem dL_errors_404 : decode cL_errors 404 = .ok (.iconst 0, 1) := by decide +kernel
theorem dL_errors_405 : decode cL_errors 405 = .ok (.bipush 61, 2) := by decide +kernel
theorem dL_errors_407 : decode cL_errors 407 = .ok (.invokestatic 137, 3) := by decide +kernel
theorem dL_errors_410 : decode cL_errors 410 = .ok (.ldc2_w 36, 3) := by decide +kernel
theorem dL_errors_413 : decode cL_errors 413 = .ok (.lcmp, 1) := by decide +kernel
theorem dL_errors_414 : decode cL_errors 414 = .ok (.ifCond .ne 103, 3) := by decide +kernel
theorem dL_errors_417 : decode cL_errors 417 = .ok (.aload_n 0, 1) := by decide +kernel
theorem dL_errors_418 : decode cL_errors 418 = .ok (.iconst 0, 1) := by decide +kernel
theorem dL_errors_419 : decode cL_errors 419 = .ok (.iload 4, 2) := by decide +kernel
theorem dL_errors_421 : decode cL_errors 421 = .ok (.bipush 61, 2) := by decide +kernel
theorem dL_errors_423 : decode cL_errors 423 = .ok (.invokestatic 137, 3) := by decide +kernel
theorem dL_errors_426 : decode cL_errors 426 = .ok (.ldc2_w 36, 3) := by decide +kernel
theorem dL_errors_429 : decode cL_errors 429 = .ok (.lcmp, 1) := by decide +kernel
theorem dL_errors_430 : decode cL_errors 430 = .ok (.ifCond .ne 87, 3) := by decide +kernel
theorem dL_errors_433 : decode cL_errors 433 = .ok (.aload_n 0, 1) := by decide +kernel
theorem dL_errors_434 : decode cL_errors 434 = .ok (.iload 4, 2) := by decide +kernel
theorem dL_errors_436 : decode cL_errors 436 = .ok (.invokestatic 150, 3) := by decide +kernel
theorem dL_errors_439 : decode cL_errors 439 = .ok (.ldc2_w 36, 3) := by decide +kernel
theorem dL_errors_442 : decode cL_errors 442 = .ok (.lcmp, 1) := by decide +kernel
theorem dL_errors_443 : decode cL_errors 443 = .ok (.ifCond .ne 74, 3) := by decide +kernel
theorem dL_errors_446 : decode cL_errors 446 = .ok (.aload_n 0, 1) := by decide +kernel
theorem dL_errors_447 : decode cL_errors 447 = .ok (.iconst (-1), 1) := by decide +kernel
theorem dL_errors_448 : decode cL_errors 448 = .ok (.invokestatic 152, 3) := by decide +kernel
theorem dL_errors_451 : decode cL_errors 451 = .ok (.ldc2_w 36, 3) := by decide +kernel
theorem dL_errors_454 : decode cL_errors 454 = .ok (.lcmp, 1) := by decide +kernel
theorem dL_errors_455 : decode cL_errors 455 = .ok (.ifCond .ne 62, 3) := by decide +kernel
theorem dL_errors_458 : decode cL_errors 458 = .ok (.aload_n 0, 1) := by decide +kernel
theorem dL_errors_459 : decode cL_errors 459 = .ok (.iload_n 3, 1) := by decide +kernel
theorem dL_errors_460 : decode cL_errors 460 = .ok (.iconst 0, 1) := by decide +kernel
theorem dL_errors_461 : decode cL_errors 461 = .ok (.iconst 0, 1) := by decide +kernel
theorem dL_errors_462 : decode cL_errors 462 = .ok (.invokestatic 139, 3) := by decide +kernel
theorem dL_errors_465 : decode cL_errors 465 = .ok (.ldc2_w 36, 3) := by decide +kernel
theorem dL_errors_468 : decode cL_errors 468 = .ok (.lcmp, 1) := by decide +kernel
theorem dL_errors_469 : decode cL_errors 469 = .ok (.ifCond .ne 48, 3) := by decide +kernel
theorem dL_errors_472 : decode cL_errors 472 = .ok (.aload_n 0, 1) := by decide +kernel
theorem dL_errors_473 : decode cL_errors 473 = .ok (.iconst 0, 1) := by decide +kernel
theorem dL_errors_474 : decode cL_errors 474 = .ok (.iload_n 3, 1) := by decide +kernel
theorem dL_errors_475 : decode cL_errors 475 = .ok (.iconst 0, 1) := by decide +kernel
theorem dL_errors_476 : decode cL_errors 476 = .ok (.iconst 0, 1) := by decide +kernel
theorem dL_errors_477 : decode cL_errors 477 = .ok (.invokestatic 141, 3) := by decide +kernel
theorem dL_errors_480 : decode cL_errors 480 = .ok (.ldc2_w 36, 3) := by decide +kernel
theorem dL_errors_483 : decode cL_errors 483 = .ok (.lcmp, 1) := by decide +kernel
theorem dL_errors_484 : decode cL_errors 484 = .ok (.ifCond .ne 33, 3) := by decide +kernel
theorem dL_errors_487 : decode cL_errors 487 = .ok (.aload_n 0, 1) := by decide +kernel
theorem dL_errors_488 : decode cL_errors 488 = .ok (.iconst 0, 1) := by decide +kernel
theorem dL_errors_489 : decode cL_errors 489 = .ok (.iload 4, 2) := by decide +kernel
theorem dL_errors_491 : decode cL_errors 491 = .ok (.invokestatic 154, 3) := by decide +kernel
theorem dL_errors_494 : decode cL_errors 494 = .ok (.ldc2_w 36, 3) := by decide +kernel
theorem dL_errors_497 : decode cL_errors 497 = .ok (.lcmp, 1) := by decide +kernel
theorem dL_errors_498 : decode cL_errors 498 = .ok (.ifCond .ne 19, 3) := by decide +kernel
theorem dL_errors_501 : decode cL_errors 501 = .ok (.aload_n 0, 1) := by decide +kernel
theorem dL_errors_502 : decode cL_errors 502 = .ok (.iload_n 3, 1) := by decide +kernel
theorem dL_errors_503 : decode cL_errors 503 = .ok (.invokestatic 156, 3) := by decide +kernel
theorem dL_errors_506 : decode cL_errors 506 = .ok (.ldc2_w 36, 3) := by decide +kernel
theorem dL_errors_509 : decode cL_errors 509 = .ok (.lcmp, 1) := by decide +kernel
theorem dL_errors_510 : decode cL_errors 510 = .ok (.ifCond .ne 7, 3) := by decide +kernel
theorem dL_errors_513 : decode cL_errors 513 = .ok (.iconst 1, 1) := by decide +kernel
theorem dL_errors_514 : decode cL_errors 514 = .ok (.goto 4, 3) := by decide +kernel
theorem dL_errors_517 : decode cL_errors 517 = .ok (.iconst 0, 1) := by decide +kernel
theorem dL_errors_518 : decode cL_errors 518 = .ok (.istore 6, 2) := by decide +kernel
theorem dL_errors_520 : decode cL_errors 520 = .ok (.iconst 0, 1) := by decide +kernel
theorem dL_errors_521 : decode cL_errors 521 = .ok (.istore 7, 2) := by decide +kernel
theorem dL_errors_523 : decode cL_errors 523 = .ok (.iload 7, 2) := by decide +kernel
theorem dL_errors_525 : decode cL_errors 525 = .ok (.iload 4, 2) := by decide +kernel
theorem dL_errors_527 : decode cL_errors 527 = .ok (.if_icmp .ge 269, 3) := by decide +kernel
theorem dL_errors_530 : decode cL_errors 530 = .ok (.iload 6, 2) := by decide +kernel
theorem dL_errors_532 : decode cL_errors 532 = .ok (.ifCond .eq 264, 3) := by decide +kernel
theorem dL_errors_535 : decode cL_errors 535 = .ok (.aload_n 0, 1) := by decide +kernel
theorem dL_errors_536 : decode cL_errors 536 = .ok (.iload 7, 2) := by decide +kernel
theorem dL_errors_538 : decode cL_errors 538 = .ok (.iconst 3, 1) := by decide +kernel
theorem dL_errors_539 : decode cL_errors 539 = .ok (.invokestatic 127, 3) := by decide +kernel
theorem dL_errors_542 : decode cL_errors 542 = .ok (.lstore 8, 2) := by decide +kernel
theorem dL_errors_544 : decode cL_errors 544 = .ok (.lload 8, 2) := by decide +kernel
theorem dL_errors_546 : decode cL_errors 546 = .ok (.lconst 0, 1) := by decide +kernel
theorem dL_errors_547 : decode cL_errors 547 = .ok (.lcmp, 1) := by decide +kernel
theorem dL_errors_548 : decode cL_errors 548 = .ok (.ifCond .eq 62, 3) := by decide +kernel
theorem dL_errors_551 : decode cL_errors 551 = .ok (.aload_n 0, 1) := by decide +kernel
theorem dL_errors_552 : decode cL_errors 552 = .ok (.iload 7, 2) := by decide +kernel
theorem dL_errors_554 : decode cL_errors 554 = .ok (.invokestatic 150, 3) := by decide +kernel
theorem dL_errors_557 : decode cL_errors 557 = .ok (.ldc2_w 21, 3) := by decide +kernel

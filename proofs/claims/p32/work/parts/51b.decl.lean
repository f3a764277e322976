theorem dL_tells_0 : decode cL_tells 0 = .ok (.iconst 1, 1) := by decide +kernel
theorem dL_tells_1 : decode cL_tells 1 = .ok (.iload_n 2, 1) := by decide +kernel
theorem dL_tells_2 : decode cL_tells 2 = .ok (.bipush 6, 2) := by decide +kernel
theorem dL_tells_4 : decode cL_tells 4 = .ok (.irem, 1) := by decide +kernel
theorem dL_tells_5 : decode cL_tells 5 = .ok (.iadd, 1) := by decide +kernel
theorem dL_tells_6 : decode cL_tells 6 = .ok (.istore_n 3, 1) := by decide +kernel
theorem dL_tells_7 : decode cL_tells 7 = .ok (.iconst 1, 1) := by decide +kernel
theorem dL_tells_8 : decode cL_tells 8 = .ok (.iload_n 2, 1) := by decide +kernel
theorem dL_tells_9 : decode cL_tells 9 = .ok (.bipush 6, 2) := by decide +kernel
theorem dL_tells_11 : decode cL_tells 11 = .ok (.idiv, 1) := by decide +kernel
theorem dL_tells_12 : decode cL_tells 12 = .ok (.iconst 4, 1) := by decide +kernel
theorem dL_tells_13 : decode cL_tells 13 = .ok (.irem, 1) := by decide +kernel
theorem dL_tells_14 : decode cL_tells 14 = .ok (.iadd, 1) := by decide +kernel
theorem dL_tells_15 : decode cL_tells 15 = .ok (.istore 4, 2) := by decide +kernel
theorem dL_tells_17 : decode cL_tells 17 = .ok (.iload_n 2, 1) := by decide +kernel
theorem dL_tells_18 : decode cL_tells 18 = .ok (.bipush 24, 2) := by decide +kernel
theorem dL_tells_20 : decode cL_tells 20 = .ok (.idiv, 1) := by decide +kernel
theorem dL_tells_21 : decode cL_tells 21 = .ok (.bipush 9, 2) := by decide +kernel
theorem dL_tells_23 : decode cL_tells 23 = .ok (.irem, 1) := by decide +kernel
theorem dL_tells_24 : decode cL_tells 24 = .ok (.istore 5, 2) := by decide +kernel
theorem dL_tells_26 : decode cL_tells 26 = .ok (.aload_n 0, 1) := by decide +kernel
theorem dL_tells_27 : decode cL_tells 27 = .ok (.invokevirtual 213, 3) := by decide +kernel
theorem dL_tells_30 : decode cL_tells 30 = .ok (.ifCond .lt 16, 3) := by decide +kernel
theorem dL_tells_33 : decode cL_tells 33 = .ok (.aload_n 0, 1) := by decide +kernel
theorem dL_tells_34 : decode cL_tells 34 = .ok (.bipush 67, 2) := by decide +kernel
theorem dL_tells_36 : decode cL_tells 36 = .ok (.invokestatic 209, 3) := by decide +kernel
theorem dL_tells_39 : decode cL_tells 39 = .ok (.ifCond .eq 7, 3) := by decide +kernel
theorem dL_tells_42 : decode cL_tells 42 = .ok (.iconst 1, 1) := by decide +kernel
theorem dL_tells_43 : decode cL_tells 43 = .ok (.goto 4, 3) := by decide +kernel
theorem dL_tells_46 : decode cL_tells 46 = .ok (.iconst 0, 1) := by decide +kernel
theorem dL_tells_47 : decode cL_tells 47 = .ok (.istore 6, 2) := by decide +kernel
theorem dL_tells_49 : decode cL_tells 49 = .ok (.iconst 0, 1) := by decide +kernel
theorem dL_tells_50 : decode cL_tells 50 = .ok (.istore 7, 2) := by decide +kernel
theorem dL_tells_52 : decode cL_tells 52 = .ok (.iload 7, 2) := by decide +kernel
theorem dL_tells_54 : decode cL_tells 54 = .ok (.iload_n 3, 1) := by decide +kernel
theorem dL_tells_55 : decode cL_tells 55 = .ok (.if_icmp .ge 57, 3) := by decide +kernel
theorem dL_tells_58 : decode cL_tells 58 = .ok (.iload 6, 2) := by decide +kernel
theorem dL_tells_60 : decode cL_tells 60 = .ok (.ifCond .eq 52, 3) := by decide +kernel
theorem dL_tells_63 : decode cL_tells 63 = .ok (.aload_n 0, 1) := by decide +kernel
theorem dL_tells_64 : decode cL_tells 64 = .ok (.bipush 109, 2) := by decide +kernel
theorem dL_tells_66 : decode cL_tells 66 = .ok (.invokestatic 209, 3) := by decide +kernel
theorem dL_tells_69 : decode cL_tells 69 = .ok (.ifCond .eq 34, 3) := by decide +kernel
theorem dL_tells_72 : decode cL_tells 72 = .ok (.aload_n 0, 1) := by decide +kernel
theorem dL_tells_73 : decode cL_tells 73 = .ok (.bipush 48, 2) := by decide +kernel
theorem dL_tells_75 : decode cL_tells 75 = .ok (.invokestatic 209, 3) := by decide +kernel
theorem dL_tells_78 : decode cL_tells 78 = .ok (.ifCond .eq 25, 3) := by decide +kernel
theorem dL_tells_81 : decode cL_tells 81 = .ok (.aload_n 0, 1) := by decide +kernel
theorem dL_tells_82 : decode cL_tells 82 = .ok (.iload_n 1, 1) := by decide +kernel
theorem dL_tells_83 : decode cL_tells 83 = .ok (.iload 7, 2) := by decide +kernel
theorem dL_tells_85 : decode cL_tells 85 = .ok (.ishr, 1) := by decide +kernel
theorem dL_tells_86 : decode cL_tells 86 = .ok (.sipush 255, 3) := by decide +kernel
theorem dL_tells_89 : decode cL_tells 89 = .ok (.iand, 1) := by decide +kernel
theorem dL_tells_90 : decode cL_tells 90 = .ok (.bipush 60, 2) := by decide +kernel
theorem dL_tells_92 : decode cL_tells 92 = .ok (.irem, 1) := by decide +kernel
theorem dL_tells_93 : decode cL_tells 93 = .ok (.invokestatic 216, 3) := by decide +kernel
theorem dL_tells_96 : decode cL_tells 96 = .ok (.ifCond .eq 7, 3) := by decide +kernel
theorem dL_tells_99 : decode cL_tells 99 = .ok (.iconst 1, 1) := by decide +kernel
theorem dL_tells_100 : decode cL_tells 100 = .ok (.goto 4, 3) := by decide +kernel
theorem dL_tells_103 : decode cL_tells 103 = .ok (.iconst 0, 1) := by decide +kernel
theorem dL_tells_104 : decode cL_tells 104 = .ok (.istore 6, 2) := by decide +kernel
theorem dL_tells_106 : decode cL_tells 106 = .ok (.iinc 7 1, 3) := by decide +kernel
theorem dL_tells_109 : decode cL_tells 109 = .ok (.goto (-57), 3) := by decide +kernel
theorem dL_tells_112 : decode cL_tells 112 = .ok (.iconst 0, 1) := by decide +kernel
theorem dL_tells_113 : decode cL_tells 113 = .ok (.istore 7, 2) := by decide +kernel
theorem dL_tells_115 : decode cL_tells 115 = .ok (.iload 7, 2) := by decide +kernel
theorem dL_tells_117 : decode cL_tells 117 = .ok (.iload 4, 2) := by decide +kernel
theorem dL_tells_119 : decode cL_tells 119 = .ok (.if_icmp .ge 68, 3) := by decide +kernel
theorem dL_tells_122 : decode cL_tells 122 = .ok (.iload 6, 2) := by decide +kernel
theorem dL_tells_124 : decode cL_tells 124 = .ok (.ifCond .eq 63, 3) := by decide +kernel
theorem dL_tells_127 : decode cL_tells 127 = .ok (.aload_n 0, 1) := by decide +kernel
theorem dL_tells_128 : decode cL_tells 128 = .ok (.bipush 119, 2) := by decide +kernel
theorem dL_tells_130 : decode cL_tells 130 = .ok (.invokestatic 209, 3) := by decide +kernel
theorem dL_tells_133 : decode cL_tells 133 = .ok (.ifCond .eq 45, 3) := by decide +kernel
theorem dL_tells_136 : decode cL_tells 136 = .ok (.aload_n 0, 1) := by decide +kernel
theorem dL_tells_137 : decode cL_tells 137 = .ok (.iconst 1, 1) := by decide +kernel
theorem dL_tells_138 : decode cL_tells 138 = .ok (.iload_n 1, 1) := by decide +kernel
theorem dL_tells_139 : decode cL_tells 139 = .ok (.iconst 2, 1) := by decide +kernel
theorem dL_tells_140 : decode cL_tells 140 = .ok (.iload 7, 2) := by decide +kernel
theorem dL_tells_142 : decode cL_tells 142 = .ok (.imul, 1) := by decide +kernel
theorem dL_tells_143 : decode cL_tells 143 = .ok (.ishr, 1) := by decide +kernel
theorem dL_tells_144 : decode cL_tells 144 = .ok (.bipush 63, 2) := by decide +kernel
theorem dL_tells_146 : decode cL_tells 146 = .ok (.iand, 1) := by decide +kernel
theorem dL_tells_147 : decode cL_tells 147 = .ok (.iadd, 1) := by decide +kernel
theorem dL_tells_148 : decode cL_tells 148 = .ok (.invokestatic 216, 3) := by decide +kernel
theorem dL_tells_151 : decode cL_tells 151 = .ok (.ifCond .eq 27, 3) := by decide +kernel
theorem dL_tells_154 : decode cL_tells 154 = .ok (.aload_n 0, 1) := by decide +kernel
theorem dL_tells_155 : decode cL_tells 155 = .ok (.iload_n 1, 1) := by decide +kernel
theorem dL_tells_156 : decode cL_tells 156 = .ok (.iconst 3, 1) := by decide +kernel
theorem dL_tells_157 : decode cL_tells 157 = .ok (.iload 7, 2) := by decide +kernel
theorem dL_tells_159 : decode cL_tells 159 = .ok (.imul, 1) := by decide +kernel
theorem dL_tells_160 : decode cL_tells 160 = .ok (.ishr, 1) := by decide +kernel
theorem dL_tells_161 : decode cL_tells 161 = .ok (.sipush 255, 3) := by decide +kernel
theorem dL_tells_164 : decode cL_tells 164 = .ok (.iand, 1) := by decide +kernel
theorem dL_tells_165 : decode cL_tells 165 = .ok (.bipush 30, 2) := by decide +kernel
theorem dL_tells_167 : decode cL_tells 167 = .ok (.irem, 1) := by decide +kernel
theorem dL_tells_168 : decode cL_tells 168 = .ok (.invokestatic 216, 3) := by decide +kernel
theorem dL_tells_171 : decode cL_tells 171 = .ok (.ifCond .eq 7, 3) := by decide +kernel
theorem dL_tells_174 : decode cL_tells 174 = .ok (.iconst 1, 1) := by decide +kernel
theorem dL_tells_175 : decode cL_tells 175 = .ok (.goto 4, 3) := by decide +kernel
theorem dL_tells_178 : decode cL_tells 178 = .ok (.iconst 0, 1) := by decide +kernel
theorem dL_tells_179 : decode cL_tells 179 = .ok (.istore 6, 2) := by decide +kernel
theorem dL_tells_181 : decode cL_tells 181 = .ok (.iinc 7 1, 3) := by decide +kernel
theorem dL_tells_184 : decode cL_tells 184 = .ok (.goto (-69), 3) := by decide +kernel
theorem dL_tells_187 : decode cL_tells 187 = .ok (.iconst 0, 1) := by decide +kernel
theorem dL_tells_188 : decode cL_tells 188 = .ok (.istore 7, 2) := by decide +kernel
theorem dL_tells_190 : decode cL_tells 190 = .ok (.iload 7, 2) := by decide +kernel
theorem dL_tells_192 : decode cL_tells 192 = .ok (.iload 5, 2) := by decide +kernel
theorem dL_tells_194 : decode cL_tells 194 = .ok (.if_icmp .ge 50, 3) := by decide +kernel
theorem dL_tells_197 : decode cL_tells 197 = .ok (.iload 6, 2) := by decide +kernel
theorem dL_tells_199 : decode cL_tells 199 = .ok (.ifCond .eq 45, 3) := by decide +kernel
theorem dL_tells_202 : decode cL_tells 202 = .ok (.aload_n 0, 1) := by decide +kernel
theorem dL_tells_203 : decode cL_tells 203 = .ok (.bipush 98, 2) := by decide +kernel
theorem dL_tells_205 : decode cL_tells 205 = .ok (.invokestatic 209, 3) := by decide +kernel
theorem dL_tells_208 : decode cL_tells 208 = .ok (.ifCond .eq 27, 3) := by decide +kernel
theorem dL_tells_211 : decode cL_tells 211 = .ok (.aload_n 0, 1) := by decide +kernel
theorem dL_tells_212 : decode cL_tells 212 = .ok (.iconst 1, 1) := by decide +kernel
theorem dL_tells_213 : decode cL_tells 213 = .ok (.iload_n 1, 1) := by decide +kernel
theorem dL_tells_214 : decode cL_tells 214 = .ok (.iload 7, 2) := by decide +kernel
theorem dL_tells_216 : decode cL_tells 216 = .ok (.ishr, 1) := by decide +kernel
theorem dL_tells_217 : decode cL_tells 217 = .ok (.sipush 255, 3) := by decide +kernel
theorem dL_tells_220 : decode cL_tells 220 = .ok (.iand, 1) := by decide +kernel
theorem dL_tells_221 : decode cL_tells 221 = .ok (.bipush 24, 2) := by decide +kernel
theorem dL_tells_223 : decode cL_tells 223 = .ok (.irem, 1) := by decide +kernel
theorem dL_tells_224 : decode cL_tells 224 = .ok (.iadd, 1) := by decide +kernel
theorem dL_tells_225 : decode cL_tells 225 = .ok (.invokestatic 216, 3) := by decide +kernel
theorem dL_tells_228 : decode cL_tells 228 = .ok (.ifCond .eq 7, 3) := by decide +kernel
theorem dL_tells_231 : decode cL_tells 231 = .ok (.iconst 1, 1) := by decide +kernel
theorem dL_tells_232 : decode cL_tells 232 = .ok (.goto 4, 3) := by decide +kernel
theorem dL_tells_235 : decode cL_tells 235 = .ok (.iconst 0, 1) := by decide +kernel
theorem dL_tells_236 : decode cL_tells 236 = .ok (.istore 6, 2) := by decide +kernel
theorem dL_tells_238 : decode cL_tells 238 = .ok (.iinc 7 1, 3) := by decide +kernel
theorem dL_tells_241 : decode cL_tells 241 = .ok (.goto (-51), 3) := by decide +kernel
theorem dL_tells_244 : decode cL_tells 244 = .ok (.iconst 0, 1) := by decide +kernel
theorem dL_tells_245 : decode cL_tells 245 = .ok (.istore 7, 2) := by decide +kernel
theorem dL_tells_247 : decode cL_tells 247 = .ok (.iload 7, 2) := by decide +kernel
theorem dL_tells_249 : decode cL_tells 249 = .ok (.bipush 6, 2) := by decide +kernel
theorem dL_tells_251 : decode cL_tells 251 = .ok (.if_icmp .ge 91, 3) := by decide +kernel
theorem dL_tells_254 : decode cL_tells 254 = .ok (.iload 6, 2) := by decide +kernel
theorem dL_tells_256 : decode cL_tells 256 = .ok (.ifCond .eq 86, 3) := by decide +kernel
theorem dL_tells_259 : decode cL_tells 259 = .ok (.aload_n 0, 1) := by decide +kernel
theorem dL_tells_260 : decode cL_tells 260 = .ok (.bipush 111, 2) := by decide +kernel
theorem dL_tells_262 : decode cL_tells 262 = .ok (.invokestatic 209, 3) := by decide +kernel
theorem dL_tells_265 : decode cL_tells 265 = .ok (.ifCond .eq 68, 3) := by decide +kernel
theorem dL_tells_268 : decode cL_tells 268 = .ok (.aload_n 0, 1) := by decide +kernel
theorem dL_tells_269 : decode cL_tells 269 = .ok (.bipush 48, 2) := by decide +kernel
theorem dL_tells_271 : decode cL_tells 271 = .ok (.iload_n 1, 1) := by decide +kernel
theorem dL_tells_272 : decode cL_tells 272 = .ok (.iload 7, 2) := by decide +kernel
theorem dL_tells_274 : decode cL_tells 274 = .ok (.ishr, 1) := by decide +kernel
theorem dL_tells_275 : decode cL_tells 275 = .ok (.sipush 255, 3) := by decide +kernel
theorem dL_tells_278 : decode cL_tells 278 = .ok (.iand, 1) := by decide +kernel
theorem dL_tells_279 : decode cL_tells 279 = .ok (.iload_n 3, 1) := by decide +kernel
theorem dL_tells_280 : decode cL_tells 280 = .ok (.irem, 1) := by decide +kernel
theorem dL_tells_281 : decode cL_tells 281 = .ok (.iadd, 1) := by decide +kernel
theorem dL_tells_282 : decode cL_tells 282 = .ok (.invokestatic 209, 3) := by decide +kernel
theorem dL_tells_285 : decode cL_tells 285 = .ok (.ifCond .eq 48, 3) := by decide +kernel
theorem dL_tells_288 : decode cL_tells 288 = .ok (.aload_n 0, 1) := by decide +kernel
theorem dL_tells_289 : decode cL_tells 289 = .ok (.bipush 48, 2) := by decide +kernel
theorem dL_tells_291 : decode cL_tells 291 = .ok (.iload_n 2, 1) := by decide +kernel
theorem dL_tells_292 : decode cL_tells 292 = .ok (.iload 7, 2) := by decide +kernel
theorem dL_tells_294 : decode cL_tells 294 = .ok (.ishr, 1) := by decide +kernel
theorem dL_tells_295 : decode cL_tells 295 = .ok (.sipush 255, 3) := by decide +kernel
theorem dL_tells_298 : decode cL_tells 298 = .ok (.iand, 1) := by decide +kernel
theorem dL_tells_299 : decode cL_tells 299 = .ok (.iload 4, 2) := by decide +kernel
theorem dL_tells_301 : decode cL_tells 301 = .ok (.irem, 1) := by decide +kernel
theorem dL_tells_302 : decode cL_tells 302 = .ok (.iadd, 1) := by decide +kernel
theorem dL_tells_303 : decode cL_tells 303 = .ok (.invokestatic 209, 3) := by decide +kernel
theorem dL_tells_306 : decode cL_tells 306 = .ok (.ifCond .eq 27, 3) := by decide +kernel
theorem dL_tells_309 : decode cL_tells 309 = .ok (.aload_n 0, 1) := by decide +kernel
theorem dL_tells_310 : decode cL_tells 310 = .ok (.iload_n 1, 1) := by decide +kernel
theorem dL_tells_311 : decode cL_tells 311 = .ok (.iload 7, 2) := by decide +kernel
theorem dL_tells_313 : decode cL_tells 313 = .ok (.iconst 3, 1) := by decide +kernel
theorem dL_tells_314 : decode cL_tells 314 = .ok (.iadd, 1) := by decide +kernel
theorem dL_tells_315 : decode cL_tells 315 = .ok (.ishr, 1) := by decide +kernel
theorem dL_tells_316 : decode cL_tells 316 = .ok (.sipush 255, 3) := by decide +kernel
theorem dL_tells_319 : decode cL_tells 319 = .ok (.iand, 1) := by decide +kernel
theorem dL_tells_320 : decode cL_tells 320 = .ok (.bipush 21, 2) := by decide +kernel
theorem dL_tells_322 : decode cL_tells 322 = .ok (.irem, 1) := by decide +kernel
theorem dL_tells_323 : decode cL_tells 323 = .ok (.invokestatic 216, 3) := by decide +kernel
theorem dL_tells_326 : decode cL_tells 326 = .ok (.ifCond .eq 7, 3) := by decide +kernel
theorem dL_tells_329 : decode cL_tells 329 = .ok (.iconst 1, 1) := by decide +kernel
theorem dL_tells_330 : decode cL_tells 330 = .ok (.goto 4, 3) := by decide +kernel
theorem dL_tells_333 : decode cL_tells 333 = .ok (.iconst 0, 1) := by decide +kernel
theorem dL_tells_334 : decode cL_tells 334 = .ok (.istore 6, 2) := by decide +kernel
theorem dL_tells_336 : decode cL_tells 336 = .ok (.iinc 7 1, 3) := by decide +kernel
theorem dL_tells_339 : decode cL_tells 339 = .ok (.goto (-92), 3) := by decide +kernel
theorem dL_tells_342 : decode cL_tells 342 = .ok (.iload 6, 2) := by decide +kernel
theorem dL_tells_344 : decode cL_tells 344 = .ok (.ifCond .eq 16, 3) := by decide +kernel
theorem dL_tells_347 : decode cL_tells 347 = .ok (.aload_n 0, 1) := by decide +kernel
theorem dL_tells_348 : decode cL_tells 348 = .ok (.invokevirtual 202, 3) := by decide +kernel
theorem dL_tells_351 : decode cL_tells 351 = .ok (.ldc 219, 2) := by decide +kernel
theorem dL_tells_353 : decode cL_tells 353 = .ok (.if_icmp .ne 7, 3) := by decide +kernel
theorem dL_tells_356 : decode cL_tells 356 = .ok (.iconst 1, 1) := by decide +kernel
theorem dL_tells_357 : decode cL_tells 357 = .ok (.goto 4, 3) := by decide +kernel
theorem dL_tells_360 : decode cL_tells 360 = .ok (.iconst 0, 1) := by decide +kernel
theorem dL_tells_361 : decode cL_tells 361 = .ok (.ireturn, 1) := by decide +kernel
theorem dL_act_0 : decode cL_act 0 = .ok (.iload_n 2, 1) := by decide +kernel
theorem dL_act_1 : decode cL_act 1 = .ok (.bipush 6, 2) := by decide +kernel
theorem dL_act_3 : decode cL_act 3 = .ok (.irem, 1) := by decide +kernel
theorem dL_act_4 : decode cL_act 4 = .ok (.istore_n 3, 1) := by decide +kernel
theorem dL_act_5 : decode cL_act 5 = .ok (.iload_n 2, 1) := by decide +kernel
theorem dL_act_6 : decode cL_act 6 = .ok (.bipush 6, 2) := by decide +kernel
theorem dL_act_8 : decode cL_act 8 = .ok (.idiv, 1) := by decide +kernel
theorem dL_act_9 : decode cL_act 9 = .ok (.bipush 6, 2) := by decide +kernel
theorem dL_act_11 : decode cL_act 11 = .ok (.irem, 1) := by decide +kernel
theorem dL_act_12 : decode cL_act 12 = .ok (.istore 4, 2) := by decide +kernel
theorem dL_act_14 : decode cL_act 14 = .ok (.aload_n 0, 1) := by decide +kernel
theorem dL_act_15 : decode cL_act 15 = .ok (.iconst 0, 1) := by decide +kernel
theorem dL_act_16 : decode cL_act 16 = .ok (.invokestatic 112, 3) := by decide +kernel
theorem dL_act_19 : decode cL_act 19 = .ok (.lconst 0, 1) := by decide +kernel
theorem dL_act_20 : decode cL_act 20 = .ok (.lcmp, 1) := by decide +kernel
theorem dL_act_21 : decode cL_act 21 = .ok (.ifCond .ne 7, 3) := by decide +kernel
theorem dL_act_24 : decode cL_act 24 = .ok (.iload_n 3, 1) := by decide +kernel
theorem dL_act_25 : decode cL_act 25 = .ok (.goto 11, 3) := by decide +kernel
theorem dL_act_28 : decode cL_act 28 = .ok (.iload_n 3, 1) := by decide +kernel
theorem dL_act_29 : decode cL_act 29 = .ok (.aload_n 0, 1) := by decide +kernel
theorem dL_act_30 : decode cL_act 30 = .ok (.iconst 0, 1) := by decide +kernel
theorem dL_act_31 : decode cL_act 31 = .ok (.invokestatic 112, 3) := by decide +kernel
theorem dL_act_34 : decode cL_act 34 = .ok (.l2i, 1) := by decide +kernel
theorem dL_act_35 : decode cL_act 35 = .ok (.irem, 1) := by decide +kernel
theorem dL_act_36 : decode cL_act 36 = .ok (.istore 5, 2) := by decide +kernel
theorem dL_act_38 : decode cL_act 38 = .ok (.aload_n 0, 1) := by decide +kernel
theorem dL_act_39 : decode cL_act 39 = .ok (.iconst 1, 1) := by decide +kernel
theorem dL_act_40 : decode cL_act 40 = .ok (.invokestatic 112, 3) := by decide +kernel
theorem dL_act_43 : decode cL_act 43 = .ok (.lconst 0, 1) := by decide +kernel
theorem dL_act_44 : decode cL_act 44 = .ok (.lcmp, 1) := by decide +kernel
theorem dL_act_45 : decode cL_act 45 = .ok (.ifCond .ne 8, 3) := by decide +kernel
theorem dL_act_48 : decode cL_act 48 = .ok (.iload 4, 2) := by decide +kernel
theorem dL_act_50 : decode cL_act 50 = .ok (.goto 12, 3) := by decide +kernel
theorem dL_act_53 : decode cL_act 53 = .ok (.iload 4, 2) := by decide +kernel
theorem dL_act_55 : decode cL_act 55 = .ok (.aload_n 0, 1) := by decide +kernel
theorem dL_act_56 : decode cL_act 56 = .ok (.iconst 1, 1) := by decide +kernel
theorem dL_act_57 : decode cL_act 57 = .ok (.invokestatic 112, 3) := by decide +kernel
theorem dL_act_60 : decode cL_act 60 = .ok (.l2i, 1) := by decide +kernel
theorem dL_act_61 : decode cL_act 61 = .ok (.irem, 1) := by decide +kernel
theorem dL_act_62 : decode cL_act 62 = .ok (.istore 6, 2) := by decide +kernel
theorem dL_act_64 : decode cL_act 64 = .ok (.iload_n 2, 1) := by decide +kernel
theorem dL_act_65 : decode cL_act 65 = .ok (.bipush 36, 2) := by decide +kernel
theorem dL_act_67 : decode cL_act 67 = .ok (.idiv, 1) := by decide +kernel
theorem dL_act_68 : decode cL_act 68 = .ok (.istore 7, 2) := by decide +kernel
theorem dL_act_70 : decode cL_act 70 = .ok (.iload_n 1, 1) := by decide +kernel
theorem dL_act_71 : decode cL_act 71 = .ok (.bipush 24, 2) := by decide +kernel
theorem dL_act_73 : decode cL_act 73 = .ok (.irem, 1) := by decide +kernel
theorem dL_act_74 : decode cL_act 74 = .ok (.tableswitch 263 0 22 #[106, 117, 137, 137, 149, 149, 149, 163, 163, 163, 170, 170, 170, 170, 177, 177, 177, 192, 192, 215, 224, 251, 258], 106) := by decide +kernel
theorem dL_act_180 : decode cL_act 180 = .ok (.aload_n 0, 1) := by decide +kernel
theorem dL_act_181 : decode cL_act 181 = .ok (.iload 7, 2) := by decide +kernel
theorem dL_act_183 : decode cL_act 183 = .ok (.sipush 200, 3) := by decide +kernel
theorem dL_act_186 : decode cL_act 186 = .ok (.irem, 1) := by decide +kernel
theorem dL_act_187 : decode cL_act 187 = .ok (.invokestatic 144, 3) := by decide +kernel
theorem dL_act_190 : decode cL_act 190 = .ok (.lreturn, 1) := by decide +kernel
theorem dL_act_191 : decode cL_act 191 = .ok (.aload_n 0, 1) := by decide +kernel
theorem dL_act_192 : decode cL_act 192 = .ok (.iconst 1, 1) := by decide +kernel
theorem dL_act_193 : decode cL_act 193 = .ok (.iload 7, 2) := by decide +kernel
theorem dL_act_195 : decode cL_act 195 = .ok (.bipush 99, 2) := by decide +kernel
theorem dL_act_197 : decode cL_act 197 = .ok (.irem, 1) := by decide +kernel
theorem dL_act_198 : decode cL_act 198 = .ok (.iadd, 1) := by decide +kernel
theorem dL_act_199 : decode cL_act 199 = .ok (.iload 7, 2) := by decide +kernel
theorem dL_act_201 : decode cL_act 201 = .ok (.bipush 99, 2) := by decide +kernel
theorem dL_act_203 : decode cL_act 203 = .ok (.idiv, 1) := by decide +kernel
theorem dL_act_204 : decode cL_act 204 = .ok (.bipush 20, 2) := by decide +kernel
theorem dL_act_206 : decode cL_act 206 = .ok (.irem, 1) := by decide +kernel
theorem dL_act_207 : decode cL_act 207 = .ok (.invokestatic 146, 3) := by decide +kernel
theorem dL_act_210 : decode cL_act 210 = .ok (.lreturn, 1) := by decide +kernel
theorem dL_act_211 : decode cL_act 211 = .ok (.aload_n 0, 1) := by decide +kernel
theorem dL_act_212 : decode cL_act 212 = .ok (.iconst 1, 1) := by decide +kernel
theorem dL_act_213 : decode cL_act 213 = .ok (.iload 7, 2) := by decide +kernel
theorem dL_act_215 : decode cL_act 215 = .ok (.bipush 24, 2) := by decide +kernel
theorem dL_act_217 : decode cL_act 217 = .ok (.irem, 1) := by decide +kernel
theorem dL_act_218 : decode cL_act 218 = .ok (.iadd, 1) := by decide +kernel
theorem dL_act_219 : decode cL_act 219 = .ok (.invokestatic 148, 3) := by decide +kernel
theorem dL_act_222 : decode cL_act 222 = .ok (.lreturn, 1) := by decide +kernel
theorem dL_act_223 : decode cL_act 223 = .ok (.aload_n 0, 1) := by decide +kernel
theorem dL_act_224 : decode cL_act 224 = .ok (.iload 5, 2) := by decide +kernel
theorem dL_act_226 : decode cL_act 226 = .ok (.iload 6, 2) := by decide +kernel
theorem dL_act_228 : decode cL_act 228 = .ok (.iload 7, 2) := by decide +kernel
theorem dL_act_230 : decode cL_act 230 = .ok (.bipush 12, 2) := by decide +kernel
theorem dL_act_232 : decode cL_act 232 = .ok (.irem, 1) := by decide +kernel
theorem dL_act_233 : decode cL_act 233 = .ok (.invokestatic 137, 3) := by decide +kernel
theorem dL_act_236 : decode cL_act 236 = .ok (.lreturn, 1) := by decide +kernel
theorem dL_act_237 : decode cL_act 237 = .ok (.aload_n 0, 1) := by decide +kernel
theorem dL_act_238 : decode cL_act 238 = .ok (.iload 6, 2) := by decide +kernel
theorem dL_act_240 : decode cL_act 240 = .ok (.invokestatic 150, 3) := by decide +kernel
theorem dL_act_243 : decode cL_act 243 = .ok (.lreturn, 1) := by decide +kernel
theorem dL_act_244 : decode cL_act 244 = .ok (.aload_n 0, 1) := by decide +kernel
theorem dL_act_245 : decode cL_act 245 = .ok (.iload 6, 2) := by decide +kernel
theorem dL_act_247 : decode cL_act 247 = .ok (.invokestatic 152, 3) := by decide +kernel
theorem dL_act_250 : decode cL_act 250 = .ok (.lreturn, 1) := by decide +kernel
theorem dL_act_251 : decode cL_act 251 = .ok (.aload_n 0, 1) := by decide +kernel
theorem dL_act_252 : decode cL_act 252 = .ok (.iload 5, 2) := by decide +kernel
theorem dL_act_254 : decode cL_act 254 = .ok (.iload 6, 2) := by decide +kernel
theorem dL_act_256 : decode cL_act 256 = .ok (.iconst 1, 1) := by decide +kernel
theorem dL_act_257 : decode cL_act 257 = .ok (.iload 7, 2) := by decide +kernel
theorem dL_act_259 : decode cL_act 259 = .ok (.iconst 3, 1) := by decide +kernel
theorem dL_act_260 : decode cL_act 260 = .ok (.irem, 1) := by decide +kernel
theorem dL_act_261 : decode cL_act 261 = .ok (.iadd, 1) := by decide +kernel
theorem dL_act_262 : decode cL_act 262 = .ok (.invokestatic 139, 3) := by decide +kernel
theorem dL_act_265 : decode cL_act 265 = .ok (.lreturn, 1) := by decide +kernel
theorem dL_act_266 : decode cL_act 266 = .ok (.aload_n 0, 1) := by decide +kernel
theorem dL_act_267 : decode cL_act 267 = .ok (.iload 5, 2) := by decide +kernel
theorem dL_act_269 : decode cL_act 269 = .ok (.iload 7, 2) := by decide +kernel
theorem dL_act_271 : decode cL_act 271 = .ok (.bipush 6, 2) := by decide +kernel
theorem dL_act_273 : decode cL_act 273 = .ok (.irem, 1) := by decide +kernel
theorem dL_act_274 : decode cL_act 274 = .ok (.iload 6, 2) := by decide +kernel
theorem dL_act_276 : decode cL_act 276 = .ok (.iconst 1, 1) := by decide +kernel
theorem dL_act_277 : decode cL_act 277 = .ok (.iload 7, 2) := by decide +kernel
theorem dL_act_279 : decode cL_act 279 = .ok (.bipush 6, 2) := by decide +kernel
theorem dL_act_281 : decode cL_act 281 = .ok (.idiv, 1) := by decide +kernel
theorem dL_act_282 : decode cL_act 282 = .ok (.iconst 3, 1) := by decide +kernel
theorem dL_act_283 : decode cL_act 283 = .ok (.irem, 1) := by decide +kernel
theorem dL_act_284 : decode cL_act 284 = .ok (.iadd, 1) := by decide +kernel
theorem dL_act_285 : decode cL_act 285 = .ok (.invokestatic 141, 3) := by decide +kernel
theorem dL_act_288 : decode cL_act 288 = .ok (.lreturn, 1) := by decide +kernel
theorem dL_act_289 : decode cL_act 289 = .ok (.aload_n 0, 1) := by decide +kernel
theorem dL_act_290 : decode cL_act 290 = .ok (.iload 5, 2) := by decide +kernel
theorem dL_act_292 : decode cL_act 292 = .ok (.iload 6, 2) := by decide +kernel
theorem dL_act_294 : decode cL_act 294 = .ok (.invokestatic 154, 3) := by decide +kernel
theorem dL_act_297 : decode cL_act 297 = .ok (.lreturn, 1) := by decide +kernel
theorem dL_act_298 : decode cL_act 298 = .ok (.aload_n 0, 1) := by decide +kernel
theorem dL_act_299 : decode cL_act 299 = .ok (.iload 7, 2) := by decide +kernel
theorem dL_act_301 : decode cL_act 301 = .ok (.bipush 8, 2) := by decide +kernel
theorem dL_act_303 : decode cL_act 303 = .ok (.irem, 1) := by decide +kernel
theorem dL_act_304 : decode cL_act 304 = .ok (.iload 7, 2) := by decide +kernel
theorem dL_act_306 : decode cL_act 306 = .ok (.bipush 8, 2) := by decide +kernel
theorem dL_act_308 : decode cL_act 308 = .ok (.idiv, 1) := by decide +kernel
theorem dL_act_309 : decode cL_act 309 = .ok (.bipush 8, 2) := by decide +kernel
theorem dL_act_311 : decode cL_act 311 = .ok (.irem, 1) := by decide +kernel
theorem dL_act_312 : decode cL_act 312 = .ok (.iconst 1, 1) := by decide +kernel
theorem dL_act_313 : decode cL_act 313 = .ok (.iload 7, 2) := by decide +kernel
theorem dL_act_315 : decode cL_act 315 = .ok (.bipush 64, 2) := by decide +kernel
theorem dL_act_317 : decode cL_act 317 = .ok (.idiv, 1) := by decide +kernel
theorem dL_act_318 : decode cL_act 318 = .ok (.iconst 4, 1) := by decide +kernel
theorem dL_act_319 : decode cL_act 319 = .ok (.irem, 1) := by decide +kernel
theorem dL_act_320 : decode cL_act 320 = .ok (.iadd, 1) := by decide +kernel
theorem dL_act_321 : decode cL_act 321 = .ok (.invokestatic 135, 3) := by decide +kernel
theorem dL_act_324 : decode cL_act 324 = .ok (.lreturn, 1) := by decide +kernel
theorem dL_act_325 : decode cL_act 325 = .ok (.aload_n 0, 1) := by decide +kernel
theorem dL_act_326 : decode cL_act 326 = .ok (.iload 5, 2) := by decide +kernel
theorem dL_act_328 : decode cL_act 328 = .ok (.invokestatic 156, 3) := by decide +kernel
theorem dL_act_331 : decode cL_act 331 = .ok (.lreturn, 1) := by decide +kernel
theorem dL_act_332 : decode cL_act 332 = .ok (.aload_n 0, 1) := by decide +kernel
theorem dL_act_333 : decode cL_act 333 = .ok (.invokestatic 198, 3) := by decide +kernel
theorem dL_act_336 : decode cL_act 336 = .ok (.lreturn, 1) := by decide +kernel
theorem dL_act_337 : decode cL_act 337 = .ok (.iload 7, 2) := by decide +kernel
theorem dL_act_339 : decode cL_act 339 = .ok (.iconst 2, 1) := by decide +kernel
theorem dL_act_340 : decode cL_act 340 = .ok (.irem, 1) := by decide +kernel
theorem dL_act_341 : decode cL_act 341 = .ok (.ifCond .ne 16, 3) := by decide +kernel
theorem dL_act_344 : decode cL_act 344 = .ok (.aload_n 0, 1) := by decide +kernel
theorem dL_act_345 : decode cL_act 345 = .ok (.iload 7, 2) := by decide +kernel
theorem dL_act_347 : decode cL_act 347 = .ok (.iconst 2, 1) := by decide +kernel
theorem dL_act_348 : decode cL_act 348 = .ok (.idiv, 1) := by decide +kernel
theorem dL_act_349 : decode cL_act 349 = .ok (.iconst 1, 1) := by decide +kernel
theorem dL_act_350 : decode cL_act 350 = .ok (.iand, 1) := by decide +kernel
theorem dL_act_351 : decode cL_act 351 = .ok (.invokestatic 177, 3) := by decide +kernel
theorem dL_act_354 : decode cL_act 354 = .ok (.goto 13, 3) := by decide +kernel
theorem dL_act_357 : decode cL_act 357 = .ok (.aload_n 0, 1) := by decide +kernel
theorem dL_act_358 : decode cL_act 358 = .ok (.iload 7, 2) := by decide +kernel
theorem dL_act_360 : decode cL_act 360 = .ok (.iconst 2, 1) := by decide +kernel
theorem dL_act_361 : decode cL_act 361 = .ok (.idiv, 1) := by decide +kernel
theorem dL_act_362 : decode cL_act 362 = .ok (.iconst 1, 1) := by decide +kernel
theorem dL_act_363 : decode cL_act 363 = .ok (.iand, 1) := by decide +kernel
theorem dL_act_364 : decode cL_act 364 = .ok (.invokestatic 179, 3) := by decide +kernel
theorem dL_act_367 : decode cL_act 367 = .ok (.lreturn, 1) := by decide +kernel

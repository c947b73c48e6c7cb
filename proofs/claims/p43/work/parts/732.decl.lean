theorem dL_law_0 : decode cL_law 0 = .ok (.new 34, 3) := by decide +kernel
theorem dL_law_3 : decode cL_law 3 = .ok (.dup, 1) := by decide +kernel
theorem dL_law_4 : decode cL_law 4 = .ok (.invokespecial 89, 3) := by decide +kernel
theorem dL_law_7 : decode cL_law 7 = .ok (.astore_n 1, 1) := by decide +kernel
theorem dL_law_8 : decode cL_law 8 = .ok (.aload_n 1, 1) := by decide +kernel
theorem dL_law_9 : decode cL_law 9 = .ok (.aload_n 0, 1) := by decide +kernel
theorem dL_law_10 : decode cL_law 10 = .ok (.invokestatic 90, 3) := by decide +kernel
theorem dL_law_13 : decode cL_law 13 = .ok (.astore_n 2, 1) := by decide +kernel
theorem dL_law_14 : decode cL_law 14 = .ok (.aload_n 2, 1) := by decide +kernel
theorem dL_law_15 : decode cL_law 15 = .ok (.ifnonnull 5, 3) := by decide +kernel
theorem dL_law_18 : decode cL_law 18 = .ok (.iconst 0, 1) := by decide +kernel
theorem dL_law_19 : decode cL_law 19 = .ok (.ireturn, 1) := by decide +kernel
theorem dL_law_20 : decode cL_law 20 = .ok (.iconst 0, 1) := by decide +kernel
theorem dL_law_21 : decode cL_law 21 = .ok (.istore_n 3, 1) := by decide +kernel
theorem dL_law_22 : decode cL_law 22 = .ok (.iload_n 3, 1) := by decide +kernel
theorem dL_law_23 : decode cL_law 23 = .ok (.bipush 36, 2) := by decide +kernel
theorem dL_law_25 : decode cL_law 25 = .ok (.if_icmp .ge 969, 3) := by decide +kernel
theorem dL_law_28 : decode cL_law 28 = .ok (.aload_n 0, 1) := by decide +kernel
theorem dL_law_29 : decode cL_law 29 = .ok (.iload_n 3, 1) := by decide +kernel
theorem dL_law_30 : decode cL_law 30 = .ok (.bipush 16, 2) := by decide +kernel
theorem dL_law_32 : decode cL_law 32 = .ok (.irem, 1) := by decide +kernel
theorem dL_law_33 : decode cL_law 33 = .ok (.invokestatic 81, 3) := by decide +kernel
theorem dL_law_36 : decode cL_law 36 = .ok (.iload_n 3, 1) := by decide +kernel
theorem dL_law_37 : decode cL_law 37 = .ok (.bipush 16, 2) := by decide +kernel
theorem dL_law_39 : decode cL_law 39 = .ok (.idiv, 1) := by decide +kernel
theorem dL_law_40 : decode cL_law 40 = .ok (.iconst 3, 1) := by decide +kernel
theorem dL_law_41 : decode cL_law 41 = .ok (.imul, 1) := by decide +kernel
theorem dL_law_42 : decode cL_law 42 = .ok (.ishr, 1) := by decide +kernel
theorem dL_law_43 : decode cL_law 43 = .ok (.sipush 701, 3) := by decide +kernel
theorem dL_law_46 : decode cL_law 46 = .ok (.iload_n 3, 1) := by decide +kernel
theorem dL_law_47 : decode cL_law 47 = .ok (.imul, 1) := by decide +kernel
theorem dL_law_48 : decode cL_law 48 = .ok (.iadd, 1) := by decide +kernel
theorem dL_law_49 : decode cL_law 49 = .ok (.istore 4, 2) := by decide +kernel
theorem dL_law_51 : decode cL_law 51 = .ok (.aload_n 1, 1) := by decide +kernel
theorem dL_law_52 : decode cL_law 52 = .ok (.aload_n 2, 1) := by decide +kernel
theorem dL_law_53 : decode cL_law 53 = .ok (.iload 4, 2) := by decide +kernel
theorem dL_law_55 : decode cL_law 55 = .ok (.invokestatic 85, 3) := by decide +kernel
theorem dL_law_58 : decode cL_law 58 = .ok (.ifCond .ne 5, 3) := by decide +kernel
theorem dL_law_61 : decode cL_law 61 = .ok (.iconst 0, 1) := by decide +kernel
theorem dL_law_62 : decode cL_law 62 = .ok (.ireturn, 1) := by decide +kernel
theorem dL_law_63 : decode cL_law 63 = .ok (.aload_n 1, 1) := by decide +kernel
theorem dL_law_64 : decode cL_law 64 = .ok (.invokevirtual 94, 3) := by decide +kernel
theorem dL_law_67 : decode cL_law 67 = .ok (.istore 5, 2) := by decide +kernel
theorem dL_law_69 : decode cL_law 69 = .ok (.aload_n 1, 1) := by decide +kernel
theorem dL_law_70 : decode cL_law 70 = .ok (.invokevirtual 97, 3) := by decide +kernel
theorem dL_law_73 : decode cL_law 73 = .ok (.istore 6, 2) := by decide +kernel
theorem dL_law_75 : decode cL_law 75 = .ok (.aload_n 1, 1) := by decide +kernel
theorem dL_law_76 : decode cL_law 76 = .ok (.invokevirtual 100, 3) := by decide +kernel
theorem dL_law_79 : decode cL_law 79 = .ok (.istore 7, 2) := by decide +kernel
theorem dL_law_81 : decode cL_law 81 = .ok (.aload_n 1, 1) := by decide +kernel
theorem dL_law_82 : decode cL_law 82 = .ok (.invokevirtual 103, 3) := by decide +kernel
theorem dL_law_85 : decode cL_law 85 = .ok (.istore 8, 2) := by decide +kernel
theorem dL_law_87 : decode cL_law 87 = .ok (.iload 5, 2) := by decide +kernel
theorem dL_law_89 : decode cL_law 89 = .ok (.ifCond .lt 92, 3) := by decide +kernel
theorem dL_law_92 : decode cL_law 92 = .ok (.iload 5, 2) := by decide +kernel
theorem dL_law_94 : decode cL_law 94 = .ok (.bipush 48, 2) := by decide +kernel
theorem dL_law_96 : decode cL_law 96 = .ok (.if_icmp .gt 85, 3) := by decide +kernel
theorem dL_law_99 : decode cL_law 99 = .ok (.iload 5, 2) := by decide +kernel
theorem dL_law_101 : decode cL_law 101 = .ok (.aload_n 1, 1) := by decide +kernel
theorem dL_law_102 : decode cL_law 102 = .ok (.invokevirtual 105, 3) := by decide +kernel
theorem dL_law_105 : decode cL_law 105 = .ok (.iadd, 1) := by decide +kernel
theorem dL_law_106 : decode cL_law 106 = .ok (.iload 6, 2) := by decide +kernel
theorem dL_law_108 : decode cL_law 108 = .ok (.if_icmp .ne 73, 3) := by decide +kernel
theorem dL_law_111 : decode cL_law 111 = .ok (.iload 7, 2) := by decide +kernel
theorem dL_law_113 : decode cL_law 113 = .ok (.ifCond .ge 7, 3) := by decide +kernel
theorem dL_law_116 : decode cL_law 116 = .ok (.iconst 1, 1) := by decide +kernel
theorem dL_law_117 : decode cL_law 117 = .ok (.goto 4, 3) := by decide +kernel
theorem dL_law_120 : decode cL_law 120 = .ok (.iconst 0, 1) := by decide +kernel
theorem dL_law_121 : decode cL_law 121 = .ok (.iload 5, 2) := by decide +kernel
theorem dL_law_123 : decode cL_law 123 = .ok (.ifCond .ne 7, 3) := by decide +kernel
theorem dL_law_126 : decode cL_law 126 = .ok (.iconst 1, 1) := by decide +kernel
theorem dL_law_127 : decode cL_law 127 = .ok (.goto 4, 3) := by decide +kernel
theorem dL_law_130 : decode cL_law 130 = .ok (.iconst 0, 1) := by decide +kernel
theorem dL_law_131 : decode cL_law 131 = .ok (.if_icmp .ne 50, 3) := by decide +kernel
theorem dL_law_134 : decode cL_law 134 = .ok (.iload 5, 2) := by decide +kernel
theorem dL_law_136 : decode cL_law 136 = .ok (.ifCond .le 28, 3) := by decide +kernel
theorem dL_law_139 : decode cL_law 139 = .ok (.iload 7, 2) := by decide +kernel
theorem dL_law_141 : decode cL_law 141 = .ok (.iload 6, 2) := by decide +kernel
theorem dL_law_143 : decode cL_law 143 = .ok (.if_icmp .ge 38, 3) := by decide +kernel
theorem dL_law_146 : decode cL_law 146 = .ok (.aload_n 1, 1) := by decide +kernel
theorem dL_law_147 : decode cL_law 147 = .ok (.iload 7, 2) := by decide +kernel
theorem dL_law_149 : decode cL_law 149 = .ok (.invokevirtual 108, 3) := by decide +kernel
theorem dL_law_152 : decode cL_law 152 = .ok (.ifCond .eq 29, 3) := by decide +kernel
theorem dL_law_155 : decode cL_law 155 = .ok (.iload 7, 2) := by decide +kernel
theorem dL_law_157 : decode cL_law 157 = .ok (.aload_n 1, 1) := by decide +kernel
theorem dL_law_158 : decode cL_law 158 = .ok (.invokevirtual 105, 3) := by decide +kernel
theorem dL_law_161 : decode cL_law 161 = .ok (.if_icmp .gt 20, 3) := by decide +kernel
theorem dL_law_164 : decode cL_law 164 = .ok (.aload_n 1, 1) := by decide +kernel
theorem dL_law_165 : decode cL_law 165 = .ok (.iconst (-1), 1) := by decide +kernel
theorem dL_law_166 : decode cL_law 166 = .ok (.invokevirtual 108, 3) := by decide +kernel
theorem dL_law_169 : decode cL_law 169 = .ok (.ifCond .ne 12, 3) := by decide +kernel
theorem dL_law_172 : decode cL_law 172 = .ok (.aload_n 1, 1) := by decide +kernel
theorem dL_law_173 : decode cL_law 173 = .ok (.iload 6, 2) := by decide +kernel
theorem dL_law_175 : decode cL_law 175 = .ok (.invokevirtual 108, 3) := by decide +kernel
theorem dL_law_178 : decode cL_law 178 = .ok (.ifCond .eq 5, 3) := by decide +kernel
theorem dL_law_181 : decode cL_law 181 = .ok (.iconst 0, 1) := by decide +kernel
theorem dL_law_182 : decode cL_law 182 = .ok (.ireturn, 1) := by decide +kernel
theorem dL_law_183 : decode cL_law 183 = .ok (.iconst 0, 1) := by decide +kernel
theorem dL_law_184 : decode cL_law 184 = .ok (.istore 9, 2) := by decide +kernel
theorem dL_law_186 : decode cL_law 186 = .ok (.iconst 0, 1) := by decide +kernel
theorem dL_law_187 : decode cL_law 187 = .ok (.istore 10, 2) := by decide +kernel
theorem dL_law_189 : decode cL_law 189 = .ok (.iload 10, 2) := by decide +kernel
theorem dL_law_191 : decode cL_law 191 = .ok (.bipush 10, 2) := by decide +kernel
theorem dL_law_193 : decode cL_law 193 = .ok (.if_icmp .ge 109, 3) := by decide +kernel
theorem dL_law_196 : decode cL_law 196 = .ok (.aload_n 1, 1) := by decide +kernel
theorem dL_law_197 : decode cL_law 197 = .ok (.iload 10, 2) := by decide +kernel
theorem dL_law_199 : decode cL_law 199 = .ok (.invokevirtual 112, 3) := by decide +kernel
theorem dL_law_202 : decode cL_law 202 = .ok (.istore 11, 2) := by decide +kernel
theorem dL_law_204 : decode cL_law 204 = .ok (.iload 9, 2) := by decide +kernel
theorem dL_law_206 : decode cL_law 206 = .ok (.aload_n 1, 1) := by decide +kernel
theorem dL_law_207 : decode cL_law 207 = .ok (.iload 10, 2) := by decide +kernel
theorem dL_law_209 : decode cL_law 209 = .ok (.invokevirtual 115, 3) := by decide +kernel
theorem dL_law_212 : decode cL_law 212 = .ok (.iadd, 1) := by decide +kernel
theorem dL_law_213 : decode cL_law 213 = .ok (.istore 9, 2) := by decide +kernel
theorem dL_law_215 : decode cL_law 215 = .ok (.iload 11, 2) := by decide +kernel
theorem dL_law_217 : decode cL_law 217 = .ok (.ifCond .ge 7, 3) := by decide +kernel
theorem dL_law_220 : decode cL_law 220 = .ok (.iconst 1, 1) := by decide +kernel
theorem dL_law_221 : decode cL_law 221 = .ok (.goto 4, 3) := by decide +kernel
theorem dL_law_224 : decode cL_law 224 = .ok (.iconst 0, 1) := by decide +kernel
theorem dL_law_225 : decode cL_law 225 = .ok (.aload_n 1, 1) := by decide +kernel
theorem dL_law_226 : decode cL_law 226 = .ok (.iload 10, 2) := by decide +kernel
theorem dL_law_228 : decode cL_law 228 = .ok (.invokevirtual 115, 3) := by decide +kernel
theorem dL_law_231 : decode cL_law 231 = .ok (.ifCond .ne 7, 3) := by decide +kernel
theorem dL_law_234 : decode cL_law 234 = .ok (.iconst 1, 1) := by decide +kernel
theorem dL_law_235 : decode cL_law 235 = .ok (.goto 4, 3) := by decide +kernel
theorem dL_law_238 : decode cL_law 238 = .ok (.iconst 0, 1) := by decide +kernel
theorem dL_law_239 : decode cL_law 239 = .ok (.if_icmp .ne 55, 3) := by decide +kernel
theorem dL_law_242 : decode cL_law 242 = .ok (.iload 11, 2) := by decide +kernel
theorem dL_law_244 : decode cL_law 244 = .ok (.ifCond .lt 36, 3) := by decide +kernel
theorem dL_law_247 : decode cL_law 247 = .ok (.aload_n 1, 1) := by decide +kernel
theorem dL_law_248 : decode cL_law 248 = .ok (.iload 11, 2) := by decide +kernel
theorem dL_law_250 : decode cL_law 250 = .ok (.invokevirtual 118, 3) := by decide +kernel
theorem dL_law_253 : decode cL_law 253 = .ok (.iload 10, 2) := by decide +kernel
theorem dL_law_255 : decode cL_law 255 = .ok (.if_icmp .ne 39, 3) := by decide +kernel
theorem dL_law_258 : decode cL_law 258 = .ok (.aload_n 1, 1) := by decide +kernel
theorem dL_law_259 : decode cL_law 259 = .ok (.iload 11, 2) := by decide +kernel
theorem dL_law_261 : decode cL_law 261 = .ok (.invokevirtual 121, 3) := by decide +kernel
theorem dL_law_264 : decode cL_law 264 = .ok (.aload_n 1, 1) := by decide +kernel
theorem dL_law_265 : decode cL_law 265 = .ok (.iload 10, 2) := by decide +kernel
theorem dL_law_267 : decode cL_law 267 = .ok (.invokevirtual 124, 3) := by decide +kernel
theorem dL_law_270 : decode cL_law 270 = .ok (.if_icmp .ne 24, 3) := by decide +kernel
theorem dL_law_273 : decode cL_law 273 = .ok (.iload 11, 2) := by decide +kernel
theorem dL_law_275 : decode cL_law 275 = .ok (.iload 7, 2) := by decide +kernel
theorem dL_law_277 : decode cL_law 277 = .ok (.if_icmp .lt 17, 3) := by decide +kernel
theorem dL_law_280 : decode cL_law 280 = .ok (.iload 11, 2) := by decide +kernel
theorem dL_law_282 : decode cL_law 282 = .ok (.ifCond .ge 14, 3) := by decide +kernel
theorem dL_law_285 : decode cL_law 285 = .ok (.aload_n 1, 1) := by decide +kernel
theorem dL_law_286 : decode cL_law 286 = .ok (.iload 10, 2) := by decide +kernel
theorem dL_law_288 : decode cL_law 288 = .ok (.invokevirtual 124, 3) := by decide +kernel
theorem dL_law_291 : decode cL_law 291 = .ok (.ifCond .eq 5, 3) := by decide +kernel
theorem dL_law_294 : decode cL_law 294 = .ok (.iconst 0, 1) := by decide +kernel
theorem dL_law_295 : decode cL_law 295 = .ok (.ireturn, 1) := by decide +kernel
theorem dL_law_296 : decode cL_law 296 = .ok (.iinc 10 1, 3) := by decide +kernel
theorem dL_law_299 : decode cL_law 299 = .ok (.goto (-110), 3) := by decide +kernel
theorem dL_law_302 : decode cL_law 302 = .ok (.iconst 0, 1) := by decide +kernel
theorem dL_law_303 : decode cL_law 303 = .ok (.istore 10, 2) := by decide +kernel
theorem dL_law_305 : decode cL_law 305 = .ok (.iconst 0, 1) := by decide +kernel
theorem dL_law_306 : decode cL_law 306 = .ok (.istore 11, 2) := by decide +kernel
theorem dL_law_308 : decode cL_law 308 = .ok (.iload 11, 2) := by decide +kernel
theorem dL_law_310 : decode cL_law 310 = .ok (.iload 6, 2) := by decide +kernel
theorem dL_law_312 : decode cL_law 312 = .ok (.if_icmp .ge 71, 3) := by decide +kernel
theorem dL_law_315 : decode cL_law 315 = .ok (.aload_n 1, 1) := by decide +kernel
theorem dL_law_316 : decode cL_law 316 = .ok (.iload 11, 2) := by decide +kernel
theorem dL_law_318 : decode cL_law 318 = .ok (.invokevirtual 108, 3) := by decide +kernel
theorem dL_law_321 : decode cL_law 321 = .ok (.ifCond .ne 6, 3) := by decide +kernel
theorem dL_law_324 : decode cL_law 324 = .ok (.goto 53, 3) := by decide +kernel
theorem dL_law_327 : decode cL_law 327 = .ok (.iinc 10 1, 3) := by decide +kernel
theorem dL_law_330 : decode cL_law 330 = .ok (.aload_n 1, 1) := by decide +kernel
theorem dL_law_331 : decode cL_law 331 = .ok (.iload 11, 2) := by decide +kernel
theorem dL_law_333 : decode cL_law 333 = .ok (.invokevirtual 127, 3) := by decide +kernel
theorem dL_law_336 : decode cL_law 336 = .ok (.istore 12, 2) := by decide +kernel
theorem dL_law_338 : decode cL_law 338 = .ok (.iload 11, 2) := by decide +kernel
theorem dL_law_340 : decode cL_law 340 = .ok (.iload 7, 2) := by decide +kernel
theorem dL_law_342 : decode cL_law 342 = .ok (.if_icmp .lt 33, 3) := by decide +kernel
theorem dL_law_345 : decode cL_law 345 = .ok (.aload_n 1, 1) := by decide +kernel
theorem dL_law_346 : decode cL_law 346 = .ok (.aload_n 1, 1) := by decide +kernel
theorem dL_law_347 : decode cL_law 347 = .ok (.iload 11, 2) := by decide +kernel
theorem dL_law_349 : decode cL_law 349 = .ok (.invokevirtual 118, 3) := by decide +kernel
theorem dL_law_352 : decode cL_law 352 = .ok (.invokevirtual 112, 3) := by decide +kernel
theorem dL_law_355 : decode cL_law 355 = .ok (.iload 11, 2) := by decide +kernel
theorem dL_law_357 : decode cL_law 357 = .ok (.if_icmp .lt 18, 3) := by decide +kernel
theorem dL_law_360 : decode cL_law 360 = .ok (.iload 12, 2) := by decide +kernel
theorem dL_law_362 : decode cL_law 362 = .ok (.iconst (-1), 1) := by decide +kernel
theorem dL_law_363 : decode cL_law 363 = .ok (.if_icmp .lt 12, 3) := by decide +kernel
theorem dL_law_366 : decode cL_law 366 = .ok (.iload 12, 2) := by decide +kernel
theorem dL_law_368 : decode cL_law 368 = .ok (.aload_n 1, 1) := by decide +kernel
theorem dL_law_369 : decode cL_law 369 = .ok (.invokevirtual 130, 3) := by decide +kernel
theorem dL_law_372 : decode cL_law 372 = .ok (.if_icmp .lt 5, 3) := by decide +kernel
theorem dL_law_375 : decode cL_law 375 = .ok (.iconst 0, 1) := by decide +kernel
theorem dL_law_376 : decode cL_law 376 = .ok (.ireturn, 1) := by decide +kernel
theorem dL_law_377 : decode cL_law 377 = .ok (.iinc 11 1, 3) := by decide +kernel
theorem dL_law_380 : decode cL_law 380 = .ok (.goto (-72), 3) := by decide +kernel
theorem dL_law_383 : decode cL_law 383 = .ok (.iload 10, 2) := by decide +kernel
theorem dL_law_385 : decode cL_law 385 = .ok (.iload 5, 2) := by decide +kernel
theorem dL_law_387 : decode cL_law 387 = .ok (.if_icmp .ne 31, 3) := by decide +kernel
theorem dL_law_390 : decode cL_law 390 = .ok (.iload 9, 2) := by decide +kernel
theorem dL_law_392 : decode cL_law 392 = .ok (.iload 5, 2) := by decide +kernel
theorem dL_law_394 : decode cL_law 394 = .ok (.if_icmp .ne 24, 3) := by decide +kernel
theorem dL_law_397 : decode cL_law 397 = .ok (.aload_n 1, 1) := by decide +kernel
theorem dL_law_398 : decode cL_law 398 = .ok (.invokevirtual 133, 3) := by decide +kernel
theorem dL_law_401 : decode cL_law 401 = .ok (.iload 5, 2) := by decide +kernel
theorem dL_law_403 : decode cL_law 403 = .ok (.if_icmp .gt 15, 3) := by decide +kernel
theorem dL_law_406 : decode cL_law 406 = .ok (.aload_n 1, 1) := by decide +kernel
theorem dL_law_407 : decode cL_law 407 = .ok (.invokevirtual 133, 3) := by decide +kernel
theorem dL_law_410 : decode cL_law 410 = .ok (.iload 5, 2) := by decide +kernel
theorem dL_law_412 : decode cL_law 412 = .ok (.bipush 10, 2) := by decide +kernel
theorem dL_law_414 : decode cL_law 414 = .ok (.isub, 1) := by decide +kernel
theorem dL_law_415 : decode cL_law 415 = .ok (.if_icmp .ge 5, 3) := by decide +kernel
theorem dL_law_418 : decode cL_law 418 = .ok (.iconst 0, 1) := by decide +kernel
theorem dL_law_419 : decode cL_law 419 = .ok (.ireturn, 1) := by decide +kernel
theorem dL_law_420 : decode cL_law 420 = .ok (.iconst 0, 1) := by decide +kernel
theorem dL_law_421 : decode cL_law 421 = .ok (.istore 11, 2) := by decide +kernel
theorem dL_law_423 : decode cL_law 423 = .ok (.iload 11, 2) := by decide +kernel
theorem dL_law_425 : decode cL_law 425 = .ok (.aload_n 1, 1) := by decide +kernel
theorem dL_law_426 : decode cL_law 426 = .ok (.invokevirtual 130, 3) := by decide +kernel
theorem dL_law_429 : decode cL_law 429 = .ok (.if_icmp .ge 35, 3) := by decide +kernel
theorem dL_law_432 : decode cL_law 432 = .ok (.aload_n 1, 1) := by decide +kernel
theorem dL_law_433 : decode cL_law 433 = .ok (.iload 11, 2) := by decide +kernel
theorem dL_law_435 : decode cL_law 435 = .ok (.invokevirtual 136, 3) := by decide +kernel
theorem dL_law_438 : decode cL_law 438 = .ok (.aload_n 1, 1) := by decide +kernel
theorem dL_law_439 : decode cL_law 439 = .ok (.iload 11, 2) := by decide +kernel
theorem dL_law_441 : decode cL_law 441 = .ok (.invokevirtual 139, 3) := by decide +kernel
theorem dL_law_444 : decode cL_law 444 = .ok (.if_icmp .gt 12, 3) := by decide +kernel
theorem dL_law_447 : decode cL_law 447 = .ok (.aload_n 1, 1) := by decide +kernel
theorem dL_law_448 : decode cL_law 448 = .ok (.iload 11, 2) := by decide +kernel
theorem dL_law_450 : decode cL_law 450 = .ok (.invokevirtual 136, 3) := by decide +kernel
theorem dL_law_453 : decode cL_law 453 = .ok (.ifCond .ge 5, 3) := by decide +kernel
theorem dL_law_456 : decode cL_law 456 = .ok (.iconst 0, 1) := by decide +kernel
theorem dL_law_457 : decode cL_law 457 = .ok (.ireturn, 1) := by decide +kernel
theorem dL_law_458 : decode cL_law 458 = .ok (.iinc 11 1, 3) := by decide +kernel
theorem dL_law_461 : decode cL_law 461 = .ok (.goto (-38), 3) := by decide +kernel
theorem dL_law_464 : decode cL_law 464 = .ok (.iconst 0, 1) := by decide +kernel
theorem dL_law_465 : decode cL_law 465 = .ok (.istore 11, 2) := by decide +kernel
theorem dL_law_467 : decode cL_law 467 = .ok (.iload 8, 2) := by decide +kernel
theorem dL_law_469 : decode cL_law 469 = .ok (.newarray .int, 2) := by decide +kernel
theorem dL_law_471 : decode cL_law 471 = .ok (.astore 12, 2) := by decide +kernel
theorem dL_law_473 : decode cL_law 473 = .ok (.iload 8, 2) := by decide +kernel
theorem dL_law_475 : decode cL_law 475 = .ok (.newarray .int, 2) := by decide +kernel
theorem dL_law_477 : decode cL_law 477 = .ok (.astore 13, 2) := by decide +kernel
theorem dL_law_479 : decode cL_law 479 = .ok (.iload 8, 2) := by decide +kernel
theorem dL_law_481 : decode cL_law 481 = .ok (.newarray .int, 2) := by decide +kernel
theorem dL_law_483 : decode cL_law 483 = .ok (.astore 14, 2) := by decide +kernel
theorem dL_law_485 : decode cL_law 485 = .ok (.iconst 0, 1) := by decide +kernel
theorem dL_law_486 : decode cL_law 486 = .ok (.istore 15, 2) := by decide +kernel
theorem dL_law_488 : decode cL_law 488 = .ok (.iload 15, 2) := by decide +kernel
theorem dL_law_490 : decode cL_law 490 = .ok (.iload 8, 2) := by decide +kernel
theorem dL_law_492 : decode cL_law 492 = .ok (.if_icmp .ge 184, 3) := by decide +kernel
theorem dL_law_495 : decode cL_law 495 = .ok (.aload 12, 2) := by decide +kernel
theorem dL_law_497 : decode cL_law 497 = .ok (.iload 15, 2) := by decide +kernel
theorem dL_law_499 : decode cL_law 499 = .ok (.aload_n 1, 1) := by decide +kernel
theorem dL_law_500 : decode cL_law 500 = .ok (.iload 15, 2) := by decide +kernel
theorem dL_law_502 : decode cL_law 502 = .ok (.invokevirtual 142, 3) := by decide +kernel
theorem dL_law_505 : decode cL_law 505 = .ok (.iastore, 1) := by decide +kernel
theorem dL_law_506 : decode cL_law 506 = .ok (.aload 13, 2) := by decide +kernel
theorem dL_law_508 : decode cL_law 508 = .ok (.iload 15, 2) := by decide +kernel
theorem dL_law_510 : decode cL_law 510 = .ok (.aload_n 1, 1) := by decide +kernel
theorem dL_law_511 : decode cL_law 511 = .ok (.iload 15, 2) := by decide +kernel
theorem dL_law_513 : decode cL_law 513 = .ok (.invokevirtual 145, 3) := by decide +kernel
theorem dL_law_516 : decode cL_law 516 = .ok (.iastore, 1) := by decide +kernel
theorem dL_law_517 : decode cL_law 517 = .ok (.aload 14, 2) := by decide +kernel
theorem dL_law_519 : decode cL_law 519 = .ok (.iload 15, 2) := by decide +kernel
theorem dL_law_521 : decode cL_law 521 = .ok (.aload_n 1, 1) := by decide +kernel
theorem dL_law_522 : decode cL_law 522 = .ok (.iload 15, 2) := by decide +kernel
theorem dL_law_524 : decode cL_law 524 = .ok (.invokevirtual 148, 3) := by decide +kernel
theorem dL_law_527 : decode cL_law 527 = .ok (.iastore, 1) := by decide +kernel
theorem dL_law_528 : decode cL_law 528 = .ok (.iload 11, 2) := by decide +kernel
theorem dL_law_530 : decode cL_law 530 = .ok (.aload 14, 2) := by decide +kernel
theorem dL_law_532 : decode cL_law 532 = .ok (.iload 15, 2) := by decide +kernel
theorem dL_law_534 : decode cL_law 534 = .ok (.iaload, 1) := by decide +kernel
theorem dL_law_535 : decode cL_law 535 = .ok (.iadd, 1) := by decide +kernel
theorem dL_law_536 : decode cL_law 536 = .ok (.istore 11, 2) := by decide +kernel
theorem dL_law_538 : decode cL_law 538 = .ok (.aload_n 1, 1) := by decide +kernel
theorem dL_law_539 : decode cL_law 539 = .ok (.iload 15, 2) := by decide +kernel
theorem dL_law_541 : decode cL_law 541 = .ok (.invokevirtual 151, 3) := by decide +kernel
theorem dL_law_544 : decode cL_law 544 = .ok (.ifCond .lt 124, 3) := by decide +kernel
theorem dL_law_547 : decode cL_law 547 = .ok (.aload_n 1, 1) := by decide +kernel
theorem dL_law_548 : decode cL_law 548 = .ok (.iload 15, 2) := by decide +kernel
theorem dL_law_550 : decode cL_law 550 = .ok (.invokevirtual 151, 3) := by decide +kernel
theorem dL_law_553 : decode cL_law 553 = .ok (.iload 6, 2) := by decide +kernel
theorem dL_law_555 : decode cL_law 555 = .ok (.if_icmp .gt 113, 3) := by decide +kernel
theorem dL_law_558 : decode cL_law 558 = .ok (.aload 14, 2) := by decide +kernel
theorem dL_law_560 : decode cL_law 560 = .ok (.iload 15, 2) := by decide +kernel
theorem dL_law_562 : decode cL_law 562 = .ok (.iaload, 1) := by decide +kernel
theorem dL_law_563 : decode cL_law 563 = .ok (.ifCond .lt 105, 3) := by decide +kernel
theorem dL_law_566 : decode cL_law 566 = .ok (.aload 14, 2) := by decide +kernel
theorem dL_law_568 : decode cL_law 568 = .ok (.iload 15, 2) := by decide +kernel
theorem dL_law_570 : decode cL_law 570 = .ok (.iaload, 1) := by decide +kernel
theorem dL_law_571 : decode cL_law 571 = .ok (.iload 5, 2) := by decide +kernel
theorem dL_law_573 : decode cL_law 573 = .ok (.if_icmp .gt 95, 3) := by decide +kernel
theorem dL_law_576 : decode cL_law 576 = .ok (.aload 14, 2) := by decide +kernel
theorem dL_law_578 : decode cL_law 578 = .ok (.iload 15, 2) := by decide +kernel
theorem dL_law_580 : decode cL_law 580 = .ok (.iaload, 1) := by decide +kernel
theorem dL_law_581 : decode cL_law 581 = .ok (.iload 6, 2) := by decide +kernel
theorem dL_law_583 : decode cL_law 583 = .ok (.aload_n 1, 1) := by decide +kernel
theorem dL_law_584 : decode cL_law 584 = .ok (.iload 15, 2) := by decide +kernel
theorem dL_law_586 : decode cL_law 586 = .ok (.invokevirtual 151, 3) := by decide +kernel
theorem dL_law_589 : decode cL_law 589 = .ok (.isub, 1) := by decide +kernel
theorem dL_law_590 : decode cL_law 590 = .ok (.if_icmp .gt 78, 3) := by decide +kernel
theorem dL_law_593 : decode cL_law 593 = .ok (.aload_n 1, 1) := by decide +kernel
theorem dL_law_594 : decode cL_law 594 = .ok (.iload 15, 2) := by decide +kernel
theorem dL_law_596 : decode cL_law 596 = .ok (.invokevirtual 154, 3) := by decide +kernel
theorem dL_law_599 : decode cL_law 599 = .ok (.ifCond .lt 69, 3) := by decide +kernel
theorem dL_law_602 : decode cL_law 602 = .ok (.aload_n 1, 1) := by decide +kernel
theorem dL_law_603 : decode cL_law 603 = .ok (.iload 15, 2) := by decide +kernel
theorem dL_law_605 : decode cL_law 605 = .ok (.invokevirtual 154, 3) := by decide +kernel
theorem dL_law_608 : decode cL_law 608 = .ok (.bipush 10, 2) := by decide +kernel
theorem dL_law_610 : decode cL_law 610 = .ok (.if_icmp .gt 58, 3) := by decide +kernel
theorem dL_law_613 : decode cL_law 613 = .ok (.aload 14, 2) := by decide +kernel
theorem dL_law_615 : decode cL_law 615 = .ok (.iload 15, 2) := by decide +kernel
theorem dL_law_617 : decode cL_law 617 = .ok (.iaload, 1) := by decide +kernel
theorem dL_law_618 : decode cL_law 618 = .ok (.aload_n 1, 1) := by decide +kernel
theorem dL_law_619 : decode cL_law 619 = .ok (.aload_n 1, 1) := by decide +kernel
theorem dL_law_620 : decode cL_law 620 = .ok (.invokevirtual 157, 3) := by decide +kernel
theorem dL_law_623 : decode cL_law 623 = .ok (.invokevirtual 148, 3) := by decide +kernel
theorem dL_law_626 : decode cL_law 626 = .ok (.if_icmp .gt 42, 3) := by decide +kernel
theorem dL_law_629 : decode cL_law 629 = .ok (.aload_n 1, 1) := by decide +kernel
theorem dL_law_630 : decode cL_law 630 = .ok (.iload 15, 2) := by decide +kernel
theorem dL_law_632 : decode cL_law 632 = .ok (.invokevirtual 160, 3) := by decide +kernel
theorem dL_law_635 : decode cL_law 635 = .ok (.aload 14, 2) := by decide +kernel
theorem dL_law_637 : decode cL_law 637 = .ok (.iload 15, 2) := by decide +kernel
theorem dL_law_639 : decode cL_law 639 = .ok (.iaload, 1) := by decide +kernel
theorem dL_law_640 : decode cL_law 640 = .ok (.if_icmp .gt 28, 3) := by decide +kernel
theorem dL_law_643 : decode cL_law 643 = .ok (.aload_n 1, 1) := by decide +kernel
theorem dL_law_644 : decode cL_law 644 = .ok (.iload 15, 2) := by decide +kernel
theorem dL_law_646 : decode cL_law 646 = .ok (.invokevirtual 160, 3) := by decide +kernel
theorem dL_law_649 : decode cL_law 649 = .ok (.aload_n 1, 1) := by decide +kernel
theorem dL_law_650 : decode cL_law 650 = .ok (.invokevirtual 133, 3) := by decide +kernel
theorem dL_law_653 : decode cL_law 653 = .ok (.if_icmp .gt 15, 3) := by decide +kernel
theorem dL_law_656 : decode cL_law 656 = .ok (.aload 13, 2) := by decide +kernel
theorem dL_law_658 : decode cL_law 658 = .ok (.iload 15, 2) := by decide +kernel
theorem dL_law_660 : decode cL_law 660 = .ok (.iaload, 1) := by decide +kernel
theorem dL_law_661 : decode cL_law 661 = .ok (.aload_n 1, 1) := by decide +kernel
theorem dL_law_662 : decode cL_law 662 = .ok (.invokevirtual 105, 3) := by decide +kernel
theorem dL_law_665 : decode cL_law 665 = .ok (.if_icmp .le 5, 3) := by decide +kernel
theorem dL_law_668 : decode cL_law 668 = .ok (.iconst 0, 1) := by decide +kernel
theorem dL_law_669 : decode cL_law 669 = .ok (.ireturn, 1) := by decide +kernel
theorem dL_law_670 : decode cL_law 670 = .ok (.iinc 15 1, 3) := by decide +kernel
theorem dL_law_673 : decode cL_law 673 = .ok (.goto (-185), 3) := by decide +kernel
theorem dL_law_676 : decode cL_law 676 = .ok (.aload_n 1, 1) := by decide +kernel
theorem dL_law_677 : decode cL_law 677 = .ok (.invokevirtual 163, 3) := by decide +kernel
theorem dL_law_680 : decode cL_law 680 = .ok (.iload 8, 2) := by decide +kernel
theorem dL_law_682 : decode cL_law 682 = .ok (.ifCond .ne 7, 3) := by decide +kernel
theorem dL_law_685 : decode cL_law 685 = .ok (.dconst 0, 1) := by decide +kernel
theorem dL_law_686 : decode cL_law 686 = .ok (.goto 10, 3) := by decide +kernel
theorem dL_law_689 : decode cL_law 689 = .ok (.iload 11, 2) := by decide +kernel
theorem dL_law_691 : decode cL_law 691 = .ok (.i2d, 1) := by decide +kernel
theorem dL_law_692 : decode cL_law 692 = .ok (.iload 8, 2) := by decide +kernel
theorem dL_law_694 : decode cL_law 694 = .ok (.i2d, 1) := by decide +kernel
theorem dL_law_695 : decode cL_law 695 = .ok (.ddiv, 1) := by decide +kernel
theorem dL_law_696 : decode cL_law 696 = .ok (.dcmp .l, 1) := by decide +kernel
theorem dL_law_697 : decode cL_law 697 = .ok (.ifCond .eq 5, 3) := by decide +kernel
theorem dL_law_700 : decode cL_law 700 = .ok (.iconst 0, 1) := by decide +kernel
theorem dL_law_701 : decode cL_law 701 = .ok (.ireturn, 1) := by decide +kernel
theorem dL_law_702 : decode cL_law 702 = .ok (.aload_n 1, 1) := by decide +kernel
theorem dL_law_703 : decode cL_law 703 = .ok (.invokevirtual 167, 3) := by decide +kernel
theorem dL_law_706 : decode cL_law 706 = .ok (.istore 15, 2) := by decide +kernel
theorem dL_law_708 : decode cL_law 708 = .ok (.aload_n 1, 1) := by decide +kernel
theorem dL_law_709 : decode cL_law 709 = .ok (.invokevirtual 170, 3) := by decide +kernel
theorem dL_law_712 : decode cL_law 712 = .ok (.istore 16, 2) := by decide +kernel
theorem dL_law_714 : decode cL_law 714 = .ok (.aload_n 1, 1) := by decide +kernel
theorem dL_law_715 : decode cL_law 715 = .ok (.iconst 1, 1) := by decide +kernel
theorem dL_law_716 : decode cL_law 716 = .ok (.invokevirtual 73, 3) := by decide +kernel
theorem dL_law_719 : decode cL_law 719 = .ok (.istore 17, 2) := by decide +kernel
theorem dL_law_721 : decode cL_law 721 = .ok (.aload_n 2, 1) := by decide +kernel
theorem dL_law_722 : decode cL_law 722 = .ok (.iconst 1, 1) := by decide +kernel
theorem dL_law_723 : decode cL_law 723 = .ok (.invokevirtual 76, 3) := by decide +kernel
theorem dL_law_726 : decode cL_law 726 = .ok (.pop, 1) := by decide +kernel
theorem dL_law_727 : decode cL_law 727 = .ok (.iconst 0, 1) := by decide +kernel
theorem dL_law_728 : decode cL_law 728 = .ok (.istore 18, 2) := by decide +kernel
theorem dL_law_730 : decode cL_law 730 = .ok (.iconst 0, 1) := by decide +kernel
theorem dL_law_731 : decode cL_law 731 = .ok (.istore 19, 2) := by decide +kernel
theorem dL_law_733 : decode cL_law 733 = .ok (.iload 19, 2) := by decide +kernel
theorem dL_law_735 : decode cL_law 735 = .ok (.iload 8, 2) := by decide +kernel
theorem dL_law_737 : decode cL_law 737 = .ok (.if_icmp .ge 84, 3) := by decide +kernel
theorem dL_law_740 : decode cL_law 740 = .ok (.aload_n 1, 1) := by decide +kernel
theorem dL_law_741 : decode cL_law 741 = .ok (.iload 19, 2) := by decide +kernel
theorem dL_law_743 : decode cL_law 743 = .ok (.invokevirtual 142, 3) := by decide +kernel
theorem dL_law_746 : decode cL_law 746 = .ok (.aload 12, 2) := by decide +kernel
theorem dL_law_748 : decode cL_law 748 = .ok (.iload 19, 2) := by decide +kernel
theorem dL_law_750 : decode cL_law 750 = .ok (.iaload, 1) := by decide +kernel
theorem dL_law_751 : decode cL_law 751 = .ok (.isub, 1) := by decide +kernel
theorem dL_law_752 : decode cL_law 752 = .ok (.istore 20, 2) := by decide +kernel
theorem dL_law_754 : decode cL_law 754 = .ok (.iload 18, 2) := by decide +kernel
theorem dL_law_756 : decode cL_law 756 = .ok (.iload 20, 2) := by decide +kernel
theorem dL_law_758 : decode cL_law 758 = .ok (.iadd, 1) := by decide +kernel
theorem dL_law_759 : decode cL_law 759 = .ok (.istore 18, 2) := by decide +kernel
theorem dL_law_761 : decode cL_law 761 = .ok (.iload 20, 2) := by decide +kernel
theorem dL_law_763 : decode cL_law 763 = .ok (.ifCond .lt 50, 3) := by decide +kernel
theorem dL_law_766 : decode cL_law 766 = .ok (.iload 20, 2) := by decide +kernel
theorem dL_law_768 : decode cL_law 768 = .ok (.iconst 5, 1) := by decide +kernel
theorem dL_law_769 : decode cL_law 769 = .ok (.if_icmp .gt 44, 3) := by decide +kernel
theorem dL_law_772 : decode cL_law 772 = .ok (.iload 16, 2) := by decide +kernel
theorem dL_law_774 : decode cL_law 774 = .ok (.ifCond .eq 8, 3) := by decide +kernel
theorem dL_law_777 : decode cL_law 777 = .ok (.iload 20, 2) := by decide +kernel
theorem dL_law_779 : decode cL_law 779 = .ok (.ifCond .gt 34, 3) := by decide +kernel
theorem dL_law_782 : decode cL_law 782 = .ok (.aload_n 1, 1) := by decide +kernel
theorem dL_law_783 : decode cL_law 783 = .ok (.iload 19, 2) := by decide +kernel
theorem dL_law_785 : decode cL_law 785 = .ok (.invokevirtual 148, 3) := by decide +kernel
theorem dL_law_788 : decode cL_law 788 = .ok (.aload 14, 2) := by decide +kernel
theorem dL_law_790 : decode cL_law 790 = .ok (.iload 19, 2) := by decide +kernel
theorem dL_law_792 : decode cL_law 792 = .ok (.iaload, 1) := by decide +kernel
theorem dL_law_793 : decode cL_law 793 = .ok (.iload 20, 2) := by decide +kernel
theorem dL_law_795 : decode cL_law 795 = .ok (.isub, 1) := by decide +kernel
theorem dL_law_796 : decode cL_law 796 = .ok (.if_icmp .ne 17, 3) := by decide +kernel
theorem dL_law_799 : decode cL_law 799 = .ok (.aload_n 1, 1) := by decide +kernel
theorem dL_law_800 : decode cL_law 800 = .ok (.iload 19, 2) := by decide +kernel
theorem dL_law_802 : decode cL_law 802 = .ok (.invokevirtual 145, 3) := by decide +kernel
theorem dL_law_805 : decode cL_law 805 = .ok (.aload 13, 2) := by decide +kernel
theorem dL_law_807 : decode cL_law 807 = .ok (.iload 19, 2) := by decide +kernel
theorem dL_law_809 : decode cL_law 809 = .ok (.iaload, 1) := by decide +kernel
theorem dL_law_810 : decode cL_law 810 = .ok (.if_icmp .eq 5, 3) := by decide +kernel
theorem dL_law_813 : decode cL_law 813 = .ok (.iconst 0, 1) := by decide +kernel
theorem dL_law_814 : decode cL_law 814 = .ok (.ireturn, 1) := by decide +kernel
theorem dL_law_815 : decode cL_law 815 = .ok (.iinc 19 1, 3) := by decide +kernel
theorem dL_law_818 : decode cL_law 818 = .ok (.goto (-85), 3) := by decide +kernel
theorem dL_law_821 : decode cL_law 821 = .ok (.iload 18, 2) := by decide +kernel
theorem dL_law_823 : decode cL_law 823 = .ok (.iload 17, 2) := by decide +kernel
theorem dL_law_825 : decode cL_law 825 = .ok (.if_icmp .ne 44, 3) := by decide +kernel
theorem dL_law_828 : decode cL_law 828 = .ok (.aload_n 1, 1) := by decide +kernel
theorem dL_law_829 : decode cL_law 829 = .ok (.invokevirtual 167, 3) := by decide +kernel
theorem dL_law_832 : decode cL_law 832 = .ok (.iload 15, 2) := by decide +kernel
theorem dL_law_834 : decode cL_law 834 = .ok (.iconst 1, 1) := by decide +kernel
theorem dL_law_835 : decode cL_law 835 = .ok (.iadd, 1) := by decide +kernel
theorem dL_law_836 : decode cL_law 836 = .ok (.if_icmp .ne 33, 3) := by decide +kernel
theorem dL_law_839 : decode cL_law 839 = .ok (.aload_n 1, 1) := by decide +kernel
theorem dL_law_840 : decode cL_law 840 = .ok (.invokevirtual 94, 3) := by decide +kernel
theorem dL_law_843 : decode cL_law 843 = .ok (.iload 5, 2) := by decide +kernel
theorem dL_law_845 : decode cL_law 845 = .ok (.if_icmp .ne 24, 3) := by decide +kernel
theorem dL_law_848 : decode cL_law 848 = .ok (.aload_n 1, 1) := by decide +kernel
theorem dL_law_849 : decode cL_law 849 = .ok (.invokevirtual 97, 3) := by decide +kernel
theorem dL_law_852 : decode cL_law 852 = .ok (.iload 6, 2) := by decide +kernel
theorem dL_law_854 : decode cL_law 854 = .ok (.if_icmp .ne 15, 3) := by decide +kernel
theorem dL_law_857 : decode cL_law 857 = .ok (.aload_n 1, 1) := by decide +kernel
theorem dL_law_858 : decode cL_law 858 = .ok (.invokevirtual 105, 3) := by decide +kernel
theorem dL_law_861 : decode cL_law 861 = .ok (.iload 6, 2) := by decide +kernel
theorem dL_law_863 : decode cL_law 863 = .ok (.iload 5, 2) := by decide +kernel
theorem dL_law_865 : decode cL_law 865 = .ok (.isub, 1) := by decide +kernel
theorem dL_law_866 : decode cL_law 866 = .ok (.if_icmp .eq 5, 3) := by decide +kernel
theorem dL_law_869 : decode cL_law 869 = .ok (.iconst 0, 1) := by decide +kernel
theorem dL_law_870 : decode cL_law 870 = .ok (.ireturn, 1) := by decide +kernel
theorem dL_law_871 : decode cL_law 871 = .ok (.iload 4, 2) := by decide +kernel
theorem dL_law_873 : decode cL_law 873 = .ok (.iconst 2, 1) := by decide +kernel
theorem dL_law_874 : decode cL_law 874 = .ok (.ishr, 1) := by decide +kernel
theorem dL_law_875 : decode cL_law 875 = .ok (.bipush 10, 2) := by decide +kernel
theorem dL_law_877 : decode cL_law 877 = .ok (.invokestatic 19, 3) := by decide +kernel
theorem dL_law_880 : decode cL_law 880 = .ok (.istore 19, 2) := by decide +kernel
theorem dL_law_882 : decode cL_law 882 = .ok (.iload 4, 2) := by decide +kernel
theorem dL_law_884 : decode cL_law 884 = .ok (.iconst 4, 1) := by decide +kernel
theorem dL_law_885 : decode cL_law 885 = .ok (.ishr, 1) := by decide +kernel
theorem dL_law_886 : decode cL_law 886 = .ok (.sipush 1999, 3) := by decide +kernel
theorem dL_law_889 : decode cL_law 889 = .ok (.invokestatic 19, 3) := by decide +kernel
theorem dL_law_892 : decode cL_law 892 = .ok (.sipush 999, 3) := by decide +kernel
theorem dL_law_895 : decode cL_law 895 = .ok (.isub, 1) := by decide +kernel
theorem dL_law_896 : decode cL_law 896 = .ok (.istore 20, 2) := by decide +kernel
theorem dL_law_898 : decode cL_law 898 = .ok (.aload_n 1, 1) := by decide +kernel
theorem dL_law_899 : decode cL_law 899 = .ok (.iload 19, 2) := by decide +kernel
theorem dL_law_901 : decode cL_law 901 = .ok (.iload 20, 2) := by decide +kernel
theorem dL_law_903 : decode cL_law 903 = .ok (.invokevirtual 79, 3) := by decide +kernel
theorem dL_law_906 : decode cL_law 906 = .ok (.iload 6, 2) := by decide +kernel
theorem dL_law_908 : decode cL_law 908 = .ok (.if_icmp .ne 78, 3) := by decide +kernel
theorem dL_law_911 : decode cL_law 911 = .ok (.aload_n 2, 1) := by decide +kernel
theorem dL_law_912 : decode cL_law 912 = .ok (.iload 19, 2) := by decide +kernel
theorem dL_law_914 : decode cL_law 914 = .ok (.iload 20, 2) := by decide +kernel
theorem dL_law_916 : decode cL_law 916 = .ok (.invokevirtual 55, 3) := by decide +kernel
theorem dL_law_919 : decode cL_law 919 = .ok (.iload 6, 2) := by decide +kernel
theorem dL_law_921 : decode cL_law 921 = .ok (.if_icmp .ne 65, 3) := by decide +kernel
theorem dL_law_924 : decode cL_law 924 = .ok (.aload_n 1, 1) := by decide +kernel
theorem dL_law_925 : decode cL_law 925 = .ok (.iload 19, 2) := by decide +kernel
theorem dL_law_927 : decode cL_law 927 = .ok (.invokevirtual 112, 3) := by decide +kernel
theorem dL_law_930 : decode cL_law 930 = .ok (.iload 6, 2) := by decide +kernel
theorem dL_law_932 : decode cL_law 932 = .ok (.if_icmp .ne 54, 3) := by decide +kernel
theorem dL_law_935 : decode cL_law 935 = .ok (.aload_n 1, 1) := by decide +kernel
theorem dL_law_936 : decode cL_law 936 = .ok (.iload 19, 2) := by decide +kernel
theorem dL_law_938 : decode cL_law 938 = .ok (.invokevirtual 124, 3) := by decide +kernel
theorem dL_law_941 : decode cL_law 941 = .ok (.iload 20, 2) := by decide +kernel
theorem dL_law_943 : decode cL_law 943 = .ok (.if_icmp .ne 43, 3) := by decide +kernel
theorem dL_law_946 : decode cL_law 946 = .ok (.aload_n 1, 1) := by decide +kernel
theorem dL_law_947 : decode cL_law 947 = .ok (.invokevirtual 94, 3) := by decide +kernel
theorem dL_law_950 : decode cL_law 950 = .ok (.bipush 48, 2) := by decide +kernel
theorem dL_law_952 : decode cL_law 952 = .ok (.iload 5, 2) := by decide +kernel
theorem dL_law_954 : decode cL_law 954 = .ok (.iconst 1, 1) := by decide +kernel
theorem dL_law_955 : decode cL_law 955 = .ok (.iadd, 1) := by decide +kernel
theorem dL_law_956 : decode cL_law 956 = .ok (.invokestatic 174, 3) := by decide +kernel
theorem dL_law_959 : decode cL_law 959 = .ok (.if_icmp .ne 27, 3) := by decide +kernel
theorem dL_law_962 : decode cL_law 962 = .ok (.aload_n 1, 1) := by decide +kernel
theorem dL_law_963 : decode cL_law 963 = .ok (.iload 6, 2) := by decide +kernel
theorem dL_law_965 : decode cL_law 965 = .ok (.invokevirtual 127, 3) := by decide +kernel
theorem dL_law_968 : decode cL_law 968 = .ok (.iload 16, 2) := by decide +kernel
theorem dL_law_970 : decode cL_law 970 = .ok (.ifCond .eq 12, 3) := by decide +kernel
theorem dL_law_973 : decode cL_law 973 = .ok (.aload_n 1, 1) := by decide +kernel
theorem dL_law_974 : decode cL_law 974 = .ok (.invokevirtual 130, 3) := by decide +kernel
theorem dL_law_977 : decode cL_law 977 = .ok (.iconst 1, 1) := by decide +kernel
theorem dL_law_978 : decode cL_law 978 = .ok (.isub, 1) := by decide +kernel
theorem dL_law_979 : decode cL_law 979 = .ok (.goto 4, 3) := by decide +kernel
theorem dL_law_982 : decode cL_law 982 = .ok (.iconst (-1), 1) := by decide +kernel
theorem dL_law_983 : decode cL_law 983 = .ok (.if_icmp .eq 5, 3) := by decide +kernel
theorem dL_law_986 : decode cL_law 986 = .ok (.iconst 0, 1) := by decide +kernel
theorem dL_law_987 : decode cL_law 987 = .ok (.ireturn, 1) := by decide +kernel
theorem dL_law_988 : decode cL_law 988 = .ok (.iinc 3 1, 3) := by decide +kernel
theorem dL_law_991 : decode cL_law 991 = .ok (.goto (-969), 3) := by decide +kernel
theorem dL_law_994 : decode cL_law 994 = .ok (.aload_n 2, 1) := by decide +kernel
theorem dL_law_995 : decode cL_law 995 = .ok (.aload_n 1, 1) := by decide +kernel
theorem dL_law_996 : decode cL_law 996 = .ok (.invokevirtual 179, 3) := by decide +kernel
theorem dL_law_999 : decode cL_law 999 = .ok (.ireturn, 1) := by decide +kernel

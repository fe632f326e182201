theorem dL_isSo_305 : decode cL_isSo 305 = .ok (.aload 7, 2) := by decide +kernel
theorem dL_isSo_307 : decode cL_isSo 307 = .ok (.invokestatic 37, 3) := by decide +kernel
theorem dL_isSo_310 : decode cL_isSo 310 = .ok (.if_icmp .ne 32, 3) := by decide +kernel
theorem dL_isSo_313 : decode cL_isSo 313 = .ok (.aload_n 0, 1) := by decide +kernel
theorem dL_isSo_314 : decode cL_isSo 314 = .ok (.iload 14, 2) := by decide +kernel
theorem dL_isSo_316 : decode cL_isSo 316 = .ok (.iload 13, 2) := by decide +kernel
theorem dL_isSo_318 : decode cL_isSo 318 = .ok (.invokevirtual 73, 3) := by decide +kernel
theorem dL_isSo_321 : decode cL_isSo 321 = .ok (.aload 6, 2) := by decide +kernel
theorem dL_isSo_323 : decode cL_isSo 323 = .ok (.bipush 8, 2) := by decide +kernel
theorem dL_isSo_325 : decode cL_isSo 325 = .ok (.iload 13, 2) := by decide +kernel
theorem dL_isSo_327 : decode cL_isSo 327 = .ok (.bipush 8, 2) := by decide +kernel
theorem dL_isSo_329 : decode cL_isSo 329 = .ok (.irem, 1) := by decide +kernel
theorem dL_isSo_330 : decode cL_isSo 330 = .ok (.imul, 1) := by decide +kernel
theorem dL_isSo_331 : decode cL_isSo 331 = .ok (.iload 14, 2) := by decide +kernel
theorem dL_isSo_333 : decode cL_isSo 333 = .ok (.iadd, 1) := by decide +kernel
theorem dL_isSo_334 : decode cL_isSo 334 = .ok (.iaload, 1) := by decide +kernel
theorem dL_isSo_335 : decode cL_isSo 335 = .ok (.if_icmp .ne 7, 3) := by decide +kernel
theorem dL_isSo_338 : decode cL_isSo 338 = .ok (.iconst 1, 1) := by decide +kernel
theorem dL_isSo_339 : decode cL_isSo 339 = .ok (.goto 4, 3) := by decide +kernel
theorem dL_isSo_342 : decode cL_isSo 342 = .ok (.iconst 0, 1) := by decide +kernel
theorem dL_isSo_343 : decode cL_isSo 343 = .ok (.istore 8, 2) := by decide +kernel
theorem dL_isSo_345 : decode cL_isSo 345 = .ok (.iinc 14 1, 3) := by decide +kernel
theorem dL_isSo_348 : decode cL_isSo 348 = .ok (.goto (-84), 3) := by decide +kernel
theorem dL_isSo_351 : decode cL_isSo 351 = .ok (.iconst 0, 1) := by decide +kernel
theorem dL_isSo_352 : decode cL_isSo 352 = .ok (.istore 14, 2) := by decide +kernel
theorem dL_isSo_354 : decode cL_isSo 354 = .ok (.iload 14, 2) := by decide +kernel
theorem dL_isSo_356 : decode cL_isSo 356 = .ok (.aload 7, 2) := by decide +kernel
theorem dL_isSo_358 : decode cL_isSo 358 = .ok (.iconst 3, 1) := by decide +kernel
theorem dL_isSo_359 : decode cL_isSo 359 = .ok (.iaload, 1) := by decide +kernel
theorem dL_isSo_360 : decode cL_isSo 360 = .ok (.if_icmp .ge 58, 3) := by decide +kernel
theorem dL_isSo_363 : decode cL_isSo 363 = .ok (.iload 8, 2) := by decide +kernel
theorem dL_isSo_365 : decode cL_isSo 365 = .ok (.ifCond .eq 53, 3) := by decide +kernel
theorem dL_isSo_368 : decode cL_isSo 368 = .ok (.aload_n 0, 1) := by decide +kernel
theorem dL_isSo_369 : decode cL_isSo 369 = .ok (.iload 14, 2) := by decide +kernel
theorem dL_isSo_371 : decode cL_isSo 371 = .ok (.invokevirtual 76, 3) := by decide +kernel
theorem dL_isSo_374 : decode cL_isSo 374 = .ok (.aload 5, 2) := by decide +kernel
theorem dL_isSo_376 : decode cL_isSo 376 = .ok (.iconst 3, 1) := by decide +kernel
theorem dL_isSo_377 : decode cL_isSo 377 = .ok (.iload 14, 2) := by decide +kernel
theorem dL_isSo_379 : decode cL_isSo 379 = .ok (.imul, 1) := by decide +kernel
theorem dL_isSo_380 : decode cL_isSo 380 = .ok (.iconst 2, 1) := by decide +kernel
theorem dL_isSo_381 : decode cL_isSo 381 = .ok (.iadd, 1) := by decide +kernel
theorem dL_isSo_382 : decode cL_isSo 382 = .ok (.iaload, 1) := by decide +kernel
theorem dL_isSo_383 : decode cL_isSo 383 = .ok (.if_icmp .ne 26, 3) := by decide +kernel
theorem dL_isSo_386 : decode cL_isSo 386 = .ok (.aload_n 0, 1) := by decide +kernel
theorem dL_isSo_387 : decode cL_isSo 387 = .ok (.iload 14, 2) := by decide +kernel
theorem dL_isSo_389 : decode cL_isSo 389 = .ok (.invokevirtual 79, 3) := by decide +kernel
theorem dL_isSo_392 : decode cL_isSo 392 = .ok (.iload 14, 2) := by decide +kernel
theorem dL_isSo_394 : decode cL_isSo 394 = .ok (.aload_n 3, 1) := by decide +kernel
theorem dL_isSo_395 : decode cL_isSo 395 = .ok (.aload 5, 2) := by decide +kernel
theorem dL_isSo_397 : decode cL_isSo 397 = .ok (.aload 7, 2) := by decide +kernel
theorem dL_isSo_399 : decode cL_isSo 399 = .ok (.invokestatic 82, 3) := by decide +kernel
theorem dL_isSo_402 : decode cL_isSo 402 = .ok (.if_icmp .ne 7, 3) := by decide +kernel
theorem dL_isSo_405 : decode cL_isSo 405 = .ok (.iconst 1, 1) := by decide +kernel
theorem dL_isSo_406 : decode cL_isSo 406 = .ok (.goto 4, 3) := by decide +kernel
theorem dL_isSo_409 : decode cL_isSo 409 = .ok (.iconst 0, 1) := by decide +kernel
theorem dL_isSo_410 : decode cL_isSo 410 = .ok (.istore 8, 2) := by decide +kernel
theorem dL_isSo_412 : decode cL_isSo 412 = .ok (.iinc 14 1, 3) := by decide +kernel
theorem dL_isSo_415 : decode cL_isSo 415 = .ok (.goto (-61), 3) := by decide +kernel
theorem dL_isSo_418 : decode cL_isSo 418 = .ok (.iload 8, 2) := by decide +kernel
theorem dL_isSo_420 : decode cL_isSo 420 = .ok (.ifCond .eq 39, 3) := by decide +kernel
theorem dL_isSo_423 : decode cL_isSo 423 = .ok (.aload_n 0, 1) := by decide +kernel
theorem dL_isSo_424 : decode cL_isSo 424 = .ok (.invokevirtual 85, 3) := by decide +kernel
theorem dL_isSo_427 : decode cL_isSo 427 = .ok (.iload 10, 2) := by decide +kernel
theorem dL_isSo_429 : decode cL_isSo 429 = .ok (.if_icmp .ne 30, 3) := by decide +kernel
theorem dL_isSo_432 : decode cL_isSo 432 = .ok (.aload_n 0, 1) := by decide +kernel
theorem dL_isSo_433 : decode cL_isSo 433 = .ok (.invokevirtual 88, 3) := by decide +kernel
theorem dL_isSo_436 : decode cL_isSo 436 = .ok (.iload 12, 2) := by decide +kernel
theorem dL_isSo_438 : decode cL_isSo 438 = .ok (.if_icmp .ne 21, 3) := by decide +kernel
theorem dL_isSo_441 : decode cL_isSo 441 = .ok (.aload_n 0, 1) := by decide +kernel
theorem dL_isSo_442 : decode cL_isSo 442 = .ok (.invokevirtual 91, 3) := by decide +kernel
theorem dL_isSo_445 : decode cL_isSo 445 = .ok (.iload 9, 2) := by decide +kernel
theorem dL_isSo_447 : decode cL_isSo 447 = .ok (.iload 11, 2) := by decide +kernel
theorem dL_isSo_449 : decode cL_isSo 449 = .ok (.iconst (-1), 1) := by decide +kernel
theorem dL_isSo_450 : decode cL_isSo 450 = .ok (.ixor, 1) := by decide +kernel
theorem dL_isSo_451 : decode cL_isSo 451 = .ok (.iand, 1) := by decide +kernel
theorem dL_isSo_452 : decode cL_isSo 452 = .ok (.if_icmp .ne 7, 3) := by decide +kernel
theorem dL_isSo_455 : decode cL_isSo 455 = .ok (.iconst 1, 1) := by decide +kernel
theorem dL_isSo_456 : decode cL_isSo 456 = .ok (.goto 4, 3) := by decide +kernel
theorem dL_isSo_459 : decode cL_isSo 459 = .ok (.iconst 0, 1) := by decide +kernel
theorem dL_isSo_460 : decode cL_isSo 460 = .ok (.ireturn, 1) := by decide +kernel
set_option maxRecDepth 20000 in
theorem ggL_finds_L_range : GoodIn wsL_finds wsL_range := goodIn_r _ [4, 5, 6, 3, 7, 8, 9, 10] (by decide +kernel) (by decide +kernel)
set_option maxRecDepth 20000 in
theorem gL_finds_L_range : GoodIn wsL_finds (va_wsS RL 37 yL_range wsL_range) := goodIn_app (goodIn_of _ (by decide +kernel)) ggL_finds_L_range
set_option maxRecDepth 20000 in
theorem ggL_finds_L_keeps : GoodIn wsL_finds wsL_keeps := goodIn_r _ [13, 1, 2, 3, 4, 5, 6, 7, 8, 9, 10] (by decide +kernel) (by decide +kernel)
set_option maxRecDepth 20000 in
theorem gL_finds_L_keeps : GoodIn wsL_finds (va_wsS RL 40 yL_keeps wsL_keeps) := goodIn_app (goodIn_of _ (by decide +kernel)) ggL_finds_L_keeps
theorem dL_finds_0 : decode cL_finds 0 = .ok (.iload_n 0, 1) := by decide +kernel
theorem dL_finds_1 : decode cL_finds 1 = .ok (.aload_n 2, 1) := by decide +kernel
theorem dL_finds_2 : decode cL_finds 2 = .ok (.aload 6, 2) := by decide +kernel
theorem dL_finds_4 : decode cL_finds 4 = .ok (.invokestatic 37, 3) := by decide +kernel
theorem dL_finds_7 : decode cL_finds 7 = .ok (.ifCond .lt 6, 3) := by decide +kernel
theorem dL_finds_10 : decode cL_finds 10 = .ok (.bipush (-3), 2) := by decide +kernel
theorem dL_finds_12 : decode cL_finds 12 = .ok (.ireturn, 1) := by decide +kernel
theorem dL_finds_13 : decode cL_finds 13 = .ok (.iconst (-1), 1) := by decide +kernel
theorem dL_finds_14 : decode cL_finds 14 = .ok (.istore 7, 2) := by decide +kernel
theorem dL_finds_16 : decode cL_finds 16 = .ok (.iconst (-1), 1) := by decide +kernel
theorem dL_finds_17 : decode cL_finds 17 = .ok (.istore 8, 2) := by decide +kernel
theorem dL_finds_19 : decode cL_finds 19 = .ok (.aload_n 3, 1) := by decide +kernel
theorem dL_finds_20 : decode cL_finds 20 = .ok (.bipush 6, 2) := by decide +kernel
theorem dL_finds_22 : decode cL_finds 22 = .ok (.iload_n 0, 1) := by decide +kernel
theorem dL_finds_23 : decode cL_finds 23 = .ok (.imul, 1) := by decide +kernel
theorem dL_finds_24 : decode cL_finds 24 = .ok (.iconst 3, 1) := by decide +kernel
theorem dL_finds_25 : decode cL_finds 25 = .ok (.iadd, 1) := by decide +kernel
theorem dL_finds_26 : decode cL_finds 26 = .ok (.iaload, 1) := by decide +kernel
theorem dL_finds_27 : decode cL_finds 27 = .ok (.istore 9, 2) := by decide +kernel
theorem dL_finds_29 : decode cL_finds 29 = .ok (.aload 6, 2) := by decide +kernel
theorem dL_finds_31 : decode cL_finds 31 = .ok (.iconst 0, 1) := by decide +kernel
theorem dL_finds_32 : decode cL_finds 32 = .ok (.iaload, 1) := by decide +kernel
theorem dL_finds_33 : decode cL_finds 33 = .ok (.iload 9, 2) := by decide +kernel
theorem dL_finds_35 : decode cL_finds 35 = .ok (.isub, 1) := by decide +kernel
theorem dL_finds_36 : decode cL_finds 36 = .ok (.istore 10, 2) := by decide +kernel
theorem dL_finds_38 : decode cL_finds 38 = .ok (.iload 10, 2) := by decide +kernel
theorem dL_finds_40 : decode cL_finds 40 = .ok (.ifCond .lt 187, 3) := by decide +kernel
theorem dL_finds_43 : decode cL_finds 43 = .ok (.iconst 0, 1) := by decide +kernel
theorem dL_finds_44 : decode cL_finds 44 = .ok (.istore 11, 2) := by decide +kernel
theorem dL_finds_46 : decode cL_finds 46 = .ok (.iconst 0, 1) := by decide +kernel
theorem dL_finds_47 : decode cL_finds 47 = .ok (.istore 12, 2) := by decide +kernel
theorem dL_finds_49 : decode cL_finds 49 = .ok (.iconst 0, 1) := by decide +kernel
theorem dL_finds_50 : decode cL_finds 50 = .ok (.istore 13, 2) := by decide +kernel
theorem dL_finds_52 : decode cL_finds 52 = .ok (.iload 13, 2) := by decide +kernel
theorem dL_finds_54 : decode cL_finds 54 = .ok (.iload 9, 2) := by decide +kernel
theorem dL_finds_56 : decode cL_finds 56 = .ok (.if_icmp .ge 39, 3) := by decide +kernel
theorem dL_finds_59 : decode cL_finds 59 = .ok (.iload 12, 2) := by decide +kernel
theorem dL_finds_61 : decode cL_finds 61 = .ok (.aload_n 1, 1) := by decide +kernel
theorem dL_finds_62 : decode cL_finds 62 = .ok (.iload 10, 2) := by decide +kernel
theorem dL_finds_64 : decode cL_finds 64 = .ok (.iload 13, 2) := by decide +kernel
theorem dL_finds_66 : decode cL_finds 66 = .ok (.iadd, 1) := by decide +kernel
theorem dL_finds_67 : decode cL_finds 67 = .ok (.iaload, 1) := by decide +kernel
theorem dL_finds_68 : decode cL_finds 68 = .ok (.aload 4, 2) := by decide +kernel
theorem dL_finds_70 : decode cL_finds 70 = .ok (.bipush 8, 2) := by decide +kernel
theorem dL_finds_72 : decode cL_finds 72 = .ok (.iload_n 0, 1) := by decide +kernel
theorem dL_finds_73 : decode cL_finds 73 = .ok (.imul, 1) := by decide +kernel
theorem dL_finds_74 : decode cL_finds 74 = .ok (.iload 13, 2) := by decide +kernel
theorem dL_finds_76 : decode cL_finds 76 = .ok (.iadd, 1) := by decide +kernel
theorem dL_finds_77 : decode cL_finds 77 = .ok (.iaload, 1) := by decide +kernel
theorem dL_finds_78 : decode cL_finds 78 = .ok (.if_icmp .ne 7, 3) := by decide +kernel
theorem dL_finds_81 : decode cL_finds 81 = .ok (.iconst 1, 1) := by decide +kernel
theorem dL_finds_82 : decode cL_finds 82 = .ok (.goto 4, 3) := by decide +kernel
theorem dL_finds_85 : decode cL_finds 85 = .ok (.iconst 0, 1) := by decide +kernel
theorem dL_finds_86 : decode cL_finds 86 = .ok (.iadd, 1) := by decide +kernel
theorem dL_finds_87 : decode cL_finds 87 = .ok (.istore 12, 2) := by decide +kernel
theorem dL_finds_89 : decode cL_finds 89 = .ok (.iinc 13 1, 3) := by decide +kernel
theorem dL_finds_92 : decode cL_finds 92 = .ok (.goto (-40), 3) := by decide +kernel
theorem dL_finds_95 : decode cL_finds 95 = .ok (.iload 11, 2) := by decide +kernel
theorem dL_finds_97 : decode cL_finds 97 = .ok (.iload 10, 2) := by decide +kernel
theorem dL_finds_99 : decode cL_finds 99 = .ok (.ifCond .ne 7, 3) := by decide +kernel
theorem dL_finds_102 : decode cL_finds 102 = .ok (.iconst (-1), 1) := by decide +kernel
theorem dL_finds_103 : decode cL_finds 103 = .ok (.goto 9, 3) := by decide +kernel
theorem dL_finds_106 : decode cL_finds 106 = .ok (.aload_n 1, 1) := by decide +kernel
theorem dL_finds_107 : decode cL_finds 107 = .ok (.iload 10, 2) := by decide +kernel
theorem dL_finds_109 : decode cL_finds 109 = .ok (.iconst 1, 1) := by decide +kernel
theorem dL_finds_110 : decode cL_finds 110 = .ok (.isub, 1) := by decide +kernel
theorem dL_finds_111 : decode cL_finds 111 = .ok (.iaload, 1) := by decide +kernel
theorem dL_finds_112 : decode cL_finds 112 = .ok (.aload_n 3, 1) := by decide +kernel
theorem dL_finds_113 : decode cL_finds 113 = .ok (.bipush 6, 2) := by decide +kernel
theorem dL_finds_115 : decode cL_finds 115 = .ok (.iload_n 0, 1) := by decide +kernel
theorem dL_finds_116 : decode cL_finds 116 = .ok (.imul, 1) := by decide +kernel
theorem dL_finds_117 : decode cL_finds 117 = .ok (.iconst 4, 1) := by decide +kernel
theorem dL_finds_118 : decode cL_finds 118 = .ok (.iadd, 1) := by decide +kernel
theorem dL_finds_119 : decode cL_finds 119 = .ok (.iaload, 1) := by decide +kernel
theorem dL_finds_120 : decode cL_finds 120 = .ok (.if_icmp .ne 7, 3) := by decide +kernel
theorem dL_finds_123 : decode cL_finds 123 = .ok (.iconst 1, 1) := by decide +kernel
theorem dL_finds_124 : decode cL_finds 124 = .ok (.goto 4, 3) := by decide +kernel
theorem dL_finds_127 : decode cL_finds 127 = .ok (.iconst 0, 1) := by decide +kernel
theorem dL_finds_128 : decode cL_finds 128 = .ok (.iadd, 1) := by decide +kernel
theorem dL_finds_129 : decode cL_finds 129 = .ok (.istore 11, 2) := by decide +kernel
theorem dL_finds_131 : decode cL_finds 131 = .ok (.iload 11, 2) := by decide +kernel
theorem dL_finds_133 : decode cL_finds 133 = .ok (.iload 10, 2) := by decide +kernel
theorem dL_finds_135 : decode cL_finds 135 = .ok (.iload 9, 2) := by decide +kernel
theorem dL_finds_137 : decode cL_finds 137 = .ok (.iadd, 1) := by decide +kernel
theorem dL_finds_138 : decode cL_finds 138 = .ok (.aload 6, 2) := by decide +kernel
theorem dL_finds_140 : decode cL_finds 140 = .ok (.iconst 0, 1) := by decide +kernel
theorem dL_finds_141 : decode cL_finds 141 = .ok (.iaload, 1) := by decide +kernel
theorem dL_finds_142 : decode cL_finds 142 = .ok (.if_icmp .ne 7, 3) := by decide +kernel
theorem dL_finds_145 : decode cL_finds 145 = .ok (.iconst (-1), 1) := by decide +kernel
theorem dL_finds_146 : decode cL_finds 146 = .ok (.goto 10, 3) := by decide +kernel
theorem dL_finds_149 : decode cL_finds 149 = .ok (.aload_n 1, 1) := by decide +kernel
theorem dL_finds_150 : decode cL_finds 150 = .ok (.iload 10, 2) := by decide +kernel
theorem dL_finds_152 : decode cL_finds 152 = .ok (.iload 9, 2) := by decide +kernel
theorem dL_finds_154 : decode cL_finds 154 = .ok (.iadd, 1) := by decide +kernel
theorem dL_finds_155 : decode cL_finds 155 = .ok (.iaload, 1) := by decide +kernel
theorem dL_finds_156 : decode cL_finds 156 = .ok (.aload_n 3, 1) := by decide +kernel
theorem dL_finds_157 : decode cL_finds 157 = .ok (.bipush 6, 2) := by decide +kernel
theorem dL_finds_159 : decode cL_finds 159 = .ok (.iload_n 0, 1) := by decide +kernel
theorem dL_finds_160 : decode cL_finds 160 = .ok (.imul, 1) := by decide +kernel
theorem dL_finds_161 : decode cL_finds 161 = .ok (.iconst 5, 1) := by decide +kernel
theorem dL_finds_162 : decode cL_finds 162 = .ok (.iadd, 1) := by decide +kernel
theorem dL_finds_163 : decode cL_finds 163 = .ok (.iaload, 1) := by decide +kernel
theorem dL_finds_164 : decode cL_finds 164 = .ok (.if_icmp .ne 7, 3) := by decide +kernel
theorem dL_finds_167 : decode cL_finds 167 = .ok (.iconst 1, 1) := by decide +kernel
theorem dL_finds_168 : decode cL_finds 168 = .ok (.goto 4, 3) := by decide +kernel
theorem dL_finds_171 : decode cL_finds 171 = .ok (.iconst 0, 1) := by decide +kernel
theorem dL_finds_172 : decode cL_finds 172 = .ok (.iadd, 1) := by decide +kernel
theorem dL_finds_173 : decode cL_finds 173 = .ok (.istore 11, 2) := by decide +kernel
theorem dL_finds_175 : decode cL_finds 175 = .ok (.iload 12, 2) := by decide +kernel
theorem dL_finds_177 : decode cL_finds 177 = .ok (.iload 9, 2) := by decide +kernel
theorem dL_finds_179 : decode cL_finds 179 = .ok (.if_icmp .ne 15, 3) := by decide +kernel
theorem dL_finds_182 : decode cL_finds 182 = .ok (.iload 11, 2) := by decide +kernel
theorem dL_finds_184 : decode cL_finds 184 = .ok (.iload 8, 2) := by decide +kernel
theorem dL_finds_186 : decode cL_finds 186 = .ok (.if_icmp .lt 8, 3) := by decide +kernel
theorem dL_finds_189 : decode cL_finds 189 = .ok (.iload 10, 2) := by decide +kernel
theorem dL_finds_191 : decode cL_finds 191 = .ok (.goto 5, 3) := by decide +kernel
theorem dL_finds_194 : decode cL_finds 194 = .ok (.iload 7, 2) := by decide +kernel
theorem dL_finds_196 : decode cL_finds 196 = .ok (.istore 7, 2) := by decide +kernel
theorem dL_finds_198 : decode cL_finds 198 = .ok (.iload 12, 2) := by decide +kernel
theorem dL_finds_200 : decode cL_finds 200 = .ok (.iload 9, 2) := by decide +kernel
theorem dL_finds_202 : decode cL_finds 202 = .ok (.if_icmp .ne 15, 3) := by decide +kernel
theorem dL_finds_205 : decode cL_finds 205 = .ok (.iload 11, 2) := by decide +kernel
theorem dL_finds_207 : decode cL_finds 207 = .ok (.iload 8, 2) := by decide +kernel
theorem dL_finds_209 : decode cL_finds 209 = .ok (.if_icmp .lt 8, 3) := by decide +kernel
theorem dL_finds_212 : decode cL_finds 212 = .ok (.iload 11, 2) := by decide +kernel
theorem dL_finds_214 : decode cL_finds 214 = .ok (.goto 5, 3) := by decide +kernel
theorem dL_finds_217 : decode cL_finds 217 = .ok (.iload 8, 2) := by decide +kernel
theorem dL_finds_219 : decode cL_finds 219 = .ok (.istore 8, 2) := by decide +kernel
theorem dL_finds_221 : decode cL_finds 221 = .ok (.iinc 10 (-1), 3) := by decide +kernel
theorem dL_finds_224 : decode cL_finds 224 = .ok (.goto (-186), 3) := by decide +kernel
theorem dL_finds_227 : decode cL_finds 227 = .ok (.iconst 0, 1) := by decide +kernel
theorem dL_finds_228 : decode cL_finds 228 = .ok (.istore 10, 2) := by decide +kernel
theorem dL_finds_230 : decode cL_finds 230 = .ok (.iload 10, 2) := by decide +kernel
theorem dL_finds_232 : decode cL_finds 232 = .ok (.iload 9, 2) := by decide +kernel
theorem dL_finds_234 : decode cL_finds 234 = .ok (.if_icmp .ge 27, 3) := by decide +kernel
theorem dL_finds_237 : decode cL_finds 237 = .ok (.iload 7, 2) := by decide +kernel
theorem dL_finds_239 : decode cL_finds 239 = .ok (.ifCond .lt 22, 3) := by decide +kernel
theorem dL_finds_242 : decode cL_finds 242 = .ok (.aload_n 2, 1) := by decide +kernel
theorem dL_finds_243 : decode cL_finds 243 = .ok (.iload 7, 2) := by decide +kernel
theorem dL_finds_245 : decode cL_finds 245 = .ok (.iload 10, 2) := by decide +kernel
theorem dL_finds_247 : decode cL_finds 247 = .ok (.iadd, 1) := by decide +kernel
theorem dL_finds_248 : decode cL_finds 248 = .ok (.dup2, 1) := by decide +kernel
theorem dL_finds_249 : decode cL_finds 249 = .ok (.iaload, 1) := by decide +kernel
theorem dL_finds_250 : decode cL_finds 250 = .ok (.iconst 1, 1) := by decide +kernel
theorem dL_finds_251 : decode cL_finds 251 = .ok (.iload_n 0, 1) := by decide +kernel
theorem dL_finds_252 : decode cL_finds 252 = .ok (.ishl, 1) := by decide +kernel
theorem dL_finds_253 : decode cL_finds 253 = .ok (.ior, 1) := by decide +kernel
theorem dL_finds_254 : decode cL_finds 254 = .ok (.iastore, 1) := by decide +kernel
theorem dL_finds_255 : decode cL_finds 255 = .ok (.iinc 10 1, 3) := by decide +kernel
theorem dL_finds_258 : decode cL_finds 258 = .ok (.goto (-28), 3) := by decide +kernel
theorem dL_finds_261 : decode cL_finds 261 = .ok (.aload_n 2, 1) := by decide +kernel
theorem dL_finds_262 : decode cL_finds 262 = .ok (.aload 5, 2) := by decide +kernel
theorem dL_finds_264 : decode cL_finds 264 = .ok (.aload 6, 2) := by decide +kernel
theorem dL_finds_266 : decode cL_finds 266 = .ok (.invokestatic 40, 3) := by decide +kernel
theorem dL_finds_269 : decode cL_finds 269 = .ok (.iload 7, 2) := by decide +kernel
theorem dL_finds_271 : decode cL_finds 271 = .ok (.ireturn, 1) := by decide +kernel
set_option maxRecDepth 20000 in
theorem ggL_comments_L_low : GoodIn wsL_comments wsL_low := goodIn_r _ [4, 5] (by decide +kernel) (by decide +kernel)
set_option maxRecDepth 20000 in
theorem gL_comments_L_low : GoodIn wsL_comments (va_wsS RL 66 yL_low wsL_low) := goodIn_app (goodIn_of _ (by decide +kernel)) ggL_comments_L_low
set_option maxRecDepth 20000 in
theorem ggL_comments_L_keeps : GoodIn wsL_comments wsL_keeps := goodIn_r _ [8, 9, 10, 3, 11, 12, 13, 14, 15, 16, 17] (by decide +kernel) (by decide +kernel)
set_option maxRecDepth 20000 in
theorem gL_comments_L_keeps : GoodIn wsL_comments (va_wsS RL 40 yL_keeps wsL_keeps) := goodIn_app (goodIn_of _ (by decide +kernel)) ggL_comments_L_keeps
set_option maxRecDepth 20000 in
theorem ggL_comments_X4_comment : GoodIn wsL_comments wsX4_comment := goodIn_ca (goodIn_ca (goodIn_ca (goodIn_r _ [22, 23, 24, 25, 26, 27, 28, 29, 30, 31, 21, 32, 33, 34, 35, 36, 37, 38, 39, 40, 41, 42, 43, 44, 45, 46, 47, 48, 49, 50, 51, 52, 53, 54, 55, 56, 57, 58, 59, 60, 61, 62, 63, 64, 65, 66, 67, 68, 69, 70, 71, 72, 73, 74, 75, 76, 77, 78, 79, 80, 81, 243, 244, 245, 246, 247, 248, 249, 250, 251, 252, 253, 254, 255, 256, 257, 258, 259, 260, 261, 262, 263, 264] (by decide +kernel) (by decide +kernel)) (goodIn_sub (fun _ h => List.mem_cons_of_mem _ (List.mem_append_left _ (List.mem_append_left _ (List.mem_append_right _ h)))) (by decide +kernel))) (goodIn_sub (fun _ h => List.mem_cons_of_mem _ (List.mem_append_left _ (List.mem_append_right _ h))) (by decide +kernel))) (goodIn_sub (fun _ h => List.mem_cons_of_mem _ (List.mem_append_right _ h)) (by decide +kernel))
set_option maxRecDepth 20000 in
theorem gL_comments_X4_comment : GoodIn wsL_comments (wsV RL 94 RX4 yX4_comment wsX4_comment) := goodIn_app (goodIn_of _ (by decide +kernel)) ggL_comments_X4_comment
set_option maxRecDepth 20000 in
theorem ggL_comments_X4_answer : GoodIn wsL_comments wsX4_answer := goodIn_ca (goodIn_r _ [85, 28, 86, 87, 88, 89, 21, 90, 39, 40, 25, 75, 76, 77, 243, 244, 245, 246, 247, 248, 249, 250, 251, 252, 253, 254, 255, 256, 257] (by decide +kernel) (by decide +kernel)) (goodIn_sub (fun _ h => List.mem_cons_of_mem _ (List.mem_append_right _ h)) (by decide +kernel))
set_option maxRecDepth 20000 in
theorem gL_comments_X4_answer : GoodIn wsL_comments (wsV RL 97 RX4 yX4_answer wsX4_answer) := goodIn_app (goodIn_of _ (by decide +kernel)) ggL_comments_X4_answer
set_option maxRecDepth 20000 in
theorem ggL_comments_X4_resolve : GoodIn wsL_comments wsX4_resolve := goodIn_ca (goodIn_r _ [94, 28, 87, 88, 89, 21, 90, 39, 40, 25, 75, 76, 77, 243, 244, 245, 246, 247, 248, 249, 250, 251, 252, 253, 254, 255, 256, 257] (by decide +kernel) (by decide +kernel)) (goodIn_sub (fun _ h => List.mem_cons_of_mem _ (List.mem_append_right _ h)) (by decide +kernel))
set_option maxRecDepth 20000 in
theorem gL_comments_X4_resolve : GoodIn wsL_comments (wsV RL 100 RX4 yX4_resolve wsX4_resolve) := goodIn_app (goodIn_of _ (by decide +kernel)) ggL_comments_X4_resolve
set_option maxRecDepth 20000 in
theorem ggL_comments_L_calls : GoodIn wsL_comments wsL_calls := goodIn_ca (goodIn_ca (goodIn_ca (goodIn_r _ [97, 98, 99, 100, 101, 21, 102, 27, 35, 36, 37, 38, 39, 40, 103, 104, 105, 106, 41, 42, 43, 44, 33, 34, 107, 108, 109, 110, 23, 24, 111, 112, 113, 114, 115, 25, 116, 117, 118, 119, 120, 121, 122, 123, 124, 125, 126, 127, 46, 128, 129, 50, 51, 130, 131, 132, 133, 134, 135, 136, 49, 52, 137, 138, 139, 140, 66, 141, 142, 69, 81, 143, 144, 145, 146, 74, 147, 60, 61, 62, 148, 149, 150, 151, 152, 153, 154, 155, 156, 157, 76, 77, 78, 79, 80, 158, 159, 160, 161, 26, 87, 88, 89, 90, 162, 54, 163, 164, 57, 165, 166, 167, 168, 58, 169, 170, 171, 172, 63, 64, 65, 67, 68, 70, 71, 72, 73, 173, 174, 175, 176, 177, 178, 75, 179, 180, 181, 182, 183, 184, 185, 186, 187, 188, 189, 190, 191, 192, 193, 194, 195, 196, 197, 198, 199, 200, 201, 202, 203, 204, 205, 206, 207, 208, 209, 210, 211, 212, 213, 214, 215, 216, 217, 218, 219, 220, 221, 222, 223, 224, 225, 226, 227, 228, 229, 230, 231, 232, 233, 234, 235, 236, 237, 238, 239, 243, 244, 245, 246, 247, 248, 249, 250, 251, 252, 253, 258, 259, 260, 254, 255, 256, 257, 265, 261, 262, 263, 264] (by decide +kernel) (by decide +kernel)) (goodIn_sub (fun _ h => List.mem_cons_of_mem _ (List.mem_append_right _ h)) (by decide +kernel))) (goodIn_sub (fun _ h => List.mem_cons_of_mem _ (List.mem_append_left _ (List.mem_append_right _ h))) (by decide +kernel))) (goodIn_sub (fun _ h => List.mem_cons_of_mem _ (List.mem_append_left _ (List.mem_append_left _ (List.mem_append_right _ h)))) (by decide +kernel))
set_option maxRecDepth 20000 in
theorem gL_comments_L_calls : GoodIn wsL_comments (va_wsS RL 104 yL_calls wsL_calls) := goodIn_app (goodIn_of _ (by decide +kernel)) ggL_comments_L_calls
set_option maxRecDepth 20000 in
theorem ggL_comments_L_finds : GoodIn wsL_comments wsL_finds := goodIn_r _ [242, 9, 10, 3, 11, 12, 13, 14, 15, 16, 17, 6, 7, 8] (by decide +kernel) (by decide +kernel)
set_option maxRecDepth 20000 in
theorem gL_comments_L_finds : GoodIn wsL_comments (va_wsS RL 108 yL_finds wsL_finds) := goodIn_app (goodIn_of _ (by decide +kernel)) ggL_comments_L_finds
theorem dL_comments_0 : decode cL_comments 0 = .ok (.iload_n 1, 1) := by decide +kernel
theorem dL_comments_1 : decode cL_comments 1 = .ok (.ifCond .eq 10, 3) := by decide +kernel
theorem dL_comments_4 : decode cL_comments 4 = .ok (.aload 8, 2) := by decide +kernel
theorem dL_comments_6 : decode cL_comments 6 = .ok (.iconst 2, 1) := by decide +kernel
theorem dL_comments_7 : decode cL_comments 7 = .ok (.iaload, 1) := by decide +kernel
theorem dL_comments_8 : decode cL_comments 8 = .ok (.ifCond .ne 262, 3) := by decide +kernel
theorem dL_comments_11 : decode cL_comments 11 = .ok (.aload 8, 2) := by decide +kernel
theorem dL_comments_13 : decode cL_comments 13 = .ok (.iconst 2, 1) := by decide +kernel
theorem dL_comments_14 : decode cL_comments 14 = .ok (.iaload, 1) := by decide +kernel
theorem dL_comments_15 : decode cL_comments 15 = .ok (.bipush 6, 2) := by decide +kernel
theorem dL_comments_17 : decode cL_comments 17 = .ok (.if_icmp .ge 253, 3) := by decide +kernel
theorem dL_comments_20 : decode cL_comments 20 = .ok (.aload 8, 2) := by decide +kernel
theorem dL_comments_22 : decode cL_comments 22 = .ok (.iconst 0, 1) := by decide +kernel
theorem dL_comments_23 : decode cL_comments 23 = .ok (.iaload, 1) := by decide +kernel
theorem dL_comments_24 : decode cL_comments 24 = .ok (.ifCond .le 246, 3) := by decide +kernel
theorem dL_comments_27 : decode cL_comments 27 = .ok (.aload 8, 2) := by decide +kernel
theorem dL_comments_29 : decode cL_comments 29 = .ok (.iconst 2, 1) := by decide +kernel
theorem dL_comments_30 : decode cL_comments 30 = .ok (.iaload, 1) := by decide +kernel
theorem dL_comments_31 : decode cL_comments 31 = .ok (.istore 9, 2) := by decide +kernel
theorem dL_comments_33 : decode cL_comments 33 = .ok (.iload_n 2, 1) := by decide +kernel
theorem dL_comments_34 : decode cL_comments 34 = .ok (.aload 8, 2) := by decide +kernel
theorem dL_comments_36 : decode cL_comments 36 = .ok (.iconst 0, 1) := by decide +kernel
theorem dL_comments_37 : decode cL_comments 37 = .ok (.iaload, 1) := by decide +kernel
theorem dL_comments_38 : decode cL_comments 38 = .ok (.invokestatic 66, 3) := by decide +kernel
theorem dL_comments_41 : decode cL_comments 41 = .ok (.istore 10, 2) := by decide +kernel
theorem dL_comments_43 : decode cL_comments 43 = .ok (.iconst 1, 1) := by decide +kernel
theorem dL_comments_44 : decode cL_comments 44 = .ok (.iload_n 2, 1) := by decide +kernel
theorem dL_comments_45 : decode cL_comments 45 = .ok (.iconst 4, 1) := by decide +kernel
theorem dL_comments_46 : decode cL_comments 46 = .ok (.ishr, 1) := by decide +kernel
theorem dL_comments_47 : decode cL_comments 47 = .ok (.aload 8, 2) := by decide +kernel
theorem dL_comments_49 : decode cL_comments 49 = .ok (.iconst 0, 1) := by decide +kernel
theorem dL_comments_50 : decode cL_comments 50 = .ok (.iaload, 1) := by decide +kernel
theorem dL_comments_51 : decode cL_comments 51 = .ok (.iload 10, 2) := by decide +kernel
theorem dL_comments_53 : decode cL_comments 53 = .ok (.isub, 1) := by decide +kernel
theorem dL_comments_54 : decode cL_comments 54 = .ok (.bipush 8, 2) := by decide +kernel
theorem dL_comments_56 : decode cL_comments 56 = .ok (.if_icmp .ge 13, 3) := by decide +kernel
theorem dL_comments_59 : decode cL_comments 59 = .ok (.aload 8, 2) := by decide +kernel
theorem dL_comments_61 : decode cL_comments 61 = .ok (.iconst 0, 1) := by decide +kernel
theorem dL_comments_62 : decode cL_comments 62 = .ok (.iaload, 1) := by decide +kernel
theorem dL_comments_63 : decode cL_comments 63 = .ok (.iload 10, 2) := by decide +kernel
theorem dL_comments_65 : decode cL_comments 65 = .ok (.isub, 1) := by decide +kernel
theorem dL_comments_66 : decode cL_comments 66 = .ok (.goto 5, 3) := by decide +kernel
theorem dL_comments_69 : decode cL_comments 69 = .ok (.bipush 8, 2) := by decide +kernel
theorem dL_comments_71 : decode cL_comments 71 = .ok (.invokestatic 66, 3) := by decide +kernel
theorem dL_comments_74 : decode cL_comments 74 = .ok (.iadd, 1) := by decide +kernel
theorem dL_comments_75 : decode cL_comments 75 = .ok (.istore 11, 2) := by decide +kernel
theorem dL_comments_77 : decode cL_comments 77 = .ok (.aload 5, 2) := by decide +kernel
theorem dL_comments_79 : decode cL_comments 79 = .ok (.bipush 6, 2) := by decide +kernel
theorem dL_comments_81 : decode cL_comments 81 = .ok (.iload 9, 2) := by decide +kernel
theorem dL_comments_83 : decode cL_comments 83 = .ok (.imul, 1) := by decide +kernel
theorem dL_comments_84 : decode cL_comments 84 = .ok (.iload_n 2, 1) := by decide +kernel
theorem dL_comments_85 : decode cL_comments 85 = .ok (.bipush 8, 2) := by decide +kernel
theorem dL_comments_87 : decode cL_comments 87 = .ok (.ishr, 1) := by decide +kernel
theorem dL_comments_88 : decode cL_comments 88 = .ok (.iconst 4, 1) := by decide +kernel
theorem dL_comments_89 : decode cL_comments 89 = .ok (.invokestatic 66, 3) := by decide +kernel
theorem dL_comments_92 : decode cL_comments 92 = .ok (.iastore, 1) := by decide +kernel
theorem dL_comments_93 : decode cL_comments 93 = .ok (.aload 5, 2) := by decide +kernel
theorem dL_comments_95 : decode cL_comments 95 = .ok (.bipush 6, 2) := by decide +kernel
theorem dL_comments_97 : decode cL_comments 97 = .ok (.iload 9, 2) := by decide +kernel
theorem dL_comments_99 : decode cL_comments 99 = .ok (.imul, 1) := by decide +kernel
theorem dL_comments_100 : decode cL_comments 100 = .ok (.iconst 1, 1) := by decide +kernel
theorem dL_comments_101 : decode cL_comments 101 = .ok (.iadd, 1) := by decide +kernel
theorem dL_comments_102 : decode cL_comments 102 = .ok (.iconst 1, 1) := by decide +kernel
theorem dL_comments_103 : decode cL_comments 103 = .ok (.iastore, 1) := by decide +kernel
theorem dL_comments_104 : decode cL_comments 104 = .ok (.aload 5, 2) := by decide +kernel
theorem dL_comments_106 : decode cL_comments 106 = .ok (.bipush 6, 2) := by decide +kernel
theorem dL_comments_108 : decode cL_comments 108 = .ok (.iload 9, 2) := by decide +kernel
theorem dL_comments_110 : decode cL_comments 110 = .ok (.imul, 1) := by decide +kernel
theorem dL_comments_111 : decode cL_comments 111 = .ok (.iconst 3, 1) := by decide +kernel
theorem dL_comments_112 : decode cL_comments 112 = .ok (.iadd, 1) := by decide +kernel
theorem dL_comments_113 : decode cL_comments 113 = .ok (.iload 11, 2) := by decide +kernel
theorem dL_comments_115 : decode cL_comments 115 = .ok (.iastore, 1) := by decide +kernel
theorem dL_comments_116 : decode cL_comments 116 = .ok (.aload 5, 2) := by decide +kernel
theorem dL_comments_118 : decode cL_comments 118 = .ok (.bipush 6, 2) := by decide +kernel
theorem dL_comments_120 : decode cL_comments 120 = .ok (.iload 9, 2) := by decide +kernel
theorem dL_comments_122 : decode cL_comments 122 = .ok (.imul, 1) := by decide +kernel
theorem dL_comments_123 : decode cL_comments 123 = .ok (.iconst 4, 1) := by decide +kernel
theorem dL_comments_124 : decode cL_comments 124 = .ok (.iadd, 1) := by decide +kernel
theorem dL_comments_125 : decode cL_comments 125 = .ok (.iload 10, 2) := by decide +kernel
theorem dL_comments_127 : decode cL_comments 127 = .ok (.ifCond .ne 7, 3) := by decide +kernel
theorem dL_comments_130 : decode cL_comments 130 = .ok (.iconst (-1), 1) := by decide +kernel
theorem dL_comments_131 : decode cL_comments 131 = .ok (.goto 9, 3) := by decide +kernel
theorem dL_comments_134 : decode cL_comments 134 = .ok (.aload_n 3, 1) := by decide +kernel
theorem dL_comments_135 : decode cL_comments 135 = .ok (.iload 10, 2) := by decide +kernel
theorem dL_comments_137 : decode cL_comments 137 = .ok (.iconst 1, 1) := by decide +kernel
theorem dL_comments_138 : decode cL_comments 138 = .ok (.isub, 1) := by decide +kernel
theorem dL_comments_139 : decode cL_comments 139 = .ok (.iaload, 1) := by decide +kernel
theorem dL_comments_140 : decode cL_comments 140 = .ok (.iastore, 1) := by decide +kernel
theorem dL_comments_141 : decode cL_comments 141 = .ok (.aload 5, 2) := by decide +kernel
theorem dL_comments_143 : decode cL_comments 143 = .ok (.bipush 6, 2) := by decide +kernel
theorem dL_comments_145 : decode cL_comments 145 = .ok (.iload 9, 2) := by decide +kernel
theorem dL_comments_147 : decode cL_comments 147 = .ok (.imul, 1) := by decide +kernel
theorem dL_comments_148 : decode cL_comments 148 = .ok (.iconst 5, 1) := by decide +kernel
theorem dL_comments_149 : decode cL_comments 149 = .ok (.iadd, 1) := by decide +kernel
theorem dL_comments_150 : decode cL_comments 150 = .ok (.iload 10, 2) := by decide +kernel
theorem dL_comments_152 : decode cL_comments 152 = .ok (.iload 11, 2) := by decide +kernel
theorem dL_comments_154 : decode cL_comments 154 = .ok (.iadd, 1) := by decide +kernel
theorem dL_comments_155 : decode cL_comments 155 = .ok (.aload 8, 2) := by decide +kernel
theorem dL_comments_157 : decode cL_comments 157 = .ok (.iconst 0, 1) := by decide +kernel
theorem dL_comments_158 : decode cL_comments 158 = .ok (.iaload, 1) := by decide +kernel
theorem dL_comments_159 : decode cL_comments 159 = .ok (.if_icmp .ne 7, 3) := by decide +kernel
theorem dL_comments_162 : decode cL_comments 162 = .ok (.iconst (-1), 1) := by decide +kernel
theorem dL_comments_163 : decode cL_comments 163 = .ok (.goto 10, 3) := by decide +kernel
theorem dL_comments_166 : decode cL_comments 166 = .ok (.aload_n 3, 1) := by decide +kernel
theorem dL_comments_167 : decode cL_comments 167 = .ok (.iload 10, 2) := by decide +kernel
theorem dL_comments_169 : decode cL_comments 169 = .ok (.iload 11, 2) := by decide +kernel
theorem dL_comments_171 : decode cL_comments 171 = .ok (.iadd, 1) := by decide +kernel
theorem dL_comments_172 : decode cL_comments 172 = .ok (.iaload, 1) := by decide +kernel
theorem dL_comments_173 : decode cL_comments 173 = .ok (.iastore, 1) := by decide +kernel
theorem dL_comments_174 : decode cL_comments 174 = .ok (.iconst 0, 1) := by decide +kernel
theorem dL_comments_175 : decode cL_comments 175 = .ok (.istore 12, 2) := by decide +kernel
theorem dL_comments_177 : decode cL_comments 177 = .ok (.iload 12, 2) := by decide +kernel
theorem dL_comments_179 : decode cL_comments 179 = .ok (.iload 11, 2) := by decide +kernel
theorem dL_comments_181 : decode cL_comments 181 = .ok (.if_icmp .ge 42, 3) := by decide +kernel
theorem dL_comments_184 : decode cL_comments 184 = .ok (.aload 6, 2) := by decide +kernel
theorem dL_comments_186 : decode cL_comments 186 = .ok (.bipush 8, 2) := by decide +kernel
theorem dL_comments_188 : decode cL_comments 188 = .ok (.iload 9, 2) := by decide +kernel
theorem dL_comments_190 : decode cL_comments 190 = .ok (.imul, 1) := by decide +kernel
theorem dL_comments_191 : decode cL_comments 191 = .ok (.iload 12, 2) := by decide +kernel
theorem dL_comments_193 : decode cL_comments 193 = .ok (.iadd, 1) := by decide +kernel
theorem dL_comments_194 : decode cL_comments 194 = .ok (.aload_n 3, 1) := by decide +kernel
theorem dL_comments_195 : decode cL_comments 195 = .ok (.iload 10, 2) := by decide +kernel
theorem dL_comments_197 : decode cL_comments 197 = .ok (.iload 12, 2) := by decide +kernel
theorem dL_comments_199 : decode cL_comments 199 = .ok (.iadd, 1) := by decide +kernel
theorem dL_comments_200 : decode cL_comments 200 = .ok (.iaload, 1) := by decide +kernel
theorem dL_comments_201 : decode cL_comments 201 = .ok (.iastore, 1) := by decide +kernel
theorem dL_comments_202 : decode cL_comments 202 = .ok (.aload 4, 2) := by decide +kernel
theorem dL_comments_204 : decode cL_comments 204 = .ok (.iload 10, 2) := by decide +kernel

theorem dL_comments_206 : decode cL_comments 206 = .ok (.iload 12, 2) := by decide +kernel
theorem dL_comments_208 : decode cL_comments 208 = .ok (.iadd, 1) := by decide +kernel
theorem dL_comments_209 : decode cL_comments 209 = .ok (.dup2, 1) := by decide +kernel
theorem dL_comments_210 : decode cL_comments 210 = .ok (.iaload, 1) := by decide +kernel
theorem dL_comments_211 : decode cL_comments 211 = .ok (.iconst 1, 1) := by decide +kernel
theorem dL_comments_212 : decode cL_comments 212 = .ok (.iload 9, 2) := by decide +kernel
theorem dL_comments_214 : decode cL_comments 214 = .ok (.ishl, 1) := by decide +kernel
theorem dL_comments_215 : decode cL_comments 215 = .ok (.ior, 1) := by decide +kernel
theorem dL_comments_216 : decode cL_comments 216 = .ok (.iastore, 1) := by decide +kernel
theorem dL_comments_217 : decode cL_comments 217 = .ok (.iinc 12 1, 3) := by decide +kernel
theorem dL_comments_220 : decode cL_comments 220 = .ok (.goto (-43), 3) := by decide +kernel
theorem dL_comments_223 : decode cL_comments 223 = .ok (.aload 8, 2) := by decide +kernel
theorem dL_comments_225 : decode cL_comments 225 = .ok (.iconst 2, 1) := by decide +kernel
theorem dL_comments_226 : decode cL_comments 226 = .ok (.dup2, 1) := by decide +kernel
theorem dL_comments_227 : decode cL_comments 227 = .ok (.iaload, 1) := by decide +kernel
theorem dL_comments_228 : decode cL_comments 228 = .ok (.iconst 1, 1) := by decide +kernel
theorem dL_comments_229 : decode cL_comments 229 = .ok (.iadd, 1) := by decide +kernel
theorem dL_comments_230 : decode cL_comments 230 = .ok (.iastore, 1) := by decide +kernel
theorem dL_comments_231 : decode cL_comments 231 = .ok (.aload 4, 2) := by decide +kernel
theorem dL_comments_233 : decode cL_comments 233 = .ok (.aload 7, 2) := by decide +kernel
theorem dL_comments_235 : decode cL_comments 235 = .ok (.aload 8, 2) := by decide +kernel
theorem dL_comments_237 : decode cL_comments 237 = .ok (.invokestatic 40, 3) := by decide +kernel
theorem dL_comments_240 : decode cL_comments 240 = .ok (.aload_n 0, 1) := by decide +kernel
theorem dL_comments_241 : decode cL_comments 241 = .ok (.iload 10, 2) := by decide +kernel
theorem dL_comments_243 : decode cL_comments 243 = .ok (.iload 10, 2) := by decide +kernel
theorem dL_comments_245 : decode cL_comments 245 = .ok (.iload 11, 2) := by decide +kernel
theorem dL_comments_247 : decode cL_comments 247 = .ok (.iadd, 1) := by decide +kernel
theorem dL_comments_248 : decode cL_comments 248 = .ok (.aload 5, 2) := by decide +kernel
theorem dL_comments_250 : decode cL_comments 250 = .ok (.bipush 6, 2) := by decide +kernel
theorem dL_comments_252 : decode cL_comments 252 = .ok (.iload 9, 2) := by decide +kernel
theorem dL_comments_254 : decode cL_comments 254 = .ok (.imul, 1) := by decide +kernel
theorem dL_comments_255 : decode cL_comments 255 = .ok (.iaload, 1) := by decide +kernel
theorem dL_comments_256 : decode cL_comments 256 = .ok (.invokevirtual 94, 3) := by decide +kernel
theorem dL_comments_259 : decode cL_comments 259 = .ok (.iload 9, 2) := by decide +kernel
theorem dL_comments_261 : decode cL_comments 261 = .ok (.if_icmp .ne 7, 3) := by decide +kernel
theorem dL_comments_264 : decode cL_comments 264 = .ok (.iconst 1, 1) := by decide +kernel
theorem dL_comments_265 : decode cL_comments 265 = .ok (.goto 4, 3) := by decide +kernel
theorem dL_comments_268 : decode cL_comments 268 = .ok (.iconst 0, 1) := by decide +kernel
theorem dL_comments_269 : decode cL_comments 269 = .ok (.ireturn, 1) := by decide +kernel
theorem dL_comments_270 : decode cL_comments 270 = .ok (.aload 8, 2) := by decide +kernel
theorem dL_comments_272 : decode cL_comments 272 = .ok (.iconst 2, 1) := by decide +kernel
theorem dL_comments_273 : decode cL_comments 273 = .ok (.iaload, 1) := by decide +kernel
theorem dL_comments_274 : decode cL_comments 274 = .ok (.ifCond .ne 5, 3) := by decide +kernel
theorem dL_comments_277 : decode cL_comments 277 = .ok (.iconst 1, 1) := by decide +kernel
theorem dL_comments_278 : decode cL_comments 278 = .ok (.ireturn, 1) := by decide +kernel
theorem dL_comments_279 : decode cL_comments 279 = .ok (.iload_n 2, 1) := by decide +kernel
theorem dL_comments_280 : decode cL_comments 280 = .ok (.aload 8, 2) := by decide +kernel
theorem dL_comments_282 : decode cL_comments 282 = .ok (.iconst 2, 1) := by decide +kernel
theorem dL_comments_283 : decode cL_comments 283 = .ok (.iaload, 1) := by decide +kernel
theorem dL_comments_284 : decode cL_comments 284 = .ok (.invokestatic 66, 3) := by decide +kernel
theorem dL_comments_287 : decode cL_comments 287 = .ok (.istore 9, 2) := by decide +kernel
theorem dL_comments_289 : decode cL_comments 289 = .ok (.iload_n 1, 1) := by decide +kernel
theorem dL_comments_290 : decode cL_comments 290 = .ok (.iconst 1, 1) := by decide +kernel
theorem dL_comments_291 : decode cL_comments 291 = .ok (.if_icmp .ne 53, 3) := by decide +kernel
theorem dL_comments_294 : decode cL_comments 294 = .ok (.aload 5, 2) := by decide +kernel
theorem dL_comments_296 : decode cL_comments 296 = .ok (.bipush 6, 2) := by decide +kernel
theorem dL_comments_298 : decode cL_comments 298 = .ok (.iload 9, 2) := by decide +kernel
theorem dL_comments_300 : decode cL_comments 300 = .ok (.imul, 1) := by decide +kernel
theorem dL_comments_301 : decode cL_comments 301 = .ok (.iconst 1, 1) := by decide +kernel
theorem dL_comments_302 : decode cL_comments 302 = .ok (.iadd, 1) := by decide +kernel
theorem dL_comments_303 : decode cL_comments 303 = .ok (.iconst 1, 1) := by decide +kernel
theorem dL_comments_304 : decode cL_comments 304 = .ok (.iastore, 1) := by decide +kernel
theorem dL_comments_305 : decode cL_comments 305 = .ok (.aload 5, 2) := by decide +kernel
theorem dL_comments_307 : decode cL_comments 307 = .ok (.bipush 6, 2) := by decide +kernel
theorem dL_comments_309 : decode cL_comments 309 = .ok (.iload 9, 2) := by decide +kernel
theorem dL_comments_311 : decode cL_comments 311 = .ok (.imul, 1) := by decide +kernel
theorem dL_comments_312 : decode cL_comments 312 = .ok (.iconst 2, 1) := by decide +kernel
theorem dL_comments_313 : decode cL_comments 313 = .ok (.iadd, 1) := by decide +kernel
theorem dL_comments_314 : decode cL_comments 314 = .ok (.dup2, 1) := by decide +kernel
theorem dL_comments_315 : decode cL_comments 315 = .ok (.iaload, 1) := by decide +kernel
theorem dL_comments_316 : decode cL_comments 316 = .ok (.iconst 1, 1) := by decide +kernel
theorem dL_comments_317 : decode cL_comments 317 = .ok (.iadd, 1) := by decide +kernel
theorem dL_comments_318 : decode cL_comments 318 = .ok (.iastore, 1) := by decide +kernel
theorem dL_comments_319 : decode cL_comments 319 = .ok (.aload_n 0, 1) := by decide +kernel
theorem dL_comments_320 : decode cL_comments 320 = .ok (.iload 9, 2) := by decide +kernel
theorem dL_comments_322 : decode cL_comments 322 = .ok (.invokevirtual 97, 3) := by decide +kernel
theorem dL_comments_325 : decode cL_comments 325 = .ok (.aload 5, 2) := by decide +kernel
theorem dL_comments_327 : decode cL_comments 327 = .ok (.bipush 6, 2) := by decide +kernel
theorem dL_comments_329 : decode cL_comments 329 = .ok (.iload 9, 2) := by decide +kernel
theorem dL_comments_331 : decode cL_comments 331 = .ok (.imul, 1) := by decide +kernel
theorem dL_comments_332 : decode cL_comments 332 = .ok (.iconst 2, 1) := by decide +kernel
theorem dL_comments_333 : decode cL_comments 333 = .ok (.iadd, 1) := by decide +kernel
theorem dL_comments_334 : decode cL_comments 334 = .ok (.iaload, 1) := by decide +kernel
theorem dL_comments_335 : decode cL_comments 335 = .ok (.if_icmp .ne 7, 3) := by decide +kernel
theorem dL_comments_338 : decode cL_comments 338 = .ok (.iconst 1, 1) := by decide +kernel
theorem dL_comments_339 : decode cL_comments 339 = .ok (.goto 4, 3) := by decide +kernel
theorem dL_comments_342 : decode cL_comments 342 = .ok (.iconst 0, 1) := by decide +kernel
theorem dL_comments_343 : decode cL_comments 343 = .ok (.ireturn, 1) := by decide +kernel
theorem dL_comments_344 : decode cL_comments 344 = .ok (.iload_n 1, 1) := by decide +kernel
theorem dL_comments_345 : decode cL_comments 345 = .ok (.iconst 2, 1) := by decide +kernel
theorem dL_comments_346 : decode cL_comments 346 = .ok (.if_icmp .ne 52, 3) := by decide +kernel
theorem dL_comments_349 : decode cL_comments 349 = .ok (.aload 5, 2) := by decide +kernel
theorem dL_comments_351 : decode cL_comments 351 = .ok (.bipush 6, 2) := by decide +kernel
theorem dL_comments_353 : decode cL_comments 353 = .ok (.iload 9, 2) := by decide +kernel
theorem dL_comments_355 : decode cL_comments 355 = .ok (.imul, 1) := by decide +kernel
theorem dL_comments_356 : decode cL_comments 356 = .ok (.iconst 1, 1) := by decide +kernel
theorem dL_comments_357 : decode cL_comments 357 = .ok (.iadd, 1) := by decide +kernel
theorem dL_comments_358 : decode cL_comments 358 = .ok (.iaload, 1) := by decide +kernel
theorem dL_comments_359 : decode cL_comments 359 = .ok (.iconst 1, 1) := by decide +kernel
theorem dL_comments_360 : decode cL_comments 360 = .ok (.if_icmp .ne 7, 3) := by decide +kernel
theorem dL_comments_363 : decode cL_comments 363 = .ok (.iconst 1, 1) := by decide +kernel
theorem dL_comments_364 : decode cL_comments 364 = .ok (.goto 4, 3) := by decide +kernel
theorem dL_comments_367 : decode cL_comments 367 = .ok (.iconst 0, 1) := by decide +kernel
theorem dL_comments_368 : decode cL_comments 368 = .ok (.istore 10, 2) := by decide +kernel
theorem dL_comments_370 : decode cL_comments 370 = .ok (.aload 5, 2) := by decide +kernel
theorem dL_comments_372 : decode cL_comments 372 = .ok (.bipush 6, 2) := by decide +kernel
theorem dL_comments_374 : decode cL_comments 374 = .ok (.iload 9, 2) := by decide +kernel
theorem dL_comments_376 : decode cL_comments 376 = .ok (.imul, 1) := by decide +kernel
theorem dL_comments_377 : decode cL_comments 377 = .ok (.iconst 1, 1) := by decide +kernel
theorem dL_comments_378 : decode cL_comments 378 = .ok (.iadd, 1) := by decide +kernel
theorem dL_comments_379 : decode cL_comments 379 = .ok (.iconst 0, 1) := by decide +kernel
theorem dL_comments_380 : decode cL_comments 380 = .ok (.iastore, 1) := by decide +kernel
theorem dL_comments_381 : decode cL_comments 381 = .ok (.aload_n 0, 1) := by decide +kernel
theorem dL_comments_382 : decode cL_comments 382 = .ok (.iload 9, 2) := by decide +kernel
theorem dL_comments_384 : decode cL_comments 384 = .ok (.invokevirtual 100, 3) := by decide +kernel
theorem dL_comments_387 : decode cL_comments 387 = .ok (.iload 10, 2) := by decide +kernel
theorem dL_comments_389 : decode cL_comments 389 = .ok (.if_icmp .ne 7, 3) := by decide +kernel
theorem dL_comments_392 : decode cL_comments 392 = .ok (.iconst 1, 1) := by decide +kernel
theorem dL_comments_393 : decode cL_comments 393 = .ok (.goto 4, 3) := by decide +kernel
theorem dL_comments_396 : decode cL_comments 396 = .ok (.iconst 0, 1) := by decide +kernel
theorem dL_comments_397 : decode cL_comments 397 = .ok (.ireturn, 1) := by decide +kernel
theorem dL_comments_398 : decode cL_comments 398 = .ok (.aload_n 0, 1) := by decide +kernel
theorem dL_comments_399 : decode cL_comments 399 = .ok (.iconst 1, 1) := by decide +kernel
theorem dL_comments_400 : decode cL_comments 400 = .ok (.iload 9, 2) := by decide +kernel
theorem dL_comments_402 : decode cL_comments 402 = .ok (.iconst 0, 1) := by decide +kernel
theorem dL_comments_403 : decode cL_comments 403 = .ok (.iconst 0, 1) := by decide +kernel
theorem dL_comments_404 : decode cL_comments 404 = .ok (.invokestatic 104, 3) := by decide +kernel
theorem dL_comments_407 : decode cL_comments 407 = .ok (.iload 9, 2) := by decide +kernel
theorem dL_comments_409 : decode cL_comments 409 = .ok (.aload_n 3, 1) := by decide +kernel
theorem dL_comments_410 : decode cL_comments 410 = .ok (.aload 4, 2) := by decide +kernel
theorem dL_comments_412 : decode cL_comments 412 = .ok (.aload 5, 2) := by decide +kernel
theorem dL_comments_414 : decode cL_comments 414 = .ok (.aload 6, 2) := by decide +kernel
theorem dL_comments_416 : decode cL_comments 416 = .ok (.aload 7, 2) := by decide +kernel
theorem dL_comments_418 : decode cL_comments 418 = .ok (.aload 8, 2) := by decide +kernel
theorem dL_comments_420 : decode cL_comments 420 = .ok (.invokestatic 108, 3) := by decide +kernel
theorem dL_comments_423 : decode cL_comments 423 = .ok (.if_icmp .ne 7, 3) := by decide +kernel
theorem dL_comments_426 : decode cL_comments 426 = .ok (.iconst 1, 1) := by decide +kernel
theorem dL_comments_427 : decode cL_comments 427 = .ok (.goto 4, 3) := by decide +kernel
theorem dL_comments_430 : decode cL_comments 430 = .ok (.iconst 0, 1) := by decide +kernel
theorem dL_comments_431 : decode cL_comments 431 = .ok (.ireturn, 1) := by decide +kernel
set_option maxRecDepth 20000 in
theorem ggL_suggestions_L_low : GoodIn wsL_suggestions wsL_low := goodIn_r _ [4, 5] (by decide +kernel) (by decide +kernel)
set_option maxRecDepth 20000 in
theorem gL_suggestions_L_low : GoodIn wsL_suggestions (va_wsS RL 66 yL_low wsL_low) := goodIn_app (goodIn_of _ (by decide +kernel)) ggL_suggestions_L_low
set_option maxRecDepth 20000 in
theorem ggL_suggestions_X4_suggest : GoodIn wsL_suggestions wsX4_suggest := goodIn_ca (goodIn_ca (goodIn_ca (goodIn_r _ [10, 11, 12, 13, 14, 15, 16, 17, 18, 19, 9, 20, 21, 22, 23, 24, 25, 26, 27, 28, 29, 30, 31, 32, 33, 34, 35, 36, 37, 38, 39, 40, 41, 42, 43, 44, 45, 235, 236, 237, 238, 239, 240, 241, 242, 243, 244, 245, 246, 247, 248, 249, 250, 251, 252] (by decide +kernel) (by decide +kernel)) (goodIn_sub (fun _ h => List.mem_cons_of_mem _ (List.mem_append_left _ (List.mem_append_left _ (List.mem_append_right _ h)))) (by decide +kernel))) (goodIn_sub (fun _ h => List.mem_cons_of_mem _ (List.mem_append_left _ (List.mem_append_right _ h))) (by decide +kernel))) (goodIn_sub (fun _ h => List.mem_cons_of_mem _ (List.mem_append_right _ h)) (by decide +kernel))
set_option maxRecDepth 20000 in
theorem gL_suggestions_X4_suggest : GoodIn wsL_suggestions (wsV RL 112 RX4 yX4_suggest wsX4_suggest) := goodIn_app (goodIn_of _ (by decide +kernel)) ggL_suggestions_X4_suggest
set_option maxRecDepth 20000 in
theorem ggL_suggestions_L_range : GoodIn wsL_suggestions wsL_range := goodIn_r _ [48, 49, 50, 3, 51, 52, 53, 54] (by decide +kernel) (by decide +kernel)
set_option maxRecDepth 20000 in
theorem gL_suggestions_L_range : GoodIn wsL_suggestions (va_wsS RL 37 yL_range wsL_range) := goodIn_app (goodIn_of _ (by decide +kernel)) ggL_suggestions_L_range
set_option maxRecDepth 20000 in
theorem ggL_suggestions_L_calls : GoodIn wsL_suggestions wsL_calls := goodIn_ca (goodIn_ca (goodIn_ca (goodIn_r _ [57, 58, 59, 60, 61, 9, 62, 29, 23, 24, 25, 26, 27, 28, 30, 31, 32, 33, 34, 35, 36, 37, 21, 22, 63, 64, 65, 66, 11, 12, 67, 68, 69, 70, 71, 72, 13, 73, 74, 75, 76, 77, 78, 79, 80, 81, 82, 83, 39, 84, 85, 43, 44, 86, 87, 88, 89, 90, 91, 92, 42, 45, 93, 94, 95, 96, 97, 98, 99, 100, 101, 102, 103, 104, 105, 106, 107, 108, 109, 110, 111, 112, 113, 114, 115, 116, 117, 118, 119, 120, 121, 122, 123, 124, 125, 126, 127, 128, 129, 130, 131, 132, 133, 134, 135, 136, 137, 138, 139, 140, 141, 142, 143, 144, 145, 146, 147, 148, 149, 150, 151, 152, 153, 154, 155, 156, 157, 158, 159, 160, 161, 162, 163, 164, 165, 166, 167, 168, 15, 16, 14, 169, 170, 171, 172, 173, 174, 175, 176, 177, 178, 179, 180, 181, 182, 183, 184, 185, 186, 187, 188, 189, 190, 191, 192, 193, 194, 195, 196, 197, 198, 199, 200, 201, 202, 203, 204, 205, 206, 207, 208, 209, 210, 211, 212, 213, 214, 215, 216, 217, 218, 219, 220, 221, 222, 235, 236, 237, 238, 239, 240, 241, 242, 243, 244, 245, 250, 251, 252, 246, 247, 248, 249, 253, 254, 255, 256, 257] (by decide +kernel) (by decide +kernel)) (goodIn_sub (fun _ h => List.mem_cons_of_mem _ (List.mem_append_right _ h)) (by decide +kernel))) (goodIn_sub (fun _ h => List.mem_cons_of_mem _ (List.mem_append_left _ (List.mem_append_right _ h))) (by decide +kernel))) (goodIn_sub (fun _ h => List.mem_cons_of_mem _ (List.mem_append_left _ (List.mem_append_left _ (List.mem_append_right _ h)))) (by decide +kernel))
set_option maxRecDepth 20000 in
theorem gL_suggestions_L_calls : GoodIn wsL_suggestions (va_wsS RL 104 yL_calls wsL_calls) := goodIn_app (goodIn_of _ (by decide +kernel)) ggL_suggestions_L_calls
set_option maxRecDepth 20000 in
theorem ggL_suggestions_L_overlaps : GoodIn wsL_suggestions wsL_overlaps := goodIn_r _ [225] (by decide +kernel) (by decide +kernel)
set_option maxRecDepth 20000 in
theorem gL_suggestions_L_overlaps : GoodIn wsL_suggestions (va_wsS RL 82 yL_overlaps wsL_overlaps) := goodIn_app (goodIn_of _ (by decide +kernel)) ggL_suggestions_L_overlaps
set_option maxRecDepth 20000 in
theorem ggL_suggestions_L_removes : GoodIn wsL_suggestions wsL_removes := goodIn_r _ [228, 229, 230, 3, 231, 46, 47, 48, 49, 50, 51, 52, 53, 54] (by decide +kernel) (by decide +kernel)
set_option maxRecDepth 20000 in
theorem gL_suggestions_L_removes : GoodIn wsL_suggestions (va_wsS RL 116 yL_removes wsL_removes) := goodIn_app (goodIn_of _ (by decide +kernel)) ggL_suggestions_L_removes
set_option maxRecDepth 20000 in
theorem ggL_suggestions_L_inserts : GoodIn wsL_suggestions wsL_inserts := goodIn_r _ [234, 46, 47, 3, 48, 49, 50, 51, 52, 53, 54, 229, 230, 231] (by decide +kernel) (by decide +kernel)
set_option maxRecDepth 20000 in
theorem gL_suggestions_L_inserts : GoodIn wsL_suggestions (va_wsS RL 120 yL_inserts wsL_inserts) := goodIn_app (goodIn_of _ (by decide +kernel)) ggL_suggestions_L_inserts
theorem dL_suggestions_0 : decode cL_suggestions 0 = .ok (.iload_n 1, 1) := by decide +kernel
theorem dL_suggestions_1 : decode cL_suggestions 1 = .ok (.ifCond .eq 10, 3) := by decide +kernel
theorem dL_suggestions_4 : decode cL_suggestions 4 = .ok (.aload 8, 2) := by decide +kernel
theorem dL_suggestions_6 : decode cL_suggestions 6 = .ok (.iconst 3, 1) := by decide +kernel
theorem dL_suggestions_7 : decode cL_suggestions 7 = .ok (.iaload, 1) := by decide +kernel
theorem dL_suggestions_8 : decode cL_suggestions 8 = .ok (.ifCond .ne 202, 3) := by decide +kernel
theorem dL_suggestions_11 : decode cL_suggestions 11 = .ok (.aload 8, 2) := by decide +kernel
theorem dL_suggestions_13 : decode cL_suggestions 13 = .ok (.iconst 3, 1) := by decide +kernel
theorem dL_suggestions_14 : decode cL_suggestions 14 = .ok (.iaload, 1) := by decide +kernel
theorem dL_suggestions_15 : decode cL_suggestions 15 = .ok (.bipush 6, 2) := by decide +kernel
theorem dL_suggestions_17 : decode cL_suggestions 17 = .ok (.if_icmp .ge 193, 3) := by decide +kernel
theorem dL_suggestions_20 : decode cL_suggestions 20 = .ok (.aload 8, 2) := by decide +kernel
theorem dL_suggestions_22 : decode cL_suggestions 22 = .ok (.iconst 0, 1) := by decide +kernel
theorem dL_suggestions_23 : decode cL_suggestions 23 = .ok (.iaload, 1) := by decide +kernel
theorem dL_suggestions_24 : decode cL_suggestions 24 = .ok (.ifCond .le 186, 3) := by decide +kernel
theorem dL_suggestions_27 : decode cL_suggestions 27 = .ok (.iload_n 2, 1) := by decide +kernel
theorem dL_suggestions_28 : decode cL_suggestions 28 = .ok (.aload 8, 2) := by decide +kernel
theorem dL_suggestions_30 : decode cL_suggestions 30 = .ok (.iconst 0, 1) := by decide +kernel
theorem dL_suggestions_31 : decode cL_suggestions 31 = .ok (.iaload, 1) := by decide +kernel
theorem dL_suggestions_32 : decode cL_suggestions 32 = .ok (.invokestatic 66, 3) := by decide +kernel
theorem dL_suggestions_35 : decode cL_suggestions 35 = .ok (.istore 9, 2) := by decide +kernel
theorem dL_suggestions_37 : decode cL_suggestions 37 = .ok (.iconst 1, 1) := by decide +kernel
theorem dL_suggestions_38 : decode cL_suggestions 38 = .ok (.iload_n 2, 1) := by decide +kernel
theorem dL_suggestions_39 : decode cL_suggestions 39 = .ok (.iconst 4, 1) := by decide +kernel
theorem dL_suggestions_40 : decode cL_suggestions 40 = .ok (.ishr, 1) := by decide +kernel
theorem dL_suggestions_41 : decode cL_suggestions 41 = .ok (.aload 8, 2) := by decide +kernel
theorem dL_suggestions_43 : decode cL_suggestions 43 = .ok (.iconst 0, 1) := by decide +kernel
theorem dL_suggestions_44 : decode cL_suggestions 44 = .ok (.iaload, 1) := by decide +kernel
theorem dL_suggestions_45 : decode cL_suggestions 45 = .ok (.iload 9, 2) := by decide +kernel
theorem dL_suggestions_47 : decode cL_suggestions 47 = .ok (.isub, 1) := by decide +kernel
theorem dL_suggestions_48 : decode cL_suggestions 48 = .ok (.iconst 5, 1) := by decide +kernel
theorem dL_suggestions_49 : decode cL_suggestions 49 = .ok (.if_icmp .ge 13, 3) := by decide +kernel
theorem dL_suggestions_52 : decode cL_suggestions 52 = .ok (.aload 8, 2) := by decide +kernel
theorem dL_suggestions_54 : decode cL_suggestions 54 = .ok (.iconst 0, 1) := by decide +kernel
theorem dL_suggestions_55 : decode cL_suggestions 55 = .ok (.iaload, 1) := by decide +kernel
theorem dL_suggestions_56 : decode cL_suggestions 56 = .ok (.iload 9, 2) := by decide +kernel
theorem dL_suggestions_58 : decode cL_suggestions 58 = .ok (.isub, 1) := by decide +kernel
theorem dL_suggestions_59 : decode cL_suggestions 59 = .ok (.goto 4, 3) := by decide +kernel
theorem dL_suggestions_62 : decode cL_suggestions 62 = .ok (.iconst 5, 1) := by decide +kernel
theorem dL_suggestions_63 : decode cL_suggestions 63 = .ok (.invokestatic 66, 3) := by decide +kernel
theorem dL_suggestions_66 : decode cL_suggestions 66 = .ok (.iadd, 1) := by decide +kernel
theorem dL_suggestions_67 : decode cL_suggestions 67 = .ok (.istore 10, 2) := by decide +kernel
theorem dL_suggestions_69 : decode cL_suggestions 69 = .ok (.aload 6, 2) := by decide +kernel
theorem dL_suggestions_71 : decode cL_suggestions 71 = .ok (.iconst 3, 1) := by decide +kernel
theorem dL_suggestions_72 : decode cL_suggestions 72 = .ok (.aload 8, 2) := by decide +kernel
theorem dL_suggestions_74 : decode cL_suggestions 74 = .ok (.iconst 3, 1) := by decide +kernel
theorem dL_suggestions_75 : decode cL_suggestions 75 = .ok (.iaload, 1) := by decide +kernel
theorem dL_suggestions_76 : decode cL_suggestions 76 = .ok (.imul, 1) := by decide +kernel
theorem dL_suggestions_77 : decode cL_suggestions 77 = .ok (.iload_n 2, 1) := by decide +kernel
theorem dL_suggestions_78 : decode cL_suggestions 78 = .ok (.bipush 7, 2) := by decide +kernel
theorem dL_suggestions_80 : decode cL_suggestions 80 = .ok (.ishr, 1) := by decide +kernel
theorem dL_suggestions_81 : decode cL_suggestions 81 = .ok (.iconst 3, 1) := by decide +kernel
theorem dL_suggestions_82 : decode cL_suggestions 82 = .ok (.invokestatic 66, 3) := by decide +kernel
theorem dL_suggestions_85 : decode cL_suggestions 85 = .ok (.iastore, 1) := by decide +kernel
theorem dL_suggestions_86 : decode cL_suggestions 86 = .ok (.aload 6, 2) := by decide +kernel
theorem dL_suggestions_88 : decode cL_suggestions 88 = .ok (.iconst 3, 1) := by decide +kernel
theorem dL_suggestions_89 : decode cL_suggestions 89 = .ok (.aload 8, 2) := by decide +kernel
theorem dL_suggestions_91 : decode cL_suggestions 91 = .ok (.iconst 3, 1) := by decide +kernel
theorem dL_suggestions_92 : decode cL_suggestions 92 = .ok (.iaload, 1) := by decide +kernel
theorem dL_suggestions_93 : decode cL_suggestions 93 = .ok (.imul, 1) := by decide +kernel
theorem dL_suggestions_94 : decode cL_suggestions 94 = .ok (.iconst 1, 1) := by decide +kernel
theorem dL_suggestions_95 : decode cL_suggestions 95 = .ok (.iadd, 1) := by decide +kernel
theorem dL_suggestions_96 : decode cL_suggestions 96 = .ok (.iload_n 2, 1) := by decide +kernel
theorem dL_suggestions_97 : decode cL_suggestions 97 = .ok (.bipush 9, 2) := by decide +kernel
theorem dL_suggestions_99 : decode cL_suggestions 99 = .ok (.ishr, 1) := by decide +kernel
theorem dL_suggestions_100 : decode cL_suggestions 100 = .ok (.bipush 6, 2) := by decide +kernel
theorem dL_suggestions_102 : decode cL_suggestions 102 = .ok (.invokestatic 66, 3) := by decide +kernel
theorem dL_suggestions_105 : decode cL_suggestions 105 = .ok (.iastore, 1) := by decide +kernel
theorem dL_suggestions_106 : decode cL_suggestions 106 = .ok (.aload 6, 2) := by decide +kernel
theorem dL_suggestions_108 : decode cL_suggestions 108 = .ok (.iconst 3, 1) := by decide +kernel
theorem dL_suggestions_109 : decode cL_suggestions 109 = .ok (.aload 8, 2) := by decide +kernel
theorem dL_suggestions_111 : decode cL_suggestions 111 = .ok (.iconst 3, 1) := by decide +kernel
theorem dL_suggestions_112 : decode cL_suggestions 112 = .ok (.iaload, 1) := by decide +kernel
theorem dL_suggestions_113 : decode cL_suggestions 113 = .ok (.imul, 1) := by decide +kernel
theorem dL_suggestions_114 : decode cL_suggestions 114 = .ok (.iconst 2, 1) := by decide +kernel
theorem dL_suggestions_115 : decode cL_suggestions 115 = .ok (.iadd, 1) := by decide +kernel
theorem dL_suggestions_116 : decode cL_suggestions 116 = .ok (.iconst 0, 1) := by decide +kernel
theorem dL_suggestions_117 : decode cL_suggestions 117 = .ok (.iastore, 1) := by decide +kernel
theorem dL_suggestions_118 : decode cL_suggestions 118 = .ok (.iload 9, 2) := by decide +kernel
theorem dL_suggestions_120 : decode cL_suggestions 120 = .ok (.istore 11, 2) := by decide +kernel
theorem dL_suggestions_122 : decode cL_suggestions 122 = .ok (.iload 11, 2) := by decide +kernel
theorem dL_suggestions_124 : decode cL_suggestions 124 = .ok (.iload 9, 2) := by decide +kernel
theorem dL_suggestions_126 : decode cL_suggestions 126 = .ok (.iload 10, 2) := by decide +kernel
theorem dL_suggestions_128 : decode cL_suggestions 128 = .ok (.iadd, 1) := by decide +kernel
theorem dL_suggestions_129 : decode cL_suggestions 129 = .ok (.if_icmp .ge 25, 3) := by decide +kernel
theorem dL_suggestions_132 : decode cL_suggestions 132 = .ok (.aload 4, 2) := by decide +kernel
theorem dL_suggestions_134 : decode cL_suggestions 134 = .ok (.iload 11, 2) := by decide +kernel
theorem dL_suggestions_136 : decode cL_suggestions 136 = .ok (.dup2, 1) := by decide +kernel
theorem dL_suggestions_137 : decode cL_suggestions 137 = .ok (.iaload, 1) := by decide +kernel
theorem dL_suggestions_138 : decode cL_suggestions 138 = .ok (.sipush 256, 3) := by decide +kernel
theorem dL_suggestions_141 : decode cL_suggestions 141 = .ok (.aload 8, 2) := by decide +kernel
theorem dL_suggestions_143 : decode cL_suggestions 143 = .ok (.iconst 3, 1) := by decide +kernel
theorem dL_suggestions_144 : decode cL_suggestions 144 = .ok (.iaload, 1) := by decide +kernel
theorem dL_suggestions_145 : decode cL_suggestions 145 = .ok (.ishl, 1) := by decide +kernel
theorem dL_suggestions_146 : decode cL_suggestions 146 = .ok (.ior, 1) := by decide +kernel
theorem dL_suggestions_147 : decode cL_suggestions 147 = .ok (.iastore, 1) := by decide +kernel
theorem dL_suggestions_148 : decode cL_suggestions 148 = .ok (.iinc 11 1, 3) := by decide +kernel
theorem dL_suggestions_151 : decode cL_suggestions 151 = .ok (.goto (-29), 3) := by decide +kernel
theorem dL_suggestions_154 : decode cL_suggestions 154 = .ok (.aload 8, 2) := by decide +kernel
theorem dL_suggestions_156 : decode cL_suggestions 156 = .ok (.iconst 3, 1) := by decide +kernel
theorem dL_suggestions_157 : decode cL_suggestions 157 = .ok (.dup2, 1) := by decide +kernel
theorem dL_suggestions_158 : decode cL_suggestions 158 = .ok (.iaload, 1) := by decide +kernel
theorem dL_suggestions_159 : decode cL_suggestions 159 = .ok (.iconst 1, 1) := by decide +kernel
theorem dL_suggestions_160 : decode cL_suggestions 160 = .ok (.iadd, 1) := by decide +kernel
theorem dL_suggestions_161 : decode cL_suggestions 161 = .ok (.iastore, 1) := by decide +kernel
theorem dL_suggestions_162 : decode cL_suggestions 162 = .ok (.aload_n 0, 1) := by decide +kernel
theorem dL_suggestions_163 : decode cL_suggestions 163 = .ok (.iload 9, 2) := by decide +kernel
theorem dL_suggestions_165 : decode cL_suggestions 165 = .ok (.iload 9, 2) := by decide +kernel
theorem dL_suggestions_167 : decode cL_suggestions 167 = .ok (.iload 10, 2) := by decide +kernel
theorem dL_suggestions_169 : decode cL_suggestions 169 = .ok (.iadd, 1) := by decide +kernel
theorem dL_suggestions_170 : decode cL_suggestions 170 = .ok (.aload 6, 2) := by decide +kernel
theorem dL_suggestions_172 : decode cL_suggestions 172 = .ok (.iconst 3, 1) := by decide +kernel
theorem dL_suggestions_173 : decode cL_suggestions 173 = .ok (.aload 8, 2) := by decide +kernel
theorem dL_suggestions_175 : decode cL_suggestions 175 = .ok (.iconst 3, 1) := by decide +kernel
theorem dL_suggestions_176 : decode cL_suggestions 176 = .ok (.iaload, 1) := by decide +kernel
theorem dL_suggestions_177 : decode cL_suggestions 177 = .ok (.imul, 1) := by decide +kernel
theorem dL_suggestions_178 : decode cL_suggestions 178 = .ok (.iconst 3, 1) := by decide +kernel
theorem dL_suggestions_179 : decode cL_suggestions 179 = .ok (.isub, 1) := by decide +kernel
theorem dL_suggestions_180 : decode cL_suggestions 180 = .ok (.iaload, 1) := by decide +kernel
theorem dL_suggestions_181 : decode cL_suggestions 181 = .ok (.aload 6, 2) := by decide +kernel
theorem dL_suggestions_183 : decode cL_suggestions 183 = .ok (.iconst 3, 1) := by decide +kernel
theorem dL_suggestions_184 : decode cL_suggestions 184 = .ok (.aload 8, 2) := by decide +kernel
theorem dL_suggestions_186 : decode cL_suggestions 186 = .ok (.iconst 3, 1) := by decide +kernel
theorem dL_suggestions_187 : decode cL_suggestions 187 = .ok (.iaload, 1) := by decide +kernel
theorem dL_suggestions_188 : decode cL_suggestions 188 = .ok (.imul, 1) := by decide +kernel
theorem dL_suggestions_189 : decode cL_suggestions 189 = .ok (.iconst 2, 1) := by decide +kernel
theorem dL_suggestions_190 : decode cL_suggestions 190 = .ok (.isub, 1) := by decide +kernel
theorem dL_suggestions_191 : decode cL_suggestions 191 = .ok (.iaload, 1) := by decide +kernel
theorem dL_suggestions_192 : decode cL_suggestions 192 = .ok (.invokevirtual 112, 3) := by decide +kernel
theorem dL_suggestions_195 : decode cL_suggestions 195 = .ok (.aload 8, 2) := by decide +kernel
theorem dL_suggestions_197 : decode cL_suggestions 197 = .ok (.iconst 3, 1) := by decide +kernel
theorem dL_suggestions_198 : decode cL_suggestions 198 = .ok (.iaload, 1) := by decide +kernel
theorem dL_suggestions_199 : decode cL_suggestions 199 = .ok (.iconst 1, 1) := by decide +kernel
theorem dL_suggestions_200 : decode cL_suggestions 200 = .ok (.isub, 1) := by decide +kernel
theorem dL_suggestions_201 : decode cL_suggestions 201 = .ok (.if_icmp .ne 7, 3) := by decide +kernel
theorem dL_suggestions_204 : decode cL_suggestions 204 = .ok (.iconst 1, 1) := by decide +kernel
theorem dL_suggestions_205 : decode cL_suggestions 205 = .ok (.goto 4, 3) := by decide +kernel
theorem dL_suggestions_208 : decode cL_suggestions 208 = .ok (.iconst 0, 1) := by decide +kernel
theorem dL_suggestions_209 : decode cL_suggestions 209 = .ok (.ireturn, 1) := by decide +kernel
theorem dL_suggestions_210 : decode cL_suggestions 210 = .ok (.aload 8, 2) := by decide +kernel
theorem dL_suggestions_212 : decode cL_suggestions 212 = .ok (.iconst 3, 1) := by decide +kernel
theorem dL_suggestions_213 : decode cL_suggestions 213 = .ok (.iaload, 1) := by decide +kernel
theorem dL_suggestions_214 : decode cL_suggestions 214 = .ok (.ifCond .ne 5, 3) := by decide +kernel
theorem dL_suggestions_217 : decode cL_suggestions 217 = .ok (.iconst 1, 1) := by decide +kernel
theorem dL_suggestions_218 : decode cL_suggestions 218 = .ok (.ireturn, 1) := by decide +kernel
theorem dL_suggestions_219 : decode cL_suggestions 219 = .ok (.iload_n 2, 1) := by decide +kernel
theorem dL_suggestions_220 : decode cL_suggestions 220 = .ok (.aload 8, 2) := by decide +kernel
theorem dL_suggestions_222 : decode cL_suggestions 222 = .ok (.iconst 3, 1) := by decide +kernel
theorem dL_suggestions_223 : decode cL_suggestions 223 = .ok (.iaload, 1) := by decide +kernel
theorem dL_suggestions_224 : decode cL_suggestions 224 = .ok (.invokestatic 66, 3) := by decide +kernel
theorem dL_suggestions_227 : decode cL_suggestions 227 = .ok (.istore 9, 2) := by decide +kernel
theorem dL_suggestions_229 : decode cL_suggestions 229 = .ok (.bipush 8, 2) := by decide +kernel
theorem dL_suggestions_231 : decode cL_suggestions 231 = .ok (.iload 9, 2) := by decide +kernel
theorem dL_suggestions_233 : decode cL_suggestions 233 = .ok (.iadd, 1) := by decide +kernel
theorem dL_suggestions_234 : decode cL_suggestions 234 = .ok (.aload 4, 2) := by decide +kernel
theorem dL_suggestions_236 : decode cL_suggestions 236 = .ok (.aload 8, 2) := by decide +kernel
theorem dL_suggestions_238 : decode cL_suggestions 238 = .ok (.invokestatic 37, 3) := by decide +kernel
theorem dL_suggestions_241 : decode cL_suggestions 241 = .ok (.istore 10, 2) := by decide +kernel
theorem dL_suggestions_243 : decode cL_suggestions 243 = .ok (.aload 6, 2) := by decide +kernel
theorem dL_suggestions_245 : decode cL_suggestions 245 = .ok (.iconst 3, 1) := by decide +kernel
theorem dL_suggestions_246 : decode cL_suggestions 246 = .ok (.iload 9, 2) := by decide +kernel
theorem dL_suggestions_248 : decode cL_suggestions 248 = .ok (.imul, 1) := by decide +kernel
theorem dL_suggestions_249 : decode cL_suggestions 249 = .ok (.iconst 2, 1) := by decide +kernel
theorem dL_suggestions_250 : decode cL_suggestions 250 = .ok (.iadd, 1) := by decide +kernel
theorem dL_suggestions_251 : decode cL_suggestions 251 = .ok (.iaload, 1) := by decide +kernel
theorem dL_suggestions_252 : decode cL_suggestions 252 = .ok (.ifCond .ne 7, 3) := by decide +kernel
theorem dL_suggestions_255 : decode cL_suggestions 255 = .ok (.iconst 1, 1) := by decide +kernel
theorem dL_suggestions_256 : decode cL_suggestions 256 = .ok (.goto 4, 3) := by decide +kernel
theorem dL_suggestions_259 : decode cL_suggestions 259 = .ok (.iconst 0, 1) := by decide +kernel
theorem dL_suggestions_260 : decode cL_suggestions 260 = .ok (.istore 11, 2) := by decide +kernel
theorem dL_suggestions_262 : decode cL_suggestions 262 = .ok (.iload_n 1, 1) := by decide +kernel
theorem dL_suggestions_263 : decode cL_suggestions 263 = .ok (.iconst 1, 1) := by decide +kernel
theorem dL_suggestions_264 : decode cL_suggestions 264 = .ok (.if_icmp .ne 103, 3) := by decide +kernel
theorem dL_suggestions_267 : decode cL_suggestions 267 = .ok (.iconst 0, 1) := by decide +kernel
theorem dL_suggestions_268 : decode cL_suggestions 268 = .ok (.istore 12, 2) := by decide +kernel
theorem dL_suggestions_270 : decode cL_suggestions 270 = .ok (.aload 6, 2) := by decide +kernel
theorem dL_suggestions_272 : decode cL_suggestions 272 = .ok (.iconst 3, 1) := by decide +kernel
theorem dL_suggestions_273 : decode cL_suggestions 273 = .ok (.iload 9, 2) := by decide +kernel
theorem dL_suggestions_275 : decode cL_suggestions 275 = .ok (.imul, 1) := by decide +kernel
theorem dL_suggestions_276 : decode cL_suggestions 276 = .ok (.iconst 2, 1) := by decide +kernel
theorem dL_suggestions_277 : decode cL_suggestions 277 = .ok (.iadd, 1) := by decide +kernel
theorem dL_suggestions_278 : decode cL_suggestions 278 = .ok (.iload 11, 2) := by decide +kernel
theorem dL_suggestions_280 : decode cL_suggestions 280 = .ok (.ifCond .eq 7, 3) := by decide +kernel
theorem dL_suggestions_283 : decode cL_suggestions 283 = .ok (.iconst 2, 1) := by decide +kernel
theorem dL_suggestions_284 : decode cL_suggestions 284 = .ok (.goto 12, 3) := by decide +kernel
theorem dL_suggestions_287 : decode cL_suggestions 287 = .ok (.aload 6, 2) := by decide +kernel
theorem dL_suggestions_289 : decode cL_suggestions 289 = .ok (.iconst 3, 1) := by decide +kernel
theorem dL_suggestions_290 : decode cL_suggestions 290 = .ok (.iload 9, 2) := by decide +kernel
theorem dL_suggestions_292 : decode cL_suggestions 292 = .ok (.imul, 1) := by decide +kernel
theorem dL_suggestions_293 : decode cL_suggestions 293 = .ok (.iconst 2, 1) := by decide +kernel
theorem dL_suggestions_294 : decode cL_suggestions 294 = .ok (.iadd, 1) := by decide +kernel
theorem dL_suggestions_295 : decode cL_suggestions 295 = .ok (.iaload, 1) := by decide +kernel
theorem dL_suggestions_296 : decode cL_suggestions 296 = .ok (.iastore, 1) := by decide +kernel
theorem dL_suggestions_297 : decode cL_suggestions 297 = .ok (.iconst 0, 1) := by decide +kernel
theorem dL_suggestions_298 : decode cL_suggestions 298 = .ok (.istore 13, 2) := by decide +kernel
theorem dL_suggestions_300 : decode cL_suggestions 300 = .ok (.iload 13, 2) := by decide +kernel
theorem dL_suggestions_302 : decode cL_suggestions 302 = .ok (.aload 8, 2) := by decide +kernel
theorem dL_suggestions_304 : decode cL_suggestions 304 = .ok (.iconst 3, 1) := by decide +kernel
theorem dL_suggestions_305 : decode cL_suggestions 305 = .ok (.iaload, 1) := by decide +kernel
theorem dL_suggestions_306 : decode cL_suggestions 306 = .ok (.if_icmp .ge 31, 3) := by decide +kernel
theorem dL_suggestions_309 : decode cL_suggestions 309 = .ok (.iload 12, 2) := by decide +kernel
theorem dL_suggestions_311 : decode cL_suggestions 311 = .ok (.aload 6, 2) := by decide +kernel
theorem dL_suggestions_313 : decode cL_suggestions 313 = .ok (.iconst 3, 1) := by decide +kernel
theorem dL_suggestions_314 : decode cL_suggestions 314 = .ok (.iload 13, 2) := by decide +kernel
theorem dL_suggestions_316 : decode cL_suggestions 316 = .ok (.imul, 1) := by decide +kernel
theorem dL_suggestions_317 : decode cL_suggestions 317 = .ok (.iconst 2, 1) := by decide +kernel
theorem dL_suggestions_318 : decode cL_suggestions 318 = .ok (.iadd, 1) := by decide +kernel
theorem dL_suggestions_319 : decode cL_suggestions 319 = .ok (.iaload, 1) := by decide +kernel
theorem dL_suggestions_320 : decode cL_suggestions 320 = .ok (.ifCond .ne 7, 3) := by decide +kernel
theorem dL_suggestions_323 : decode cL_suggestions 323 = .ok (.iconst 1, 1) := by decide +kernel
theorem dL_suggestions_324 : decode cL_suggestions 324 = .ok (.goto 4, 3) := by decide +kernel
theorem dL_suggestions_327 : decode cL_suggestions 327 = .ok (.iconst 0, 1) := by decide +kernel
theorem dL_suggestions_328 : decode cL_suggestions 328 = .ok (.iadd, 1) := by decide +kernel
theorem dL_suggestions_329 : decode cL_suggestions 329 = .ok (.istore 12, 2) := by decide +kernel
theorem dL_suggestions_331 : decode cL_suggestions 331 = .ok (.iinc 13 1, 3) := by decide +kernel
theorem dL_suggestions_334 : decode cL_suggestions 334 = .ok (.goto (-34), 3) := by decide +kernel
theorem dL_suggestions_337 : decode cL_suggestions 337 = .ok (.aload_n 0, 1) := by decide +kernel
theorem dL_suggestions_338 : decode cL_suggestions 338 = .ok (.iconst 3, 1) := by decide +kernel
theorem dL_suggestions_339 : decode cL_suggestions 339 = .ok (.iload 9, 2) := by decide +kernel
theorem dL_suggestions_341 : decode cL_suggestions 341 = .ok (.iconst 0, 1) := by decide +kernel
theorem dL_suggestions_342 : decode cL_suggestions 342 = .ok (.iconst 0, 1) := by decide +kernel
theorem dL_suggestions_343 : decode cL_suggestions 343 = .ok (.invokestatic 104, 3) := by decide +kernel
theorem dL_suggestions_346 : decode cL_suggestions 346 = .ok (.iload 11, 2) := by decide +kernel
theorem dL_suggestions_348 : decode cL_suggestions 348 = .ok (.ifCond .eq 8, 3) := by decide +kernel
theorem dL_suggestions_351 : decode cL_suggestions 351 = .ok (.iload 12, 2) := by decide +kernel
theorem dL_suggestions_353 : decode cL_suggestions 353 = .ok (.goto 5, 3) := by decide +kernel
theorem dL_suggestions_356 : decode cL_suggestions 356 = .ok (.bipush (-3), 2) := by decide +kernel
theorem dL_suggestions_358 : decode cL_suggestions 358 = .ok (.if_icmp .ne 7, 3) := by decide +kernel
theorem dL_suggestions_361 : decode cL_suggestions 361 = .ok (.iconst 1, 1) := by decide +kernel
theorem dL_suggestions_362 : decode cL_suggestions 362 = .ok (.goto 4, 3) := by decide +kernel
theorem dL_suggestions_365 : decode cL_suggestions 365 = .ok (.iconst 0, 1) := by decide +kernel
theorem dL_suggestions_366 : decode cL_suggestions 366 = .ok (.ireturn, 1) := by decide +kernel

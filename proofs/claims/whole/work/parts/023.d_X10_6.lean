theorem dX10_multiply_236 : decode cX10_multiply 236 = .ok (.aload_n 0, 1) := by decide +kernel
theorem dX10_multiply_237 : decode cX10_multiply 237 = .ok (.getfield 66, 3) := by decide +kernel
theorem dX10_multiply_240 : decode cX10_multiply 240 = .ok (.iconst 3, 1) := by decide +kernel
theorem dX10_multiply_241 : decode cX10_multiply 241 = .ok (.iload 9, 2) := by decide +kernel
theorem dX10_multiply_243 : decode cX10_multiply 243 = .ok (.iadd, 1) := by decide +kernel
theorem dX10_multiply_244 : decode cX10_multiply 244 = .ok (.iaload, 1) := by decide +kernel
theorem dX10_multiply_245 : decode cX10_multiply 245 = .ok (.iadd, 1) := by decide +kernel
theorem dX10_multiply_246 : decode cX10_multiply 246 = .ok (.invokevirtual 206, 3) := by decide +kernel
theorem dX10_multiply_249 : decode cX10_multiply 249 = .ok (.istore 8, 2) := by decide +kernel
theorem dX10_multiply_251 : decode cX10_multiply 251 = .ok (.iinc 9 1, 3) := by decide +kernel
theorem dX10_multiply_254 : decode cX10_multiply 254 = .ok (.goto (-133), 3) := by decide +kernel
theorem dX10_multiply_257 : decode cX10_multiply 257 = .ok (.aload_n 0, 1) := by decide +kernel
theorem dX10_multiply_258 : decode cX10_multiply 258 = .ok (.aload_n 0, 1) := by decide +kernel
theorem dX10_multiply_259 : decode cX10_multiply 259 = .ok (.getfield 69, 3) := by decide +kernel
theorem dX10_multiply_262 : decode cX10_multiply 262 = .ok (.iload 4, 2) := by decide +kernel
theorem dX10_multiply_264 : decode cX10_multiply 264 = .ok (.iaload, 1) := by decide +kernel
theorem dX10_multiply_265 : decode cX10_multiply 265 = .ok (.invokevirtual 209, 3) := by decide +kernel
theorem dX10_multiply_268 : decode cX10_multiply 268 = .ok (.aload_n 0, 1) := by decide +kernel
theorem dX10_multiply_269 : decode cX10_multiply 269 = .ok (.aload_n 0, 1) := by decide +kernel
theorem dX10_multiply_270 : decode cX10_multiply 270 = .ok (.getfield 69, 3) := by decide +kernel
theorem dX10_multiply_273 : decode cX10_multiply 273 = .ok (.iconst 3, 1) := by decide +kernel
theorem dX10_multiply_274 : decode cX10_multiply 274 = .ok (.iload 4, 2) := by decide +kernel
theorem dX10_multiply_276 : decode cX10_multiply 276 = .ok (.iadd, 1) := by decide +kernel
theorem dX10_multiply_277 : decode cX10_multiply 277 = .ok (.iaload, 1) := by decide +kernel
theorem dX10_multiply_278 : decode cX10_multiply 278 = .ok (.invokevirtual 209, 3) := by decide +kernel
theorem dX10_multiply_281 : decode cX10_multiply 281 = .ok (.aload_n 0, 1) := by decide +kernel
theorem dX10_multiply_282 : decode cX10_multiply 282 = .ok (.aload_n 0, 1) := by decide +kernel
theorem dX10_multiply_283 : decode cX10_multiply 283 = .ok (.getfield 69, 3) := by decide +kernel
theorem dX10_multiply_286 : decode cX10_multiply 286 = .ok (.bipush 6, 2) := by decide +kernel
theorem dX10_multiply_288 : decode cX10_multiply 288 = .ok (.iload 4, 2) := by decide +kernel
theorem dX10_multiply_290 : decode cX10_multiply 290 = .ok (.iadd, 1) := by decide +kernel
theorem dX10_multiply_291 : decode cX10_multiply 291 = .ok (.iaload, 1) := by decide +kernel
theorem dX10_multiply_292 : decode cX10_multiply 292 = .ok (.invokevirtual 209, 3) := by decide +kernel
theorem dX10_multiply_295 : decode cX10_multiply 295 = .ok (.iconst 0, 1) := by decide +kernel
theorem dX10_multiply_296 : decode cX10_multiply 296 = .ok (.istore 9, 2) := by decide +kernel
theorem dX10_multiply_298 : decode cX10_multiply 298 = .ok (.iload 9, 2) := by decide +kernel
theorem dX10_multiply_300 : decode cX10_multiply 300 = .ok (.bipush 6, 2) := by decide +kernel
theorem dX10_multiply_302 : decode cX10_multiply 302 = .ok (.if_icmp .ge 20, 3) := by decide +kernel
theorem dX10_multiply_305 : decode cX10_multiply 305 = .ok (.aload_n 0, 1) := by decide +kernel
theorem dX10_multiply_306 : decode cX10_multiply 306 = .ok (.aload_n 0, 1) := by decide +kernel
theorem dX10_multiply_307 : decode cX10_multiply 307 = .ok (.getfield 66, 3) := by decide +kernel
theorem dX10_multiply_310 : decode cX10_multiply 310 = .ok (.iload 9, 2) := by decide +kernel
theorem dX10_multiply_312 : decode cX10_multiply 312 = .ok (.iaload, 1) := by decide +kernel
theorem dX10_multiply_313 : decode cX10_multiply 313 = .ok (.invokevirtual 209, 3) := by decide +kernel
theorem dX10_multiply_316 : decode cX10_multiply 316 = .ok (.iinc 9 1, 3) := by decide +kernel
theorem dX10_multiply_319 : decode cX10_multiply 319 = .ok (.goto (-21), 3) := by decide +kernel
theorem dX10_multiply_322 : decode cX10_multiply 322 = .ok (.iconst 0, 1) := by decide +kernel
theorem dX10_multiply_323 : decode cX10_multiply 323 = .ok (.istore 9, 2) := by decide +kernel
theorem dX10_multiply_325 : decode cX10_multiply 325 = .ok (.iload 9, 2) := by decide +kernel
theorem dX10_multiply_327 : decode cX10_multiply 327 = .ok (.iconst 3, 1) := by decide +kernel
theorem dX10_multiply_328 : decode cX10_multiply 328 = .ok (.if_icmp .ge 78, 3) := by decide +kernel
theorem dX10_multiply_331 : decode cX10_multiply 331 = .ok (.aload_n 0, 1) := by decide +kernel
theorem dX10_multiply_332 : decode cX10_multiply 332 = .ok (.getfield 54, 3) := by decide +kernel
theorem dX10_multiply_335 : decode cX10_multiply 335 = .ok (.iconst 3, 1) := by decide +kernel
theorem dX10_multiply_336 : decode cX10_multiply 336 = .ok (.aload_n 0, 1) := by decide +kernel
theorem dX10_multiply_337 : decode cX10_multiply 337 = .ok (.getfield 17, 3) := by decide +kernel
theorem dX10_multiply_340 : decode cX10_multiply 340 = .ok (.iload_n 1, 1) := by decide +kernel
theorem dX10_multiply_341 : decode cX10_multiply 341 = .ok (.iaload, 1) := by decide +kernel
theorem dX10_multiply_342 : decode cX10_multiply 342 = .ok (.imul, 1) := by decide +kernel
theorem dX10_multiply_343 : decode cX10_multiply 343 = .ok (.iload 9, 2) := by decide +kernel
theorem dX10_multiply_345 : decode cX10_multiply 345 = .ok (.iadd, 1) := by decide +kernel
theorem dX10_multiply_346 : decode cX10_multiply 346 = .ok (.aload_n 0, 1) := by decide +kernel
theorem dX10_multiply_347 : decode cX10_multiply 347 = .ok (.aload_n 0, 1) := by decide +kernel
theorem dX10_multiply_348 : decode cX10_multiply 348 = .ok (.getfield 69, 3) := by decide +kernel
theorem dX10_multiply_351 : decode cX10_multiply 351 = .ok (.bipush 6, 2) := by decide +kernel
theorem dX10_multiply_353 : decode cX10_multiply 353 = .ok (.iload 9, 2) := by decide +kernel
theorem dX10_multiply_355 : decode cX10_multiply 355 = .ok (.iadd, 1) := by decide +kernel
theorem dX10_multiply_356 : decode cX10_multiply 356 = .ok (.iaload, 1) := by decide +kernel
theorem dX10_multiply_357 : decode cX10_multiply 357 = .ok (.iload 7, 2) := by decide +kernel
theorem dX10_multiply_359 : decode cX10_multiply 359 = .ok (.aload_n 0, 1) := by decide +kernel
theorem dX10_multiply_360 : decode cX10_multiply 360 = .ok (.getfield 69, 3) := by decide +kernel
theorem dX10_multiply_363 : decode cX10_multiply 363 = .ok (.iconst 3, 1) := by decide +kernel
theorem dX10_multiply_364 : decode cX10_multiply 364 = .ok (.iload 9, 2) := by decide +kernel
theorem dX10_multiply_366 : decode cX10_multiply 366 = .ok (.iadd, 1) := by decide +kernel
theorem dX10_multiply_367 : decode cX10_multiply 367 = .ok (.iaload, 1) := by decide +kernel
theorem dX10_multiply_368 : decode cX10_multiply 368 = .ok (.imul, 1) := by decide +kernel
theorem dX10_multiply_369 : decode cX10_multiply 369 = .ok (.iadd, 1) := by decide +kernel
theorem dX10_multiply_370 : decode cX10_multiply 370 = .ok (.iload 8, 2) := by decide +kernel
theorem dX10_multiply_372 : decode cX10_multiply 372 = .ok (.aload_n 0, 1) := by decide +kernel
theorem dX10_multiply_373 : decode cX10_multiply 373 = .ok (.getfield 69, 3) := by decide +kernel
theorem dX10_multiply_376 : decode cX10_multiply 376 = .ok (.iload 9, 2) := by decide +kernel
theorem dX10_multiply_378 : decode cX10_multiply 378 = .ok (.iaload, 1) := by decide +kernel
theorem dX10_multiply_379 : decode cX10_multiply 379 = .ok (.imul, 1) := by decide +kernel
theorem dX10_multiply_380 : decode cX10_multiply 380 = .ok (.iadd, 1) := by decide +kernel
theorem dX10_multiply_381 : decode cX10_multiply 381 = .ok (.iload 9, 2) := by decide +kernel
theorem dX10_multiply_383 : decode cX10_multiply 383 = .ok (.ifCond .ne 11, 3) := by decide +kernel
theorem dX10_multiply_386 : decode cX10_multiply 386 = .ok (.iload 7, 2) := by decide +kernel
theorem dX10_multiply_388 : decode cX10_multiply 388 = .ok (.iload 8, 2) := by decide +kernel
theorem dX10_multiply_390 : decode cX10_multiply 390 = .ok (.imul, 1) := by decide +kernel
theorem dX10_multiply_391 : decode cX10_multiply 391 = .ok (.goto 4, 3) := by decide +kernel
theorem dX10_multiply_394 : decode cX10_multiply 394 = .ok (.iconst 0, 1) := by decide +kernel
theorem dX10_multiply_395 : decode cX10_multiply 395 = .ok (.iadd, 1) := by decide +kernel
theorem dX10_multiply_396 : decode cX10_multiply 396 = .ok (.invokevirtual 206, 3) := by decide +kernel
theorem dX10_multiply_399 : decode cX10_multiply 399 = .ok (.iastore, 1) := by decide +kernel
theorem dX10_multiply_400 : decode cX10_multiply 400 = .ok (.iinc 9 1, 3) := by decide +kernel
theorem dX10_multiply_403 : decode cX10_multiply 403 = .ok (.goto (-78), 3) := by decide +kernel
theorem dX10_multiply_406 : decode cX10_multiply 406 = .ok (.return_, 1) := by decide +kernel
set_option maxRecDepth 20000 in
theorem ggX10_runAsTold_X10_run : GoodIn wsX10_runAsTold wsX10_run := goodIn_r _ [7, 8, 9, 10, 11, 12, 13, 14, 1, 15, 16, 17, 18, 19, 20, 21, 6, 22, 23, 24, 25, 26, 27, 28, 29, 30, 31, 32, 33, 34, 35, 36, 37, 38, 39, 40, 41, 42, 43, 44, 45, 46, 47, 48, 49, 50, 51, 52, 53, 54, 55, 56, 57, 58, 59, 60, 61, 62, 63, 64, 65, 66, 67, 68, 69, 70, 71, 72, 73, 74, 75, 76, 77, 78, 79, 80, 81, 82, 83, 84, 85, 86, 87, 88, 89] rfl (by decide +kernel)
set_option maxRecDepth 20000 in
theorem gX10_runAsTold_X10_run : GoodIn wsX10_runAsTold (wsV RX10 223 RX10 yX10_run wsX10_run) := goodIn_app (goodIn_of _ (by decide +kernel)) ggX10_runAsTold_X10_run
theorem dX10_runAsTold_0 : decode cX10_runAsTold 0 = .ok (.iconst 0, 1) := by decide +kernel
theorem dX10_runAsTold_1 : decode cX10_runAsTold 1 = .ok (.istore_n 2, 1) := by decide +kernel
theorem dX10_runAsTold_2 : decode cX10_runAsTold 2 = .ok (.iload_n 2, 1) := by decide +kernel
theorem dX10_runAsTold_3 : decode cX10_runAsTold 3 = .ok (.bipush 40, 2) := by decide +kernel
theorem dX10_runAsTold_5 : decode cX10_runAsTold 5 = .ok (.if_icmp .ge 21, 3) := by decide +kernel
theorem dX10_runAsTold_8 : decode cX10_runAsTold 8 = .ok (.aload_n 0, 1) := by decide +kernel
theorem dX10_runAsTold_9 : decode cX10_runAsTold 9 = .ok (.getfield 60, 3) := by decide +kernel
theorem dX10_runAsTold_12 : decode cX10_runAsTold 12 = .ok (.iload_n 2, 1) := by decide +kernel
theorem dX10_runAsTold_13 : decode cX10_runAsTold 13 = .ok (.aload_n 0, 1) := by decide +kernel
theorem dX10_runAsTold_14 : decode cX10_runAsTold 14 = .ok (.getfield 42, 3) := by decide +kernel
theorem dX10_runAsTold_17 : decode cX10_runAsTold 17 = .ok (.iload_n 2, 1) := by decide +kernel
theorem dX10_runAsTold_18 : decode cX10_runAsTold 18 = .ok (.iaload, 1) := by decide +kernel
theorem dX10_runAsTold_19 : decode cX10_runAsTold 19 = .ok (.iastore, 1) := by decide +kernel
theorem dX10_runAsTold_20 : decode cX10_runAsTold 20 = .ok (.iinc 2 1, 3) := by decide +kernel
theorem dX10_runAsTold_23 : decode cX10_runAsTold 23 = .ok (.goto (-21), 3) := by decide +kernel
theorem dX10_runAsTold_26 : decode cX10_runAsTold 26 = .ok (.aload_n 0, 1) := by decide +kernel
theorem dX10_runAsTold_27 : decode cX10_runAsTold 27 = .ok (.iconst 0, 1) := by decide +kernel
theorem dX10_runAsTold_28 : decode cX10_runAsTold 28 = .ok (.iconst 1, 1) := by decide +kernel
theorem dX10_runAsTold_29 : decode cX10_runAsTold 29 = .ok (.iload_n 1, 1) := by decide +kernel
theorem dX10_runAsTold_30 : decode cX10_runAsTold 30 = .ok (.invokevirtual 223, 3) := by decide +kernel
theorem dX10_runAsTold_33 : decode cX10_runAsTold 33 = .ok (.return_, 1) := by decide +kernel
set_option maxRecDepth 20000 in
theorem ggX10_end_X10_runAsTold : GoodIn wsX10_end wsX10_runAsTold := goodIn_r _ [6, 7, 8, 9, 10, 11, 5, 12, 13, 14, 15, 16, 17, 18, 19, 20, 21, 1, 22, 23, 24, 25, 26, 27, 28, 29, 30, 31, 32, 33, 34, 35, 36, 37, 38, 39, 40, 41, 42, 43, 44, 45, 46, 47, 48, 49, 50, 51, 52, 53, 54, 55, 56, 57, 58, 59, 60, 61, 62, 63, 64, 65, 66, 67, 68, 69, 70, 71, 72, 73, 74, 75, 76, 77, 78, 79, 80, 81, 82, 83, 84, 85, 86, 87, 88, 89, 90, 91, 92, 93] rfl (by decide +kernel)
set_option maxRecDepth 20000 in
theorem gX10_end_X10_runAsTold : GoodIn wsX10_end (wsV RX10 227 RX10 yX10_runAsTold wsX10_runAsTold) := goodIn_app (goodIn_of _ (by decide +kernel)) ggX10_end_X10_runAsTold
theorem dX10_end_0 : decode cX10_end 0 = .ok (.aload_n 0, 1) := by decide +kernel
theorem dX10_end_1 : decode cX10_end 1 = .ok (.iconst 0, 1) := by decide +kernel
theorem dX10_end_2 : decode cX10_end 2 = .ok (.invokevirtual 227, 3) := by decide +kernel
theorem dX10_end_5 : decode cX10_end 5 = .ok (.aload_n 0, 1) := by decide +kernel
theorem dX10_end_6 : decode cX10_end 6 = .ok (.getfield 216, 3) := by decide +kernel
theorem dX10_end_9 : decode cX10_end 9 = .ok (.ireturn, 1) := by decide +kernel
set_option maxRecDepth 20000 in
theorem ggX10_share_X10_isItem : GoodIn wsX10_share wsX10_isItem := goodIn_r _ [6, 7, 8, 9, 5, 10, 58, 59, 60, 61, 62, 63, 64, 65, 66, 67, 68, 69, 70, 71, 72, 73, 74, 75, 76, 77, 78, 79, 80, 81, 82, 83, 84, 85, 86, 87, 88, 89, 90, 91, 92, 93, 94, 95, 96, 97, 98, 99, 100, 101, 102, 103, 104] rfl (by decide +kernel)
set_option maxRecDepth 20000 in
theorem gX10_share_X10_isItem : GoodIn wsX10_share (wsV RX10 180 RX10 yX10_isItem wsX10_isItem) := goodIn_app (goodIn_of _ (by decide +kernel)) ggX10_share_X10_isItem
set_option maxRecDepth 20000 in
theorem ggX10_share_X10_isHand : GoodIn wsX10_share wsX10_isHand := goodIn_r _ [13, 14, 8, 9, 5, 10] rfl (by decide +kernel)
set_option maxRecDepth 20000 in
theorem gX10_share_X10_isHand : GoodIn wsX10_share (va_wsS RX10 200 yX10_isHand wsX10_isHand) := goodIn_app (goodIn_of _ (by decide +kernel)) ggX10_share_X10_isHand
set_option maxRecDepth 20000 in
theorem ggX10_share_X10_runAsTold : GoodIn wsX10_share wsX10_runAsTold := goodIn_r _ [18, 19, 20, 21, 22, 23, 5, 24, 25, 7, 26, 27, 28, 29, 30, 31, 32, 33, 1, 34, 35, 36, 37, 38, 39, 40, 41, 42, 43, 44, 45, 46, 47, 48, 49, 50, 51, 52, 53, 54, 55, 56, 57, 58, 59, 60, 61, 62, 63, 64, 65, 66, 67, 68, 69, 70, 71, 72, 73, 74, 75, 76, 77, 78, 79, 80, 81, 82, 83, 84, 85, 86, 87, 88, 89, 90, 91, 92, 93, 94, 95, 96, 97, 98, 99, 100, 101, 102, 103, 104] rfl (by decide +kernel)
set_option maxRecDepth 20000 in
theorem gX10_share_X10_runAsTold : GoodIn wsX10_share (wsV RX10 227 RX10 yX10_runAsTold wsX10_runAsTold) := goodIn_app (goodIn_of _ (by decide +kernel)) ggX10_share_X10_runAsTold
theorem dX10_share_0 : decode cX10_share 0 = .ok (.aload_n 0, 1) := by decide +kernel
theorem dX10_share_1 : decode cX10_share 1 = .ok (.iload_n 1, 1) := by decide +kernel
theorem dX10_share_2 : decode cX10_share 2 = .ok (.invokevirtual 180, 3) := by decide +kernel
theorem dX10_share_5 : decode cX10_share 5 = .ok (.ifCond .eq 10, 3) := by decide +kernel
theorem dX10_share_8 : decode cX10_share 8 = .ok (.iload_n 2, 1) := by decide +kernel
theorem dX10_share_9 : decode cX10_share 9 = .ok (.invokestatic 200, 3) := by decide +kernel
theorem dX10_share_12 : decode cX10_share 12 = .ok (.ifCond .ne 5, 3) := by decide +kernel
theorem dX10_share_15 : decode cX10_share 15 = .ok (.iconst (-1), 1) := by decide +kernel
theorem dX10_share_16 : decode cX10_share 16 = .ok (.ireturn, 1) := by decide +kernel
theorem dX10_share_17 : decode cX10_share 17 = .ok (.aload_n 0, 1) := by decide +kernel
theorem dX10_share_18 : decode cX10_share 18 = .ok (.iconst 0, 1) := by decide +kernel
theorem dX10_share_19 : decode cX10_share 19 = .ok (.invokevirtual 227, 3) := by decide +kernel
theorem dX10_share_22 : decode cX10_share 22 = .ok (.aload_n 0, 1) := by decide +kernel
theorem dX10_share_23 : decode cX10_share 23 = .ok (.getfield 57, 3) := by decide +kernel
theorem dX10_share_26 : decode cX10_share 26 = .ok (.iconst 3, 1) := by decide +kernel
theorem dX10_share_27 : decode cX10_share 27 = .ok (.iload_n 1, 1) := by decide +kernel
theorem dX10_share_28 : decode cX10_share 28 = .ok (.imul, 1) := by decide +kernel
theorem dX10_share_29 : decode cX10_share 29 = .ok (.iload_n 2, 1) := by decide +kernel
theorem dX10_share_30 : decode cX10_share 30 = .ok (.iadd, 1) := by decide +kernel
theorem dX10_share_31 : decode cX10_share 31 = .ok (.iaload, 1) := by decide +kernel
theorem dX10_share_32 : decode cX10_share 32 = .ok (.ireturn, 1) := by decide +kernel
set_option maxRecDepth 20000 in
theorem ggX10_seen_X10_isHand : GoodIn wsX10_seen wsX10_isHand := goodIn_r _ [6, 7, 8, 9, 5, 10] rfl (by decide +kernel)
set_option maxRecDepth 20000 in
theorem gX10_seen_X10_isHand : GoodIn wsX10_seen (va_wsS RX10 200 yX10_isHand wsX10_isHand) := goodIn_app (goodIn_of _ (by decide +kernel)) ggX10_seen_X10_isHand
set_option maxRecDepth 20000 in
theorem ggX10_seen_X10_runAsTold : GoodIn wsX10_seen wsX10_runAsTold := goodIn_r _ [14, 15, 16, 17, 18, 19, 5, 20, 1, 21, 22, 23, 24, 25, 26, 27, 28, 29, 30, 31, 32, 33, 34, 35, 36, 37, 38, 39, 2, 40, 41, 42, 43, 44, 45, 46, 47, 48, 49, 50, 51, 52, 53, 54, 55, 56, 57, 58, 59, 60, 61, 62, 63, 64, 65, 66, 67, 68, 69, 70, 71, 72, 73, 74, 75, 76, 77, 78, 79, 80, 81, 82, 83, 84, 85, 86, 87, 88, 89, 90, 91, 92, 93, 94, 95, 96, 97, 98, 99, 100] rfl (by decide +kernel)
set_option maxRecDepth 20000 in
theorem gX10_seen_X10_runAsTold : GoodIn wsX10_seen (wsV RX10 227 RX10 yX10_runAsTold wsX10_runAsTold) := goodIn_app (goodIn_of _ (by decide +kernel)) ggX10_seen_X10_runAsTold
theorem dX10_seen_0 : decode cX10_seen 0 = .ok (.iload_n 1, 1) := by decide +kernel
theorem dX10_seen_1 : decode cX10_seen 1 = .ok (.invokestatic 200, 3) := by decide +kernel
theorem dX10_seen_4 : decode cX10_seen 4 = .ok (.ifCond .eq 8, 3) := by decide +kernel
theorem dX10_seen_7 : decode cX10_seen 7 = .ok (.iload_n 2, 1) := by decide +kernel
theorem dX10_seen_8 : decode cX10_seen 8 = .ok (.iconst (-1), 1) := by decide +kernel
theorem dX10_seen_9 : decode cX10_seen 9 = .ok (.if_icmp .ge 5, 3) := by decide +kernel
theorem dX10_seen_12 : decode cX10_seen 12 = .ok (.iconst (-1), 1) := by decide +kernel
theorem dX10_seen_13 : decode cX10_seen 13 = .ok (.ireturn, 1) := by decide +kernel
theorem dX10_seen_14 : decode cX10_seen 14 = .ok (.aload_n 0, 1) := by decide +kernel
theorem dX10_seen_15 : decode cX10_seen 15 = .ok (.iload_n 1, 1) := by decide +kernel
theorem dX10_seen_16 : decode cX10_seen 16 = .ok (.invokevirtual 227, 3) := by decide +kernel
theorem dX10_seen_19 : decode cX10_seen 19 = .ok (.iload_n 2, 1) := by decide +kernel
theorem dX10_seen_20 : decode cX10_seen 20 = .ok (.ifCond .ge 10, 3) := by decide +kernel
theorem dX10_seen_23 : decode cX10_seen 23 = .ok (.aload_n 0, 1) := by decide +kernel
theorem dX10_seen_24 : decode cX10_seen 24 = .ok (.getfield 203, 3) := by decide +kernel
theorem dX10_seen_27 : decode cX10_seen 27 = .ok (.goto 21, 3) := by decide +kernel
theorem dX10_seen_30 : decode cX10_seen 30 = .ok (.iload_n 2, 1) := by decide +kernel
theorem dX10_seen_31 : decode cX10_seen 31 = .ok (.aload_n 0, 1) := by decide +kernel
theorem dX10_seen_32 : decode cX10_seen 32 = .ok (.getfield 203, 3) := by decide +kernel
theorem dX10_seen_35 : decode cX10_seen 35 = .ok (.if_icmp .ge 12, 3) := by decide +kernel
theorem dX10_seen_38 : decode cX10_seen 38 = .ok (.aload_n 0, 1) := by decide +kernel
theorem dX10_seen_39 : decode cX10_seen 39 = .ok (.getfield 63, 3) := by decide +kernel
theorem dX10_seen_42 : decode cX10_seen 42 = .ok (.iload_n 2, 1) := by decide +kernel
theorem dX10_seen_43 : decode cX10_seen 43 = .ok (.iaload, 1) := by decide +kernel
theorem dX10_seen_44 : decode cX10_seen 44 = .ok (.goto 4, 3) := by decide +kernel
theorem dX10_seen_47 : decode cX10_seen 47 = .ok (.iconst (-1), 1) := by decide +kernel
theorem dX10_seen_48 : decode cX10_seen 48 = .ok (.ireturn, 1) := by decide +kernel
set_option maxRecDepth 20000 in
theorem ggX10_lotsTaken_X10_countOf : GoodIn wsX10_lotsTaken wsX10_countOf := goodIn_r _ [5, 6, 7, 8, 9, 10, 11, 12, 13, 14, 15, 16, 17, 18, 19, 20, 21, 22, 23, 24, 25, 26, 27, 28, 29, 30, 31, 32, 33, 34, 35, 36, 37, 38, 39, 40, 41, 42, 43, 44, 45, 46, 47, 48, 49, 50, 51, 52, 53, 54] rfl (by decide +kernel)
set_option maxRecDepth 20000 in
theorem gX10_lotsTaken_X10_countOf : GoodIn wsX10_lotsTaken (wsV RX10 192 RX10 yX10_countOf wsX10_countOf) := goodIn_app (goodIn_of _ (by decide +kernel)) ggX10_lotsTaken_X10_countOf
theorem dX10_lotsTaken_0 : decode cX10_lotsTaken 0 = .ok (.iconst 2, 1) := by decide +kernel
theorem dX10_lotsTaken_1 : decode cX10_lotsTaken 1 = .ok (.aload_n 0, 1) := by decide +kernel
theorem dX10_lotsTaken_2 : decode cX10_lotsTaken 2 = .ok (.iconst 0, 1) := by decide +kernel
theorem dX10_lotsTaken_3 : decode cX10_lotsTaken 3 = .ok (.invokevirtual 192, 3) := by decide +kernel
theorem dX10_lotsTaken_6 : decode cX10_lotsTaken 6 = .ok (.imul, 1) := by decide +kernel
theorem dX10_lotsTaken_7 : decode cX10_lotsTaken 7 = .ok (.bipush 8, 2) := by decide +kernel
theorem dX10_lotsTaken_9 : decode cX10_lotsTaken 9 = .ok (.aload_n 0, 1) := by decide +kernel
theorem dX10_lotsTaken_10 : decode cX10_lotsTaken 10 = .ok (.iconst 4, 1) := by decide +kernel
theorem dX10_lotsTaken_11 : decode cX10_lotsTaken 11 = .ok (.invokevirtual 192, 3) := by decide +kernel
theorem dX10_lotsTaken_14 : decode cX10_lotsTaken 14 = .ok (.imul, 1) := by decide +kernel
theorem dX10_lotsTaken_15 : decode cX10_lotsTaken 15 = .ok (.iadd, 1) := by decide +kernel
theorem dX10_lotsTaken_16 : decode cX10_lotsTaken 16 = .ok (.ireturn, 1) := by decide +kernel
theorem dX10_power_0 : decode cX10_power 0 = .ok (.iconst 1, 1) := by decide +kernel
theorem dX10_power_1 : decode cX10_power 1 = .ok (.istore_n 2, 1) := by decide +kernel
theorem dX10_power_2 : decode cX10_power 2 = .ok (.iconst 0, 1) := by decide +kernel
theorem dX10_power_3 : decode cX10_power 3 = .ok (.istore_n 3, 1) := by decide +kernel
theorem dX10_power_4 : decode cX10_power 4 = .ok (.iload_n 3, 1) := by decide +kernel
theorem dX10_power_5 : decode cX10_power 5 = .ok (.iload_n 1, 1) := by decide +kernel
theorem dX10_power_6 : decode cX10_power 6 = .ok (.if_icmp .ge 23, 3) := by decide +kernel
theorem dX10_power_9 : decode cX10_power 9 = .ok (.iload_n 2, 1) := by decide +kernel
theorem dX10_power_10 : decode cX10_power 10 = .ok (.sipush 4096, 3) := by decide +kernel
theorem dX10_power_13 : decode cX10_power 13 = .ok (.if_icmp .gt 16, 3) := by decide +kernel
theorem dX10_power_16 : decode cX10_power 16 = .ok (.iload_n 2, 1) := by decide +kernel
theorem dX10_power_17 : decode cX10_power 17 = .ok (.aload_n 0, 1) := by decide +kernel
theorem dX10_power_18 : decode cX10_power 18 = .ok (.getfield 35, 3) := by decide +kernel
theorem dX10_power_21 : decode cX10_power 21 = .ok (.imul, 1) := by decide +kernel
theorem dX10_power_22 : decode cX10_power 22 = .ok (.istore_n 2, 1) := by decide +kernel
theorem dX10_power_23 : decode cX10_power 23 = .ok (.iinc 3 1, 3) := by decide +kernel
theorem dX10_power_26 : decode cX10_power 26 = .ok (.goto (-22), 3) := by decide +kernel
theorem dX10_power_29 : decode cX10_power 29 = .ok (.iload_n 2, 1) := by decide +kernel
theorem dX10_power_30 : decode cX10_power 30 = .ok (.sipush 4096, 3) := by decide +kernel
theorem dX10_power_33 : decode cX10_power 33 = .ok (.if_icmp .le 9, 3) := by decide +kernel
theorem dX10_power_36 : decode cX10_power 36 = .ok (.sipush 4097, 3) := by decide +kernel
theorem dX10_power_39 : decode cX10_power 39 = .ok (.goto 4, 3) := by decide +kernel
theorem dX10_power_42 : decode cX10_power 42 = .ok (.iload_n 2, 1) := by decide +kernel
theorem dX10_power_43 : decode cX10_power 43 = .ok (.ireturn, 1) := by decide +kernel
set_option maxRecDepth 20000 in
theorem ggX10_findRows_X10_lotsTaken : GoodIn wsX10_findRows wsX10_lotsTaken := goodIn_r _ [10, 11, 12, 13, 9, 14, 15, 16, 55, 56, 57, 58, 59, 60, 61, 62, 63, 64, 65, 66, 67, 68, 69, 70, 71, 72, 73, 74, 75, 76, 77, 78, 79, 80, 81, 82, 83, 84, 85, 86, 87, 88, 89, 90, 91, 92, 93, 94, 95, 96, 97, 98, 99, 100, 101] rfl (by decide +kernel)
set_option maxRecDepth 20000 in
theorem gX10_findRows_X10_lotsTaken : GoodIn wsX10_findRows (wsV RX10 230 RX10 yX10_lotsTaken wsX10_lotsTaken) := goodIn_app (goodIn_of _ (by decide +kernel)) ggX10_findRows_X10_lotsTaken
set_option maxRecDepth 20000 in
theorem ggX10_findRows_X10_run : GoodIn wsX10_findRows wsX10_run := goodIn_r _ [20, 3, 15, 21, 22, 23, 16, 24, 1, 25, 26, 27, 28, 29, 30, 31, 9, 32, 2, 33, 34, 35, 36, 4, 37, 38, 39, 40, 41, 42, 43, 44, 45, 46, 47, 48, 49, 50, 55, 56, 57, 58, 59, 60, 61, 62, 63, 64, 65, 66, 67, 68, 69, 70, 71, 72, 73, 74, 75, 76, 77, 78, 79, 80, 81, 82, 83, 84, 85, 86, 87, 88, 89, 90, 91, 92, 93, 94, 95, 96, 97, 98, 99, 100, 101] rfl (by decide +kernel)
set_option maxRecDepth 20000 in
theorem gX10_findRows_X10_run : GoodIn wsX10_findRows (wsV RX10 223 RX10 yX10_run wsX10_run) := goodIn_app (goodIn_of _ (by decide +kernel)) ggX10_findRows_X10_run
set_option maxRecDepth 20000 in
theorem ggX10_findRows_X10_order : GoodIn wsX10_findRows wsX10_order := goodIn_r _ [54, 5, 55, 56, 57, 58, 59, 60, 61, 62, 63, 64, 65, 66, 67, 68, 69, 70, 71, 72, 73, 74, 75, 76, 77, 78, 79, 80, 81, 82, 83, 84, 85, 86, 87, 88, 89, 90, 91, 92, 93, 94, 95, 96, 97, 98, 99, 100, 101] rfl (by decide +kernel)
set_option maxRecDepth 20000 in
theorem gX10_findRows_X10_order : GoodIn wsX10_findRows (wsV RX10 233 RX10 yX10_order wsX10_order) := goodIn_app (goodIn_of _ (by decide +kernel)) ggX10_findRows_X10_order
theorem dX10_findRows_0 : decode cX10_findRows 0 = .ok (.aload_n 0, 1) := by decide +kernel
theorem dX10_findRows_1 : decode cX10_findRows 1 = .ok (.invokevirtual 230, 3) := by decide +kernel
theorem dX10_findRows_4 : decode cX10_findRows 4 = .ok (.istore 4, 2) := by decide +kernel
theorem dX10_findRows_6 : decode cX10_findRows 6 = .ok (.iconst 0, 1) := by decide +kernel
theorem dX10_findRows_7 : decode cX10_findRows 7 = .ok (.istore 5, 2) := by decide +kernel
theorem dX10_findRows_9 : decode cX10_findRows 9 = .ok (.iload 5, 2) := by decide +kernel
theorem dX10_findRows_11 : decode cX10_findRows 11 = .ok (.iload_n 3, 1) := by decide +kernel
theorem dX10_findRows_12 : decode cX10_findRows 12 = .ok (.if_icmp .ge 114, 3) := by decide +kernel
theorem dX10_findRows_15 : decode cX10_findRows 15 = .ok (.iload 5, 2) := by decide +kernel
theorem dX10_findRows_17 : decode cX10_findRows 17 = .ok (.istore 6, 2) := by decide +kernel
theorem dX10_findRows_19 : decode cX10_findRows 19 = .ok (.iconst 0, 1) := by decide +kernel
theorem dX10_findRows_20 : decode cX10_findRows 20 = .ok (.istore 7, 2) := by decide +kernel
theorem dX10_findRows_22 : decode cX10_findRows 22 = .ok (.iload 7, 2) := by decide +kernel
theorem dX10_findRows_24 : decode cX10_findRows 24 = .ok (.iload 4, 2) := by decide +kernel
theorem dX10_findRows_26 : decode cX10_findRows 26 = .ok (.if_icmp .ge 32, 3) := by decide +kernel
theorem dX10_findRows_29 : decode cX10_findRows 29 = .ok (.aload_n 0, 1) := by decide +kernel
theorem dX10_findRows_30 : decode cX10_findRows 30 = .ok (.getfield 60, 3) := by decide +kernel
theorem dX10_findRows_33 : decode cX10_findRows 33 = .ok (.iload 7, 2) := by decide +kernel
theorem dX10_findRows_35 : decode cX10_findRows 35 = .ok (.iload 6, 2) := by decide +kernel
theorem dX10_findRows_37 : decode cX10_findRows 37 = .ok (.aload_n 0, 1) := by decide +kernel
theorem dX10_findRows_38 : decode cX10_findRows 38 = .ok (.getfield 35, 3) := by decide +kernel
theorem dX10_findRows_41 : decode cX10_findRows 41 = .ok (.irem, 1) := by decide +kernel
theorem dX10_findRows_42 : decode cX10_findRows 42 = .ok (.iastore, 1) := by decide +kernel
theorem dX10_findRows_43 : decode cX10_findRows 43 = .ok (.iload 6, 2) := by decide +kernel
theorem dX10_findRows_45 : decode cX10_findRows 45 = .ok (.aload_n 0, 1) := by decide +kernel
theorem dX10_findRows_46 : decode cX10_findRows 46 = .ok (.getfield 35, 3) := by decide +kernel
theorem dX10_findRows_49 : decode cX10_findRows 49 = .ok (.idiv, 1) := by decide +kernel
theorem dX10_findRows_50 : decode cX10_findRows 50 = .ok (.istore 6, 2) := by decide +kernel
theorem dX10_findRows_52 : decode cX10_findRows 52 = .ok (.iinc 7 1, 3) := by decide +kernel
theorem dX10_findRows_55 : decode cX10_findRows 55 = .ok (.goto (-33), 3) := by decide +kernel
theorem dX10_findRows_58 : decode cX10_findRows 58 = .ok (.aload_n 0, 1) := by decide +kernel
theorem dX10_findRows_59 : decode cX10_findRows 59 = .ok (.iload_n 1, 1) := by decide +kernel
theorem dX10_findRows_60 : decode cX10_findRows 60 = .ok (.iconst 0, 1) := by decide +kernel
theorem dX10_findRows_61 : decode cX10_findRows 61 = .ok (.iload_n 2, 1) := by decide +kernel
theorem dX10_findRows_62 : decode cX10_findRows 62 = .ok (.invokevirtual 223, 3) := by decide +kernel
theorem dX10_findRows_65 : decode cX10_findRows 65 = .ok (.lconst 0, 1) := by decide +kernel
theorem dX10_findRows_66 : decode cX10_findRows 66 = .ok (.lstore 7, 2) := by decide +kernel
theorem dX10_findRows_68 : decode cX10_findRows 68 = .ok (.iconst 0, 1) := by decide +kernel
theorem dX10_findRows_69 : decode cX10_findRows 69 = .ok (.istore 9, 2) := by decide +kernel
theorem dX10_findRows_71 : decode cX10_findRows 71 = .ok (.iload 9, 2) := by decide +kernel
theorem dX10_findRows_73 : decode cX10_findRows 73 = .ok (.aload_n 0, 1) := by decide +kernel
theorem dX10_findRows_74 : decode cX10_findRows 74 = .ok (.getfield 203, 3) := by decide +kernel
theorem dX10_findRows_77 : decode cX10_findRows 77 = .ok (.if_icmp .ge 28, 3) := by decide +kernel
theorem dX10_findRows_80 : decode cX10_findRows 80 = .ok (.lload 7, 2) := by decide +kernel
theorem dX10_findRows_82 : decode cX10_findRows 82 = .ok (.aload_n 0, 1) := by decide +kernel
theorem dX10_findRows_83 : decode cX10_findRows 83 = .ok (.getfield 35, 3) := by decide +kernel
theorem dX10_findRows_86 : decode cX10_findRows 86 = .ok (.i2l, 1) := by decide +kernel
theorem dX10_findRows_87 : decode cX10_findRows 87 = .ok (.lmul, 1) := by decide +kernel
theorem dX10_findRows_88 : decode cX10_findRows 88 = .ok (.aload_n 0, 1) := by decide +kernel
theorem dX10_findRows_89 : decode cX10_findRows 89 = .ok (.getfield 63, 3) := by decide +kernel
theorem dX10_findRows_92 : decode cX10_findRows 92 = .ok (.iload 9, 2) := by decide +kernel
theorem dX10_findRows_94 : decode cX10_findRows 94 = .ok (.iaload, 1) := by decide +kernel
theorem dX10_findRows_95 : decode cX10_findRows 95 = .ok (.i2l, 1) := by decide +kernel
theorem dX10_findRows_96 : decode cX10_findRows 96 = .ok (.ladd, 1) := by decide +kernel
theorem dX10_findRows_97 : decode cX10_findRows 97 = .ok (.lstore 7, 2) := by decide +kernel
theorem dX10_findRows_99 : decode cX10_findRows 99 = .ok (.iinc 9 1, 3) := by decide +kernel
theorem dX10_findRows_102 : decode cX10_findRows 102 = .ok (.goto (-31), 3) := by decide +kernel
theorem dX10_findRows_105 : decode cX10_findRows 105 = .ok (.aload_n 0, 1) := by decide +kernel
theorem dX10_findRows_106 : decode cX10_findRows 106 = .ok (.getfield 72, 3) := by decide +kernel
theorem dX10_findRows_109 : decode cX10_findRows 109 = .ok (.sipush 4096, 3) := by decide +kernel
theorem dX10_findRows_112 : decode cX10_findRows 112 = .ok (.iload_n 1, 1) := by decide +kernel
theorem dX10_findRows_113 : decode cX10_findRows 113 = .ok (.imul, 1) := by decide +kernel
theorem dX10_findRows_114 : decode cX10_findRows 114 = .ok (.iload 5, 2) := by decide +kernel
theorem dX10_findRows_116 : decode cX10_findRows 116 = .ok (.iadd, 1) := by decide +kernel
theorem dX10_findRows_117 : decode cX10_findRows 117 = .ok (.lload 7, 2) := by decide +kernel
theorem dX10_findRows_119 : decode cX10_findRows 119 = .ok (.lastore, 1) := by decide +kernel
theorem dX10_findRows_120 : decode cX10_findRows 120 = .ok (.iinc 5 1, 3) := by decide +kernel
theorem dX10_findRows_123 : decode cX10_findRows 123 = .ok (.goto (-114), 3) := by decide +kernel
theorem dX10_findRows_126 : decode cX10_findRows 126 = .ok (.aload_n 0, 1) := by decide +kernel
theorem dX10_findRows_127 : decode cX10_findRows 127 = .ok (.sipush 4096, 3) := by decide +kernel
theorem dX10_findRows_130 : decode cX10_findRows 130 = .ok (.iload_n 1, 1) := by decide +kernel
theorem dX10_findRows_131 : decode cX10_findRows 131 = .ok (.imul, 1) := by decide +kernel
theorem dX10_findRows_132 : decode cX10_findRows 132 = .ok (.iload_n 3, 1) := by decide +kernel
theorem dX10_findRows_133 : decode cX10_findRows 133 = .ok (.invokevirtual 233, 3) := by decide +kernel
theorem dX10_findRows_136 : decode cX10_findRows 136 = .ok (.return_, 1) := by decide +kernel
theorem dX10_order_0 : decode cX10_order 0 = .ok (.iconst 1, 1) := by decide +kernel
theorem dX10_order_1 : decode cX10_order 1 = .ok (.istore_n 3, 1) := by decide +kernel
theorem dX10_order_2 : decode cX10_order 2 = .ok (.iload_n 3, 1) := by decide +kernel
theorem dX10_order_3 : decode cX10_order 3 = .ok (.iload_n 2, 1) := by decide +kernel
theorem dX10_order_4 : decode cX10_order 4 = .ok (.if_icmp .ge 12, 3) := by decide +kernel
theorem dX10_order_7 : decode cX10_order 7 = .ok (.iconst 3, 1) := by decide +kernel
theorem dX10_order_8 : decode cX10_order 8 = .ok (.iload_n 3, 1) := by decide +kernel
theorem dX10_order_9 : decode cX10_order 9 = .ok (.imul, 1) := by decide +kernel
theorem dX10_order_10 : decode cX10_order 10 = .ok (.iconst 1, 1) := by decide +kernel
theorem dX10_order_11 : decode cX10_order 11 = .ok (.iadd, 1) := by decide +kernel
theorem dX10_order_12 : decode cX10_order 12 = .ok (.istore_n 3, 1) := by decide +kernel
theorem dX10_order_13 : decode cX10_order 13 = .ok (.goto (-11), 3) := by decide +kernel
theorem dX10_order_16 : decode cX10_order 16 = .ok (.iload_n 3, 1) := by decide +kernel
theorem dX10_order_17 : decode cX10_order 17 = .ok (.ifCond .le 103, 3) := by decide +kernel
theorem dX10_order_20 : decode cX10_order 20 = .ok (.iload_n 3, 1) := by decide +kernel
theorem dX10_order_21 : decode cX10_order 21 = .ok (.istore 4, 2) := by decide +kernel
theorem dX10_order_23 : decode cX10_order 23 = .ok (.iload 4, 2) := by decide +kernel
theorem dX10_order_25 : decode cX10_order 25 = .ok (.iload_n 2, 1) := by decide +kernel
theorem dX10_order_26 : decode cX10_order 26 = .ok (.if_icmp .ge 87, 3) := by decide +kernel
theorem dX10_order_29 : decode cX10_order 29 = .ok (.aload_n 0, 1) := by decide +kernel
theorem dX10_order_30 : decode cX10_order 30 = .ok (.getfield 72, 3) := by decide +kernel
theorem dX10_order_33 : decode cX10_order 33 = .ok (.iload_n 1, 1) := by decide +kernel
theorem dX10_order_34 : decode cX10_order 34 = .ok (.iload 4, 2) := by decide +kernel
theorem dX10_order_36 : decode cX10_order 36 = .ok (.iadd, 1) := by decide +kernel
theorem dX10_order_37 : decode cX10_order 37 = .ok (.laload, 1) := by decide +kernel
theorem dX10_order_38 : decode cX10_order 38 = .ok (.lstore 5, 2) := by decide +kernel
theorem dX10_order_40 : decode cX10_order 40 = .ok (.iload 4, 2) := by decide +kernel
theorem dX10_order_42 : decode cX10_order 42 = .ok (.istore 7, 2) := by decide +kernel
theorem dX10_order_44 : decode cX10_order 44 = .ok (.iload 7, 2) := by decide +kernel
theorem dX10_order_46 : decode cX10_order 46 = .ok (.iload_n 3, 1) := by decide +kernel
theorem dX10_order_47 : decode cX10_order 47 = .ok (.if_icmp .lt 49, 3) := by decide +kernel
theorem dX10_order_50 : decode cX10_order 50 = .ok (.aload_n 0, 1) := by decide +kernel
theorem dX10_order_51 : decode cX10_order 51 = .ok (.getfield 72, 3) := by decide +kernel
theorem dX10_order_54 : decode cX10_order 54 = .ok (.iload_n 1, 1) := by decide +kernel
theorem dX10_order_55 : decode cX10_order 55 = .ok (.iload 7, 2) := by decide +kernel
theorem dX10_order_57 : decode cX10_order 57 = .ok (.iadd, 1) := by decide +kernel
theorem dX10_order_58 : decode cX10_order 58 = .ok (.iload_n 3, 1) := by decide +kernel
theorem dX10_order_59 : decode cX10_order 59 = .ok (.isub, 1) := by decide +kernel
theorem dX10_order_60 : decode cX10_order 60 = .ok (.laload, 1) := by decide +kernel
theorem dX10_order_61 : decode cX10_order 61 = .ok (.lload 5, 2) := by decide +kernel
theorem dX10_order_63 : decode cX10_order 63 = .ok (.lcmp, 1) := by decide +kernel
theorem dX10_order_64 : decode cX10_order 64 = .ok (.ifCond .le 32, 3) := by decide +kernel
theorem dX10_order_67 : decode cX10_order 67 = .ok (.aload_n 0, 1) := by decide +kernel
theorem dX10_order_68 : decode cX10_order 68 = .ok (.getfield 72, 3) := by decide +kernel
theorem dX10_order_71 : decode cX10_order 71 = .ok (.iload_n 1, 1) := by decide +kernel
theorem dX10_order_72 : decode cX10_order 72 = .ok (.iload 7, 2) := by decide +kernel
theorem dX10_order_74 : decode cX10_order 74 = .ok (.iadd, 1) := by decide +kernel
theorem dX10_order_75 : decode cX10_order 75 = .ok (.aload_n 0, 1) := by decide +kernel
theorem dX10_order_76 : decode cX10_order 76 = .ok (.getfield 72, 3) := by decide +kernel
theorem dX10_order_79 : decode cX10_order 79 = .ok (.iload_n 1, 1) := by decide +kernel
theorem dX10_order_80 : decode cX10_order 80 = .ok (.iload 7, 2) := by decide +kernel
theorem dX10_order_82 : decode cX10_order 82 = .ok (.iadd, 1) := by decide +kernel
theorem dX10_order_83 : decode cX10_order 83 = .ok (.iload_n 3, 1) := by decide +kernel
theorem dX10_order_84 : decode cX10_order 84 = .ok (.isub, 1) := by decide +kernel
theorem dX10_order_85 : decode cX10_order 85 = .ok (.laload, 1) := by decide +kernel
theorem dX10_order_86 : decode cX10_order 86 = .ok (.lastore, 1) := by decide +kernel
theorem dX10_order_87 : decode cX10_order 87 = .ok (.iload 7, 2) := by decide +kernel
theorem dX10_order_89 : decode cX10_order 89 = .ok (.iload_n 3, 1) := by decide +kernel
theorem dX10_order_90 : decode cX10_order 90 = .ok (.isub, 1) := by decide +kernel
theorem dX10_order_91 : decode cX10_order 91 = .ok (.istore 7, 2) := by decide +kernel
theorem dX10_order_93 : decode cX10_order 93 = .ok (.goto (-49), 3) := by decide +kernel
theorem dX10_order_96 : decode cX10_order 96 = .ok (.aload_n 0, 1) := by decide +kernel
theorem dX10_order_97 : decode cX10_order 97 = .ok (.getfield 72, 3) := by decide +kernel
theorem dX10_order_100 : decode cX10_order 100 = .ok (.iload_n 1, 1) := by decide +kernel
theorem dX10_order_101 : decode cX10_order 101 = .ok (.iload 7, 2) := by decide +kernel
theorem dX10_order_103 : decode cX10_order 103 = .ok (.iadd, 1) := by decide +kernel
theorem dX10_order_104 : decode cX10_order 104 = .ok (.lload 5, 2) := by decide +kernel
theorem dX10_order_106 : decode cX10_order 106 = .ok (.lastore, 1) := by decide +kernel
theorem dX10_order_107 : decode cX10_order 107 = .ok (.iinc 4 1, 3) := by decide +kernel
theorem dX10_order_110 : decode cX10_order 110 = .ok (.goto (-87), 3) := by decide +kernel
theorem dX10_order_113 : decode cX10_order 113 = .ok (.iload_n 3, 1) := by decide +kernel
theorem dX10_order_114 : decode cX10_order 114 = .ok (.iconst 3, 1) := by decide +kernel
theorem dX10_order_115 : decode cX10_order 115 = .ok (.idiv, 1) := by decide +kernel
theorem dX10_order_116 : decode cX10_order 116 = .ok (.istore_n 3, 1) := by decide +kernel
theorem dX10_order_117 : decode cX10_order 117 = .ok (.goto (-101), 3) := by decide +kernel
theorem dX10_order_120 : decode cX10_order 120 = .ok (.return_, 1) := by decide +kernel
set_option maxRecDepth 20000 in
theorem ggX10_spy_X10_isHand : GoodIn wsX10_spy wsX10_isHand := goodIn_r _ [5, 6, 7, 8, 4, 9] rfl (by decide +kernel)
set_option maxRecDepth 20000 in
theorem gX10_spy_X10_isHand : GoodIn wsX10_spy (va_wsS RX10 200 yX10_isHand wsX10_isHand) := goodIn_app (goodIn_of _ (by decide +kernel)) ggX10_spy_X10_isHand
set_option maxRecDepth 20000 in
theorem ggX10_spy_X10_in : GoodIn wsX10_spy wsX10_in := goodIn_r _ [9] rfl (by decide +kernel)
set_option maxRecDepth 20000 in
theorem gX10_spy_X10_in : GoodIn wsX10_spy (va_wsS RX10 117 yX10_in wsX10_in) := goodIn_app (goodIn_of _ (by decide +kernel)) ggX10_spy_X10_in
set_option maxRecDepth 20000 in
theorem ggX10_spy_X10_lotsTaken : GoodIn wsX10_spy wsX10_lotsTaken := goodIn_r _ [13, 14, 15, 16, 4, 17, 18, 19, 70, 71, 72, 73, 74, 75, 76, 77, 78, 79, 80, 81, 82, 83, 84, 85, 86, 87, 88, 89, 90, 91, 92, 93, 94, 95, 96, 97, 98, 99, 100, 101, 102, 103, 104, 105, 106, 107, 108, 109, 110, 111, 112, 113, 114, 115, 116] rfl (by decide +kernel)
set_option maxRecDepth 20000 in
theorem gX10_spy_X10_lotsTaken : GoodIn wsX10_spy (wsV RX10 230 RX10 yX10_lotsTaken wsX10_lotsTaken) := goodIn_app (goodIn_of _ (by decide +kernel)) ggX10_spy_X10_lotsTaken
set_option maxRecDepth 20000 in
theorem ggX10_spy_X10_power : GoodIn wsX10_spy wsX10_power := goodIn_r _ [23, 24, 70, 71, 72, 73, 74, 75, 76, 77, 78, 79, 80, 81, 82, 83, 84, 85, 86, 87, 88, 89, 90, 91, 92, 93, 94, 95, 96, 97, 98, 99, 100, 101, 102, 103, 104, 105, 106, 107, 108, 109, 110, 111, 112, 113, 114, 115, 116] rfl (by decide +kernel)
set_option maxRecDepth 20000 in
theorem gX10_spy_X10_power : GoodIn wsX10_spy (wsV RX10 237 RX10 yX10_power wsX10_power) := goodIn_app (goodIn_of _ (by decide +kernel)) ggX10_spy_X10_power
set_option maxRecDepth 20000 in
theorem ggX10_spy_X10_findRows : GoodIn wsX10_spy wsX10_findRows := goodIn_r _ [28, 29, 24, 30, 31, 1, 10, 11, 12, 4, 13, 14, 15, 16, 17, 18, 19, 32, 33, 34, 35, 36, 37, 38, 39, 40, 41, 42, 43, 44, 45, 46, 47, 48, 49, 50, 51, 52, 53, 54, 55, 56, 57, 58, 59, 60, 61, 62, 63, 64, 65, 66, 67, 68, 69, 70, 71, 72, 73, 74, 75, 76, 77, 78, 79, 80, 81, 82, 83, 84, 85, 86, 87, 88, 89, 90, 91, 92, 93, 94, 95, 96, 97, 98, 99, 100, 101, 102, 103, 104, 105, 106, 107, 108, 109, 110, 111, 112, 113, 114, 115, 116] rfl (by decide +kernel)
set_option maxRecDepth 20000 in
theorem gX10_spy_X10_findRows : GoodIn wsX10_spy (wsV RX10 240 RX10 yX10_findRows wsX10_findRows) := goodIn_app (goodIn_of _ (by decide +kernel)) ggX10_spy_X10_findRows
theorem dX10_spy_0 : decode cX10_spy 0 = .ok (.iload_n 1, 1) := by decide +kernel
theorem dX10_spy_1 : decode cX10_spy 1 = .ok (.invokestatic 200, 3) := by decide +kernel
theorem dX10_spy_4 : decode cX10_spy 4 = .ok (.ifCond .eq 13, 3) := by decide +kernel
theorem dX10_spy_7 : decode cX10_spy 7 = .ok (.iload_n 2, 1) := by decide +kernel
theorem dX10_spy_8 : decode cX10_spy 8 = .ok (.i2l, 1) := by decide +kernel
theorem dX10_spy_9 : decode cX10_spy 9 = .ok (.lconst 0, 1) := by decide +kernel
theorem dX10_spy_10 : decode cX10_spy 10 = .ok (.lconst 1, 1) := by decide +kernel
theorem dX10_spy_11 : decode cX10_spy 11 = .ok (.invokestatic 117, 3) := by decide +kernel
theorem dX10_spy_14 : decode cX10_spy 14 = .ok (.ifCond .ne 5, 3) := by decide +kernel
theorem dX10_spy_17 : decode cX10_spy 17 = .ok (.iconst (-1), 1) := by decide +kernel
theorem dX10_spy_18 : decode cX10_spy 18 = .ok (.ireturn, 1) := by decide +kernel
theorem dX10_spy_19 : decode cX10_spy 19 = .ok (.aload_n 0, 1) := by decide +kernel
theorem dX10_spy_20 : decode cX10_spy 20 = .ok (.aload_n 0, 1) := by decide +kernel
theorem dX10_spy_21 : decode cX10_spy 21 = .ok (.invokevirtual 230, 3) := by decide +kernel
theorem dX10_spy_24 : decode cX10_spy 24 = .ok (.invokevirtual 237, 3) := by decide +kernel
theorem dX10_spy_27 : decode cX10_spy 27 = .ok (.istore_n 3, 1) := by decide +kernel
theorem dX10_spy_28 : decode cX10_spy 28 = .ok (.iload_n 3, 1) := by decide +kernel
theorem dX10_spy_29 : decode cX10_spy 29 = .ok (.sipush 4096, 3) := by decide +kernel
theorem dX10_spy_32 : decode cX10_spy 32 = .ok (.if_icmp .le 6, 3) := by decide +kernel
theorem dX10_spy_35 : decode cX10_spy 35 = .ok (.bipush (-2), 2) := by decide +kernel
theorem dX10_spy_37 : decode cX10_spy 37 = .ok (.ireturn, 1) := by decide +kernel
theorem dX10_spy_38 : decode cX10_spy 38 = .ok (.aload_n 0, 1) := by decide +kernel
theorem dX10_spy_39 : decode cX10_spy 39 = .ok (.iconst 0, 1) := by decide +kernel
theorem dX10_spy_40 : decode cX10_spy 40 = .ok (.iload_n 1, 1) := by decide +kernel
theorem dX10_spy_41 : decode cX10_spy 41 = .ok (.iload_n 3, 1) := by decide +kernel
theorem dX10_spy_42 : decode cX10_spy 42 = .ok (.invokevirtual 240, 3) := by decide +kernel
theorem dX10_spy_45 : decode cX10_spy 45 = .ok (.aload_n 0, 1) := by decide +kernel
theorem dX10_spy_46 : decode cX10_spy 46 = .ok (.iconst 1, 1) := by decide +kernel
theorem dX10_spy_47 : decode cX10_spy 47 = .ok (.iload_n 1, 1) := by decide +kernel
theorem dX10_spy_48 : decode cX10_spy 48 = .ok (.iload_n 3, 1) := by decide +kernel
theorem dX10_spy_49 : decode cX10_spy 49 = .ok (.invokevirtual 240, 3) := by decide +kernel
theorem dX10_spy_52 : decode cX10_spy 52 = .ok (.iconst 0, 1) := by decide +kernel
theorem dX10_spy_53 : decode cX10_spy 53 = .ok (.istore 4, 2) := by decide +kernel
theorem dX10_spy_55 : decode cX10_spy 55 = .ok (.iconst 1, 1) := by decide +kernel
theorem dX10_spy_56 : decode cX10_spy 56 = .ok (.istore 5, 2) := by decide +kernel
theorem dX10_spy_58 : decode cX10_spy 58 = .ok (.iconst 0, 1) := by decide +kernel
theorem dX10_spy_59 : decode cX10_spy 59 = .ok (.istore 6, 2) := by decide +kernel
theorem dX10_spy_61 : decode cX10_spy 61 = .ok (.iload 6, 2) := by decide +kernel
theorem dX10_spy_63 : decode cX10_spy 63 = .ok (.iload_n 3, 1) := by decide +kernel
theorem dX10_spy_64 : decode cX10_spy 64 = .ok (.if_icmp .ge 78, 3) := by decide +kernel
theorem dX10_spy_67 : decode cX10_spy 67 = .ok (.iload 4, 2) := by decide +kernel
theorem dX10_spy_69 : decode cX10_spy 69 = .ok (.iload 6, 2) := by decide +kernel
theorem dX10_spy_71 : decode cX10_spy 71 = .ok (.ifCond .eq 23, 3) := by decide +kernel

theorem dX10_program_156 : decode cX10_program 156 = .ok (.aload_n 0, 1) := by decide +kernel
theorem dX10_program_157 : decode cX10_program 157 = .ok (.iload 6, 2) := by decide +kernel
theorem dX10_program_159 : decode cX10_program 159 = .ok (.iconst 5, 1) := by decide +kernel
theorem dX10_program_160 : decode cX10_program 160 = .ok (.if_icmp .ne 7, 3) := by decide +kernel
theorem dX10_program_163 : decode cX10_program 163 = .ok (.iconst 1, 1) := by decide +kernel
theorem dX10_program_164 : decode cX10_program 164 = .ok (.goto 4, 3) := by decide +kernel
theorem dX10_program_167 : decode cX10_program 167 = .ok (.iconst 0, 1) := by decide +kernel
theorem dX10_program_168 : decode cX10_program 168 = .ok (.invokevirtual 174, 3) := by decide +kernel
theorem dX10_program_171 : decode cX10_program 171 = .ok (.istore 8, 2) := by decide +kernel
theorem dX10_program_173 : decode cX10_program 173 = .ok (.aload_n 0, 1) := by decide +kernel
theorem dX10_program_174 : decode cX10_program 174 = .ok (.getfield 17, 3) := by decide +kernel
theorem dX10_program_177 : decode cX10_program 177 = .ok (.iload 7, 2) := by decide +kernel
theorem dX10_program_179 : decode cX10_program 179 = .ok (.iload 8, 2) := by decide +kernel
theorem dX10_program_181 : decode cX10_program 181 = .ok (.iastore, 1) := by decide +kernel
theorem dX10_program_182 : decode cX10_program 182 = .ok (.iload 6, 2) := by decide +kernel
theorem dX10_program_184 : decode cX10_program 184 = .ok (.ifCond .eq 9, 3) := by decide +kernel
theorem dX10_program_187 : decode cX10_program 187 = .ok (.iload 6, 2) := by decide +kernel
theorem dX10_program_189 : decode cX10_program 189 = .ok (.iconst 1, 1) := by decide +kernel
theorem dX10_program_190 : decode cX10_program 190 = .ok (.if_icmp .ne 48, 3) := by decide +kernel
theorem dX10_program_193 : decode cX10_program 193 = .ok (.aload_n 0, 1) := by decide +kernel
theorem dX10_program_194 : decode cX10_program 194 = .ok (.getfield 26, 3) := by decide +kernel
theorem dX10_program_197 : decode cX10_program 197 = .ok (.iload 7, 2) := by decide +kernel
theorem dX10_program_199 : decode cX10_program 199 = .ok (.aload_n 0, 1) := by decide +kernel
theorem dX10_program_200 : decode cX10_program 200 = .ok (.aload_n 0, 1) := by decide +kernel
theorem dX10_program_201 : decode cX10_program 201 = .ok (.getfield 143, 3) := by decide +kernel
theorem dX10_program_204 : decode cX10_program 204 = .ok (.iconst 3, 1) := by decide +kernel
theorem dX10_program_205 : decode cX10_program 205 = .ok (.if_icmp .ne 25, 3) := by decide +kernel
theorem dX10_program_208 : decode cX10_program 208 = .ok (.aload_n 0, 1) := by decide +kernel
theorem dX10_program_209 : decode cX10_program 209 = .ok (.getfield 140, 3) := by decide +kernel
theorem dX10_program_212 : decode cX10_program 212 = .ok (.iload 6, 2) := by decide +kernel
theorem dX10_program_214 : decode cX10_program 214 = .ok (.ifCond .ne 7, 3) := by decide +kernel
theorem dX10_program_217 : decode cX10_program 217 = .ok (.iconst 2, 1) := by decide +kernel
theorem dX10_program_218 : decode cX10_program 218 = .ok (.goto 5, 3) := by decide +kernel
theorem dX10_program_221 : decode cX10_program 221 = .ok (.bipush 15, 2) := by decide +kernel
theorem dX10_program_223 : decode cX10_program 223 = .ok (.if_icmp .gt 7, 3) := by decide +kernel
theorem dX10_program_226 : decode cX10_program 226 = .ok (.iconst 1, 1) := by decide +kernel
theorem dX10_program_227 : decode cX10_program 227 = .ok (.goto 4, 3) := by decide +kernel
theorem dX10_program_230 : decode cX10_program 230 = .ok (.iconst 0, 1) := by decide +kernel
theorem dX10_program_231 : decode cX10_program 231 = .ok (.invokevirtual 170, 3) := by decide +kernel
theorem dX10_program_234 : decode cX10_program 234 = .ok (.iastore, 1) := by decide +kernel
theorem dX10_program_235 : decode cX10_program 235 = .ok (.goto 33, 3) := by decide +kernel
theorem dX10_program_238 : decode cX10_program 238 = .ok (.iload 6, 2) := by decide +kernel
theorem dX10_program_240 : decode cX10_program 240 = .ok (.iconst 5, 1) := by decide +kernel
theorem dX10_program_241 : decode cX10_program 241 = .ok (.if_icmp .eq 27, 3) := by decide +kernel
theorem dX10_program_244 : decode cX10_program 244 = .ok (.aload_n 0, 1) := by decide +kernel
theorem dX10_program_245 : decode cX10_program 245 = .ok (.getfield 20, 3) := by decide +kernel
theorem dX10_program_248 : decode cX10_program 248 = .ok (.iload 7, 2) := by decide +kernel
theorem dX10_program_250 : decode cX10_program 250 = .ok (.aload_n 0, 1) := by decide +kernel
theorem dX10_program_251 : decode cX10_program 251 = .ok (.iconst 1, 1) := by decide +kernel
theorem dX10_program_252 : decode cX10_program 252 = .ok (.invokevirtual 174, 3) := by decide +kernel
theorem dX10_program_255 : decode cX10_program 255 = .ok (.iastore, 1) := by decide +kernel
theorem dX10_program_256 : decode cX10_program 256 = .ok (.aload_n 0, 1) := by decide +kernel
theorem dX10_program_257 : decode cX10_program 257 = .ok (.getfield 23, 3) := by decide +kernel
theorem dX10_program_260 : decode cX10_program 260 = .ok (.iload 7, 2) := by decide +kernel
theorem dX10_program_262 : decode cX10_program 262 = .ok (.aload_n 0, 1) := by decide +kernel
theorem dX10_program_263 : decode cX10_program 263 = .ok (.iconst 1, 1) := by decide +kernel
theorem dX10_program_264 : decode cX10_program 264 = .ok (.invokevirtual 174, 3) := by decide +kernel
theorem dX10_program_267 : decode cX10_program 267 = .ok (.iastore, 1) := by decide +kernel
theorem dX10_program_268 : decode cX10_program 268 = .ok (.aload_n 0, 1) := by decide +kernel
theorem dX10_program_269 : decode cX10_program 269 = .ok (.aload_n 0, 1) := by decide +kernel
theorem dX10_program_270 : decode cX10_program 270 = .ok (.getfield 143, 3) := by decide +kernel
theorem dX10_program_273 : decode cX10_program 273 = .ok (.iconst 4, 1) := by decide +kernel
theorem dX10_program_274 : decode cX10_program 274 = .ok (.if_icmp .ne 7, 3) := by decide +kernel
theorem dX10_program_277 : decode cX10_program 277 = .ok (.iconst 1, 1) := by decide +kernel
theorem dX10_program_278 : decode cX10_program 278 = .ok (.goto 4, 3) := by decide +kernel
theorem dX10_program_281 : decode cX10_program 281 = .ok (.iconst 0, 1) := by decide +kernel
theorem dX10_program_282 : decode cX10_program 282 = .ok (.invokevirtual 170, 3) := by decide +kernel
theorem dX10_program_285 : decode cX10_program 285 = .ok (.pop, 1) := by decide +kernel
theorem dX10_program_286 : decode cX10_program 286 = .ok (.aload_n 0, 1) := by decide +kernel
theorem dX10_program_287 : decode cX10_program 287 = .ok (.dup, 1) := by decide +kernel
theorem dX10_program_288 : decode cX10_program 288 = .ok (.getfield 167, 3) := by decide +kernel
theorem dX10_program_291 : decode cX10_program 291 = .ok (.iload 6, 2) := by decide +kernel
theorem dX10_program_293 : decode cX10_program 293 = .ok (.iconst 5, 1) := by decide +kernel
theorem dX10_program_294 : decode cX10_program 294 = .ok (.if_icmp .eq 12, 3) := by decide +kernel
theorem dX10_program_297 : decode cX10_program 297 = .ok (.aload_n 0, 1) := by decide +kernel
theorem dX10_program_298 : decode cX10_program 298 = .ok (.getfield 161, 3) := by decide +kernel
theorem dX10_program_301 : decode cX10_program 301 = .ok (.bipush (-9), 2) := by decide +kernel
theorem dX10_program_303 : decode cX10_program 303 = .ok (.if_icmp .eq 7, 3) := by decide +kernel
theorem dX10_program_306 : decode cX10_program 306 = .ok (.iconst 0, 1) := by decide +kernel
theorem dX10_program_307 : decode cX10_program 307 = .ok (.goto 7, 3) := by decide +kernel
theorem dX10_program_310 : decode cX10_program 310 = .ok (.iconst 1, 1) := by decide +kernel
theorem dX10_program_311 : decode cX10_program 311 = .ok (.iload 8, 2) := by decide +kernel
theorem dX10_program_313 : decode cX10_program 313 = .ok (.ishl, 1) := by decide +kernel
theorem dX10_program_314 : decode cX10_program 314 = .ok (.ior, 1) := by decide +kernel
theorem dX10_program_315 : decode cX10_program 315 = .ok (.putfield 167, 3) := by decide +kernel
theorem dX10_program_318 : decode cX10_program 318 = .ok (.iload_n 2, 1) := by decide +kernel
theorem dX10_program_319 : decode cX10_program 319 = .ok (.iload 6, 2) := by decide +kernel
theorem dX10_program_321 : decode cX10_program 321 = .ok (.ifCond .ne 7, 3) := by decide +kernel
theorem dX10_program_324 : decode cX10_program 324 = .ok (.iconst 1, 1) := by decide +kernel
theorem dX10_program_325 : decode cX10_program 325 = .ok (.goto 4, 3) := by decide +kernel
theorem dX10_program_328 : decode cX10_program 328 = .ok (.iconst 0, 1) := by decide +kernel
theorem dX10_program_329 : decode cX10_program 329 = .ok (.iadd, 1) := by decide +kernel
theorem dX10_program_330 : decode cX10_program 330 = .ok (.istore_n 2, 1) := by decide +kernel
theorem dX10_program_331 : decode cX10_program 331 = .ok (.iload_n 3, 1) := by decide +kernel
theorem dX10_program_332 : decode cX10_program 332 = .ok (.iload 6, 2) := by decide +kernel
theorem dX10_program_334 : decode cX10_program 334 = .ok (.iconst 4, 1) := by decide +kernel
theorem dX10_program_335 : decode cX10_program 335 = .ok (.if_icmp .ne 7, 3) := by decide +kernel
theorem dX10_program_338 : decode cX10_program 338 = .ok (.iconst 1, 1) := by decide +kernel
theorem dX10_program_339 : decode cX10_program 339 = .ok (.goto 4, 3) := by decide +kernel
theorem dX10_program_342 : decode cX10_program 342 = .ok (.iconst 0, 1) := by decide +kernel
theorem dX10_program_343 : decode cX10_program 343 = .ok (.iadd, 1) := by decide +kernel
theorem dX10_program_344 : decode cX10_program 344 = .ok (.istore_n 3, 1) := by decide +kernel
theorem dX10_program_345 : decode cX10_program 345 = .ok (.iload 6, 2) := by decide +kernel
theorem dX10_program_347 : decode cX10_program 347 = .ok (.iconst 5, 1) := by decide +kernel
theorem dX10_program_348 : decode cX10_program 348 = .ok (.if_icmp .ne 7, 3) := by decide +kernel
theorem dX10_program_351 : decode cX10_program 351 = .ok (.iconst 1, 1) := by decide +kernel
theorem dX10_program_352 : decode cX10_program 352 = .ok (.goto 4, 3) := by decide +kernel
theorem dX10_program_355 : decode cX10_program 355 = .ok (.iconst 0, 1) := by decide +kernel
theorem dX10_program_356 : decode cX10_program 356 = .ok (.istore 4, 2) := by decide +kernel
theorem dX10_program_358 : decode cX10_program 358 = .ok (.iinc 1 1, 3) := by decide +kernel
theorem dX10_program_361 : decode cX10_program 361 = .ok (.goto (-332), 3) := by decide +kernel
theorem dX10_program_364 : decode cX10_program 364 = .ok (.aload_n 0, 1) := by decide +kernel
theorem dX10_program_365 : decode cX10_program 365 = .ok (.aload_n 0, 1) := by decide +kernel
theorem dX10_program_366 : decode cX10_program 366 = .ok (.getfield 143, 3) := by decide +kernel
theorem dX10_program_369 : decode cX10_program 369 = .ok (.ifCond .ne 7, 3) := by decide +kernel
theorem dX10_program_372 : decode cX10_program 372 = .ok (.iconst 1, 1) := by decide +kernel
theorem dX10_program_373 : decode cX10_program 373 = .ok (.goto 4, 3) := by decide +kernel
theorem dX10_program_376 : decode cX10_program 376 = .ok (.iconst 0, 1) := by decide +kernel
theorem dX10_program_377 : decode cX10_program 377 = .ok (.invokevirtual 170, 3) := by decide +kernel
theorem dX10_program_380 : decode cX10_program 380 = .ok (.pop, 1) := by decide +kernel
theorem dX10_program_381 : decode cX10_program 381 = .ok (.aload_n 0, 1) := by decide +kernel
theorem dX10_program_382 : decode cX10_program 382 = .ok (.getfield 161, 3) := by decide +kernel
theorem dX10_program_385 : decode cX10_program 385 = .ok (.bipush (-9), 2) := by decide +kernel
theorem dX10_program_387 : decode cX10_program 387 = .ok (.if_icmp .eq 11, 3) := by decide +kernel
theorem dX10_program_390 : decode cX10_program 390 = .ok (.bipush (-10), 2) := by decide +kernel
theorem dX10_program_392 : decode cX10_program 392 = .ok (.aload_n 0, 1) := by decide +kernel
theorem dX10_program_393 : decode cX10_program 393 = .ok (.getfield 161, 3) := by decide +kernel
theorem dX10_program_396 : decode cX10_program 396 = .ok (.isub, 1) := by decide +kernel
theorem dX10_program_397 : decode cX10_program 397 = .ok (.ireturn, 1) := by decide +kernel
theorem dX10_program_398 : decode cX10_program 398 = .ok (.iconst 0, 1) := by decide +kernel
theorem dX10_program_399 : decode cX10_program 399 = .ok (.istore 5, 2) := by decide +kernel
theorem dX10_program_401 : decode cX10_program 401 = .ok (.iload 5, 2) := by decide +kernel
theorem dX10_program_403 : decode cX10_program 403 = .ok (.iload_n 1, 1) := by decide +kernel
theorem dX10_program_404 : decode cX10_program 404 = .ok (.if_icmp .ge 94, 3) := by decide +kernel
theorem dX10_program_407 : decode cX10_program 407 = .ok (.aload_n 0, 1) := by decide +kernel
theorem dX10_program_408 : decode cX10_program 408 = .ok (.getfield 13, 3) := by decide +kernel
theorem dX10_program_411 : decode cX10_program 411 = .ok (.iload 5, 2) := by decide +kernel
theorem dX10_program_413 : decode cX10_program 413 = .ok (.aload_n 0, 1) := by decide +kernel
theorem dX10_program_414 : decode cX10_program 414 = .ok (.getfield 13, 3) := by decide +kernel
theorem dX10_program_417 : decode cX10_program 417 = .ok (.bipush 16, 2) := by decide +kernel
theorem dX10_program_419 : decode cX10_program 419 = .ok (.iload 5, 2) := by decide +kernel
theorem dX10_program_421 : decode cX10_program 421 = .ok (.iadd, 1) := by decide +kernel
theorem dX10_program_422 : decode cX10_program 422 = .ok (.iaload, 1) := by decide +kernel
theorem dX10_program_423 : decode cX10_program 423 = .ok (.iastore, 1) := by decide +kernel
theorem dX10_program_424 : decode cX10_program 424 = .ok (.aload_n 0, 1) := by decide +kernel
theorem dX10_program_425 : decode cX10_program 425 = .ok (.getfield 17, 3) := by decide +kernel
theorem dX10_program_428 : decode cX10_program 428 = .ok (.iload 5, 2) := by decide +kernel
theorem dX10_program_430 : decode cX10_program 430 = .ok (.aload_n 0, 1) := by decide +kernel
theorem dX10_program_431 : decode cX10_program 431 = .ok (.getfield 17, 3) := by decide +kernel
theorem dX10_program_434 : decode cX10_program 434 = .ok (.bipush 16, 2) := by decide +kernel
theorem dX10_program_436 : decode cX10_program 436 = .ok (.iload 5, 2) := by decide +kernel
theorem dX10_program_438 : decode cX10_program 438 = .ok (.iadd, 1) := by decide +kernel
theorem dX10_program_439 : decode cX10_program 439 = .ok (.iaload, 1) := by decide +kernel
theorem dX10_program_440 : decode cX10_program 440 = .ok (.iastore, 1) := by decide +kernel
theorem dX10_program_441 : decode cX10_program 441 = .ok (.aload_n 0, 1) := by decide +kernel
theorem dX10_program_442 : decode cX10_program 442 = .ok (.getfield 20, 3) := by decide +kernel
theorem dX10_program_445 : decode cX10_program 445 = .ok (.iload 5, 2) := by decide +kernel
theorem dX10_program_447 : decode cX10_program 447 = .ok (.aload_n 0, 1) := by decide +kernel
theorem dX10_program_448 : decode cX10_program 448 = .ok (.getfield 20, 3) := by decide +kernel
theorem dX10_program_451 : decode cX10_program 451 = .ok (.bipush 16, 2) := by decide +kernel
theorem dX10_program_453 : decode cX10_program 453 = .ok (.iload 5, 2) := by decide +kernel
theorem dX10_program_455 : decode cX10_program 455 = .ok (.iadd, 1) := by decide +kernel
theorem dX10_program_456 : decode cX10_program 456 = .ok (.iaload, 1) := by decide +kernel
theorem dX10_program_457 : decode cX10_program 457 = .ok (.iastore, 1) := by decide +kernel
theorem dX10_program_458 : decode cX10_program 458 = .ok (.aload_n 0, 1) := by decide +kernel
theorem dX10_program_459 : decode cX10_program 459 = .ok (.getfield 23, 3) := by decide +kernel
theorem dX10_program_462 : decode cX10_program 462 = .ok (.iload 5, 2) := by decide +kernel
theorem dX10_program_464 : decode cX10_program 464 = .ok (.aload_n 0, 1) := by decide +kernel
theorem dX10_program_465 : decode cX10_program 465 = .ok (.getfield 23, 3) := by decide +kernel
theorem dX10_program_468 : decode cX10_program 468 = .ok (.bipush 16, 2) := by decide +kernel
theorem dX10_program_470 : decode cX10_program 470 = .ok (.iload 5, 2) := by decide +kernel
theorem dX10_program_472 : decode cX10_program 472 = .ok (.iadd, 1) := by decide +kernel
theorem dX10_program_473 : decode cX10_program 473 = .ok (.iaload, 1) := by decide +kernel
theorem dX10_program_474 : decode cX10_program 474 = .ok (.iastore, 1) := by decide +kernel
theorem dX10_program_475 : decode cX10_program 475 = .ok (.aload_n 0, 1) := by decide +kernel
theorem dX10_program_476 : decode cX10_program 476 = .ok (.getfield 26, 3) := by decide +kernel
theorem dX10_program_479 : decode cX10_program 479 = .ok (.iload 5, 2) := by decide +kernel
theorem dX10_program_481 : decode cX10_program 481 = .ok (.aload_n 0, 1) := by decide +kernel
theorem dX10_program_482 : decode cX10_program 482 = .ok (.getfield 26, 3) := by decide +kernel
theorem dX10_program_485 : decode cX10_program 485 = .ok (.bipush 16, 2) := by decide +kernel
theorem dX10_program_487 : decode cX10_program 487 = .ok (.iload 5, 2) := by decide +kernel
theorem dX10_program_489 : decode cX10_program 489 = .ok (.iadd, 1) := by decide +kernel
theorem dX10_program_490 : decode cX10_program 490 = .ok (.iaload, 1) := by decide +kernel
theorem dX10_program_491 : decode cX10_program 491 = .ok (.iastore, 1) := by decide +kernel
theorem dX10_program_492 : decode cX10_program 492 = .ok (.iinc 5 1, 3) := by decide +kernel
theorem dX10_program_495 : decode cX10_program 495 = .ok (.goto (-94), 3) := by decide +kernel
theorem dX10_program_498 : decode cX10_program 498 = .ok (.aload_n 0, 1) := by decide +kernel
theorem dX10_program_499 : decode cX10_program 499 = .ok (.iload_n 1, 1) := by decide +kernel
theorem dX10_program_500 : decode cX10_program 500 = .ok (.putfield 112, 3) := by decide +kernel
theorem dX10_program_503 : decode cX10_program 503 = .ok (.iconst 0, 1) := by decide +kernel
theorem dX10_program_504 : decode cX10_program 504 = .ok (.istore 5, 2) := by decide +kernel
theorem dX10_program_506 : decode cX10_program 506 = .ok (.iload 5, 2) := by decide +kernel
theorem dX10_program_508 : decode cX10_program 508 = .ok (.bipush 8, 2) := by decide +kernel
theorem dX10_program_510 : decode cX10_program 510 = .ok (.if_icmp .ge 17, 3) := by decide +kernel
theorem dX10_program_513 : decode cX10_program 513 = .ok (.aload_n 0, 1) := by decide +kernel
theorem dX10_program_514 : decode cX10_program 514 = .ok (.getfield 39, 3) := by decide +kernel
theorem dX10_program_517 : decode cX10_program 517 = .ok (.iload 5, 2) := by decide +kernel
theorem dX10_program_519 : decode cX10_program 519 = .ok (.iconst 0, 1) := by decide +kernel
theorem dX10_program_520 : decode cX10_program 520 = .ok (.iastore, 1) := by decide +kernel
theorem dX10_program_521 : decode cX10_program 521 = .ok (.iinc 5 1, 3) := by decide +kernel
theorem dX10_program_524 : decode cX10_program 524 = .ok (.goto (-18), 3) := by decide +kernel
theorem dX10_program_527 : decode cX10_program 527 = .ok (.aload_n 0, 1) := by decide +kernel
theorem dX10_program_528 : decode cX10_program 528 = .ok (.iconst 0, 1) := by decide +kernel
theorem dX10_program_529 : decode cX10_program 529 = .ok (.putfield 177, 3) := by decide +kernel
theorem dX10_program_532 : decode cX10_program 532 = .ok (.aload_n 0, 1) := by decide +kernel
theorem dX10_program_533 : decode cX10_program 533 = .ok (.iconst 0, 1) := by decide +kernel
theorem dX10_program_534 : decode cX10_program 534 = .ok (.putfield 121, 3) := by decide +kernel
theorem dX10_program_537 : decode cX10_program 537 = .ok (.iload_n 1, 1) := by decide +kernel
theorem dX10_program_538 : decode cX10_program 538 = .ok (.ireturn, 1) := by decide +kernel
theorem dX10_findDeep_0 : decode cX10_findDeep 0 = .ok (.iconst 0, 1) := by decide +kernel
theorem dX10_findDeep_1 : decode cX10_findDeep 1 = .ok (.istore_n 2, 1) := by decide +kernel
theorem dX10_findDeep_2 : decode cX10_findDeep 2 = .ok (.iconst 0, 1) := by decide +kernel
theorem dX10_findDeep_3 : decode cX10_findDeep 3 = .ok (.istore_n 3, 1) := by decide +kernel
theorem dX10_findDeep_4 : decode cX10_findDeep 4 = .ok (.iload_n 3, 1) := by decide +kernel
theorem dX10_findDeep_5 : decode cX10_findDeep 5 = .ok (.aload_n 0, 1) := by decide +kernel
theorem dX10_findDeep_6 : decode cX10_findDeep 6 = .ok (.getfield 112, 3) := by decide +kernel
theorem dX10_findDeep_9 : decode cX10_findDeep 9 = .ok (.if_icmp .ge 169, 3) := by decide +kernel
theorem dX10_findDeep_12 : decode cX10_findDeep 12 = .ok (.iconst 0, 1) := by decide +kernel
theorem dX10_findDeep_13 : decode cX10_findDeep 13 = .ok (.istore 4, 2) := by decide +kernel
theorem dX10_findDeep_15 : decode cX10_findDeep 15 = .ok (.aload_n 0, 1) := by decide +kernel
theorem dX10_findDeep_16 : decode cX10_findDeep 16 = .ok (.getfield 13, 3) := by decide +kernel
theorem dX10_findDeep_19 : decode cX10_findDeep 19 = .ok (.iload_n 3, 1) := by decide +kernel
theorem dX10_findDeep_20 : decode cX10_findDeep 20 = .ok (.iaload, 1) := by decide +kernel
theorem dX10_findDeep_21 : decode cX10_findDeep 21 = .ok (.iconst 5, 1) := by decide +kernel
theorem dX10_findDeep_22 : decode cX10_findDeep 22 = .ok (.if_icmp .ne 21, 3) := by decide +kernel
theorem dX10_findDeep_25 : decode cX10_findDeep 25 = .ok (.aload_n 0, 1) := by decide +kernel
theorem dX10_findDeep_26 : decode cX10_findDeep 26 = .ok (.getfield 29, 3) := by decide +kernel
theorem dX10_findDeep_29 : decode cX10_findDeep 29 = .ok (.aload_n 0, 1) := by decide +kernel
theorem dX10_findDeep_30 : decode cX10_findDeep 30 = .ok (.getfield 17, 3) := by decide +kernel
theorem dX10_findDeep_33 : decode cX10_findDeep 33 = .ok (.iload_n 3, 1) := by decide +kernel
theorem dX10_findDeep_34 : decode cX10_findDeep 34 = .ok (.iaload, 1) := by decide +kernel
theorem dX10_findDeep_35 : decode cX10_findDeep 35 = .ok (.iaload, 1) := by decide +kernel
theorem dX10_findDeep_36 : decode cX10_findDeep 36 = .ok (.iconst 1, 1) := by decide +kernel
theorem dX10_findDeep_37 : decode cX10_findDeep 37 = .ok (.iadd, 1) := by decide +kernel
theorem dX10_findDeep_38 : decode cX10_findDeep 38 = .ok (.istore 4, 2) := by decide +kernel
theorem dX10_findDeep_40 : decode cX10_findDeep 40 = .ok (.goto 87, 3) := by decide +kernel
theorem dX10_findDeep_43 : decode cX10_findDeep 43 = .ok (.aload_n 0, 1) := by decide +kernel
theorem dX10_findDeep_44 : decode cX10_findDeep 44 = .ok (.getfield 13, 3) := by decide +kernel
theorem dX10_findDeep_47 : decode cX10_findDeep 47 = .ok (.iload_n 3, 1) := by decide +kernel
theorem dX10_findDeep_48 : decode cX10_findDeep 48 = .ok (.iaload, 1) := by decide +kernel
theorem dX10_findDeep_49 : decode cX10_findDeep 49 = .ok (.iconst 1, 1) := by decide +kernel
theorem dX10_findDeep_50 : decode cX10_findDeep 50 = .ok (.if_icmp .le 77, 3) := by decide +kernel
theorem dX10_findDeep_53 : decode cX10_findDeep 53 = .ok (.aload_n 0, 1) := by decide +kernel
theorem dX10_findDeep_54 : decode cX10_findDeep 54 = .ok (.getfield 29, 3) := by decide +kernel
theorem dX10_findDeep_57 : decode cX10_findDeep 57 = .ok (.aload_n 0, 1) := by decide +kernel
theorem dX10_findDeep_58 : decode cX10_findDeep 58 = .ok (.getfield 20, 3) := by decide +kernel
theorem dX10_findDeep_61 : decode cX10_findDeep 61 = .ok (.iload_n 3, 1) := by decide +kernel
theorem dX10_findDeep_62 : decode cX10_findDeep 62 = .ok (.iaload, 1) := by decide +kernel
theorem dX10_findDeep_63 : decode cX10_findDeep 63 = .ok (.iaload, 1) := by decide +kernel
theorem dX10_findDeep_64 : decode cX10_findDeep 64 = .ok (.istore 5, 2) := by decide +kernel
theorem dX10_findDeep_66 : decode cX10_findDeep 66 = .ok (.aload_n 0, 1) := by decide +kernel
theorem dX10_findDeep_67 : decode cX10_findDeep 67 = .ok (.getfield 29, 3) := by decide +kernel
theorem dX10_findDeep_70 : decode cX10_findDeep 70 = .ok (.aload_n 0, 1) := by decide +kernel
theorem dX10_findDeep_71 : decode cX10_findDeep 71 = .ok (.getfield 23, 3) := by decide +kernel
theorem dX10_findDeep_74 : decode cX10_findDeep 74 = .ok (.iload_n 3, 1) := by decide +kernel
theorem dX10_findDeep_75 : decode cX10_findDeep 75 = .ok (.iaload, 1) := by decide +kernel
theorem dX10_findDeep_76 : decode cX10_findDeep 76 = .ok (.iaload, 1) := by decide +kernel
theorem dX10_findDeep_77 : decode cX10_findDeep 77 = .ok (.istore 6, 2) := by decide +kernel
theorem dX10_findDeep_79 : decode cX10_findDeep 79 = .ok (.iload 5, 2) := by decide +kernel
theorem dX10_findDeep_81 : decode cX10_findDeep 81 = .ok (.iload 6, 2) := by decide +kernel
theorem dX10_findDeep_83 : decode cX10_findDeep 83 = .ok (.if_icmp .le 8, 3) := by decide +kernel
theorem dX10_findDeep_86 : decode cX10_findDeep 86 = .ok (.iload 5, 2) := by decide +kernel
theorem dX10_findDeep_88 : decode cX10_findDeep 88 = .ok (.goto 5, 3) := by decide +kernel
theorem dX10_findDeep_91 : decode cX10_findDeep 91 = .ok (.iload 6, 2) := by decide +kernel
theorem dX10_findDeep_93 : decode cX10_findDeep 93 = .ok (.istore 4, 2) := by decide +kernel
theorem dX10_findDeep_95 : decode cX10_findDeep 95 = .ok (.aload_n 0, 1) := by decide +kernel
theorem dX10_findDeep_96 : decode cX10_findDeep 96 = .ok (.getfield 13, 3) := by decide +kernel
theorem dX10_findDeep_99 : decode cX10_findDeep 99 = .ok (.iload_n 3, 1) := by decide +kernel
theorem dX10_findDeep_100 : decode cX10_findDeep 100 = .ok (.iaload, 1) := by decide +kernel
theorem dX10_findDeep_101 : decode cX10_findDeep 101 = .ok (.iconst 4, 1) := by decide +kernel
theorem dX10_findDeep_102 : decode cX10_findDeep 102 = .ok (.if_icmp .ne 25, 3) := by decide +kernel
theorem dX10_findDeep_105 : decode cX10_findDeep 105 = .ok (.iload 4, 2) := by decide +kernel
theorem dX10_findDeep_107 : decode cX10_findDeep 107 = .ok (.iload_n 1, 1) := by decide +kernel
theorem dX10_findDeep_108 : decode cX10_findDeep 108 = .ok (.iload_n 2, 1) := by decide +kernel
theorem dX10_findDeep_109 : decode cX10_findDeep 109 = .ok (.ishr, 1) := by decide +kernel
theorem dX10_findDeep_110 : decode cX10_findDeep 110 = .ok (.iconst 1, 1) := by decide +kernel
theorem dX10_findDeep_111 : decode cX10_findDeep 111 = .ok (.iand, 1) := by decide +kernel
theorem dX10_findDeep_112 : decode cX10_findDeep 112 = .ok (.iconst 1, 1) := by decide +kernel
theorem dX10_findDeep_113 : decode cX10_findDeep 113 = .ok (.if_icmp .ne 7, 3) := by decide +kernel
theorem dX10_findDeep_116 : decode cX10_findDeep 116 = .ok (.iconst 2, 1) := by decide +kernel
theorem dX10_findDeep_117 : decode cX10_findDeep 117 = .ok (.goto 4, 3) := by decide +kernel
theorem dX10_findDeep_120 : decode cX10_findDeep 120 = .ok (.iconst 1, 1) := by decide +kernel
theorem dX10_findDeep_121 : decode cX10_findDeep 121 = .ok (.iadd, 1) := by decide +kernel
theorem dX10_findDeep_122 : decode cX10_findDeep 122 = .ok (.istore 4, 2) := by decide +kernel
theorem dX10_findDeep_124 : decode cX10_findDeep 124 = .ok (.iinc 2 1, 3) := by decide +kernel
theorem dX10_findDeep_127 : decode cX10_findDeep 127 = .ok (.aload_n 0, 1) := by decide +kernel
theorem dX10_findDeep_128 : decode cX10_findDeep 128 = .ok (.getfield 32, 3) := by decide +kernel
theorem dX10_findDeep_131 : decode cX10_findDeep 131 = .ok (.iload_n 3, 1) := by decide +kernel
theorem dX10_findDeep_132 : decode cX10_findDeep 132 = .ok (.iload 4, 2) := by decide +kernel
theorem dX10_findDeep_134 : decode cX10_findDeep 134 = .ok (.iastore, 1) := by decide +kernel
theorem dX10_findDeep_135 : decode cX10_findDeep 135 = .ok (.aload_n 0, 1) := by decide +kernel
theorem dX10_findDeep_136 : decode cX10_findDeep 136 = .ok (.getfield 29, 3) := by decide +kernel
theorem dX10_findDeep_139 : decode cX10_findDeep 139 = .ok (.aload_n 0, 1) := by decide +kernel
theorem dX10_findDeep_140 : decode cX10_findDeep 140 = .ok (.getfield 17, 3) := by decide +kernel
theorem dX10_findDeep_143 : decode cX10_findDeep 143 = .ok (.iload_n 3, 1) := by decide +kernel
theorem dX10_findDeep_144 : decode cX10_findDeep 144 = .ok (.iaload, 1) := by decide +kernel
theorem dX10_findDeep_145 : decode cX10_findDeep 145 = .ok (.aload_n 0, 1) := by decide +kernel
theorem dX10_findDeep_146 : decode cX10_findDeep 146 = .ok (.getfield 13, 3) := by decide +kernel
theorem dX10_findDeep_149 : decode cX10_findDeep 149 = .ok (.iload_n 3, 1) := by decide +kernel
theorem dX10_findDeep_150 : decode cX10_findDeep 150 = .ok (.iaload, 1) := by decide +kernel
theorem dX10_findDeep_151 : decode cX10_findDeep 151 = .ok (.iconst 5, 1) := by decide +kernel
theorem dX10_findDeep_152 : decode cX10_findDeep 152 = .ok (.if_icmp .ne 17, 3) := by decide +kernel
theorem dX10_findDeep_155 : decode cX10_findDeep 155 = .ok (.aload_n 0, 1) := by decide +kernel
theorem dX10_findDeep_156 : decode cX10_findDeep 156 = .ok (.getfield 29, 3) := by decide +kernel
theorem dX10_findDeep_159 : decode cX10_findDeep 159 = .ok (.aload_n 0, 1) := by decide +kernel
theorem dX10_findDeep_160 : decode cX10_findDeep 160 = .ok (.getfield 17, 3) := by decide +kernel
theorem dX10_findDeep_163 : decode cX10_findDeep 163 = .ok (.iload_n 3, 1) := by decide +kernel
theorem dX10_findDeep_164 : decode cX10_findDeep 164 = .ok (.iaload, 1) := by decide +kernel
theorem dX10_findDeep_165 : decode cX10_findDeep 165 = .ok (.iaload, 1) := by decide +kernel
theorem dX10_findDeep_166 : decode cX10_findDeep 166 = .ok (.goto 5, 3) := by decide +kernel
theorem dX10_findDeep_169 : decode cX10_findDeep 169 = .ok (.iload 4, 2) := by decide +kernel
theorem dX10_findDeep_171 : decode cX10_findDeep 171 = .ok (.iastore, 1) := by decide +kernel
theorem dX10_findDeep_172 : decode cX10_findDeep 172 = .ok (.iinc 3 1, 3) := by decide +kernel
theorem dX10_findDeep_175 : decode cX10_findDeep 175 = .ok (.goto (-171), 3) := by decide +kernel
theorem dX10_findDeep_178 : decode cX10_findDeep 178 = .ok (.return_, 1) := by decide +kernel
set_option maxRecDepth 20000 in
theorem ggX10_isItem_X10_in : GoodIn wsX10_isItem wsX10_in := goodIn_r _ [5] rfl (by decide +kernel)
set_option maxRecDepth 20000 in
theorem gX10_isItem_X10_in : GoodIn wsX10_isItem (va_wsS RX10 117 yX10_in wsX10_in) := goodIn_app (goodIn_of _ (by decide +kernel)) ggX10_isItem_X10_in
theorem dX10_isItem_0 : decode cX10_isItem 0 = .ok (.iload_n 1, 1) := by decide +kernel
theorem dX10_isItem_1 : decode cX10_isItem 1 = .ok (.i2l, 1) := by decide +kernel
theorem dX10_isItem_2 : decode cX10_isItem 2 = .ok (.lconst 0, 1) := by decide +kernel
theorem dX10_isItem_3 : decode cX10_isItem 3 = .ok (.aload_n 0, 1) := by decide +kernel
theorem dX10_isItem_4 : decode cX10_isItem 4 = .ok (.getfield 112, 3) := by decide +kernel
theorem dX10_isItem_7 : decode cX10_isItem 7 = .ok (.iconst 1, 1) := by decide +kernel
theorem dX10_isItem_8 : decode cX10_isItem 8 = .ok (.isub, 1) := by decide +kernel
theorem dX10_isItem_9 : decode cX10_isItem 9 = .ok (.i2l, 1) := by decide +kernel
theorem dX10_isItem_10 : decode cX10_isItem 10 = .ok (.invokestatic 117, 3) := by decide +kernel
theorem dX10_isItem_13 : decode cX10_isItem 13 = .ok (.ireturn, 1) := by decide +kernel
set_option maxRecDepth 20000 in
theorem ggX10_item_X10_isItem : GoodIn wsX10_item wsX10_isItem := goodIn_r _ [11, 12, 13, 14, 10, 15, 21, 22, 23, 24, 25, 26, 27, 28, 29, 30, 31, 32, 33, 34, 35, 36, 37, 38, 39, 40, 41, 42, 43, 44, 45, 46, 47, 48, 49, 50, 51, 52, 53, 54, 55, 56, 57, 58, 59, 60, 61, 62, 63, 64, 65, 66, 67] rfl (by decide +kernel)
set_option maxRecDepth 20000 in
theorem gX10_item_X10_isItem : GoodIn wsX10_item (wsV RX10 180 RX10 yX10_isItem wsX10_isItem) := goodIn_app (goodIn_of _ (by decide +kernel)) ggX10_item_X10_isItem
set_option maxRecDepth 20000 in
theorem ggX10_item_X10_findDeep : GoodIn wsX10_item wsX10_findDeep := goodIn_r _ [19, 12, 1, 20, 2, 3, 4, 6, 21, 22, 23, 24, 25, 26, 27, 28, 29, 30, 31, 32, 33, 34, 35, 36, 37, 38, 39, 40, 41, 42, 43, 44, 45, 46, 47, 48, 49, 50, 51, 52, 53, 54, 55, 56, 57, 58, 59, 60, 61, 62, 63, 64, 65, 66, 67] rfl (by decide +kernel)
set_option maxRecDepth 20000 in
theorem gX10_item_X10_findDeep : GoodIn wsX10_item (wsV RX10 184 RX10 yX10_findDeep wsX10_findDeep) := goodIn_app (goodIn_of _ (by decide +kernel)) ggX10_item_X10_findDeep
theorem dX10_item_0 : decode cX10_item 0 = .ok (.aload_n 0, 1) := by decide +kernel
theorem dX10_item_1 : decode cX10_item 1 = .ok (.iload_n 1, 1) := by decide +kernel
theorem dX10_item_2 : decode cX10_item 2 = .ok (.invokevirtual 180, 3) := by decide +kernel
theorem dX10_item_5 : decode cX10_item 5 = .ok (.ifCond .ne 5, 3) := by decide +kernel
theorem dX10_item_8 : decode cX10_item 8 = .ok (.iconst (-1), 1) := by decide +kernel
theorem dX10_item_9 : decode cX10_item 9 = .ok (.ireturn, 1) := by decide +kernel
theorem dX10_item_10 : decode cX10_item 10 = .ok (.iload_n 2, 1) := by decide +kernel
theorem dX10_item_11 : decode cX10_item 11 = .ok (.tableswitch 84 0 5 #[37, 44, 51, 58, 65, 72], 37) := by decide +kernel
theorem dX10_item_48 : decode cX10_item 48 = .ok (.aload_n 0, 1) := by decide +kernel
theorem dX10_item_49 : decode cX10_item 49 = .ok (.getfield 13, 3) := by decide +kernel
theorem dX10_item_52 : decode cX10_item 52 = .ok (.iload_n 1, 1) := by decide +kernel
theorem dX10_item_53 : decode cX10_item 53 = .ok (.iaload, 1) := by decide +kernel
theorem dX10_item_54 : decode cX10_item 54 = .ok (.ireturn, 1) := by decide +kernel
theorem dX10_item_55 : decode cX10_item 55 = .ok (.aload_n 0, 1) := by decide +kernel
theorem dX10_item_56 : decode cX10_item 56 = .ok (.getfield 17, 3) := by decide +kernel
theorem dX10_item_59 : decode cX10_item 59 = .ok (.iload_n 1, 1) := by decide +kernel
theorem dX10_item_60 : decode cX10_item 60 = .ok (.iaload, 1) := by decide +kernel
theorem dX10_item_61 : decode cX10_item 61 = .ok (.ireturn, 1) := by decide +kernel
theorem dX10_item_62 : decode cX10_item 62 = .ok (.aload_n 0, 1) := by decide +kernel
theorem dX10_item_63 : decode cX10_item 63 = .ok (.getfield 20, 3) := by decide +kernel
theorem dX10_item_66 : decode cX10_item 66 = .ok (.iload_n 1, 1) := by decide +kernel
theorem dX10_item_67 : decode cX10_item 67 = .ok (.iaload, 1) := by decide +kernel
theorem dX10_item_68 : decode cX10_item 68 = .ok (.ireturn, 1) := by decide +kernel
theorem dX10_item_69 : decode cX10_item 69 = .ok (.aload_n 0, 1) := by decide +kernel
theorem dX10_item_70 : decode cX10_item 70 = .ok (.getfield 23, 3) := by decide +kernel
theorem dX10_item_73 : decode cX10_item 73 = .ok (.iload_n 1, 1) := by decide +kernel
theorem dX10_item_74 : decode cX10_item 74 = .ok (.iaload, 1) := by decide +kernel
theorem dX10_item_75 : decode cX10_item 75 = .ok (.ireturn, 1) := by decide +kernel
theorem dX10_item_76 : decode cX10_item 76 = .ok (.aload_n 0, 1) := by decide +kernel
theorem dX10_item_77 : decode cX10_item 77 = .ok (.getfield 26, 3) := by decide +kernel
theorem dX10_item_80 : decode cX10_item 80 = .ok (.iload_n 1, 1) := by decide +kernel
theorem dX10_item_81 : decode cX10_item 81 = .ok (.iaload, 1) := by decide +kernel
theorem dX10_item_82 : decode cX10_item 82 = .ok (.ireturn, 1) := by decide +kernel
theorem dX10_item_83 : decode cX10_item 83 = .ok (.aload_n 0, 1) := by decide +kernel
theorem dX10_item_84 : decode cX10_item 84 = .ok (.iconst 0, 1) := by decide +kernel
theorem dX10_item_85 : decode cX10_item 85 = .ok (.invokevirtual 184, 3) := by decide +kernel
theorem dX10_item_88 : decode cX10_item 88 = .ok (.aload_n 0, 1) := by decide +kernel
theorem dX10_item_89 : decode cX10_item 89 = .ok (.getfield 32, 3) := by decide +kernel
theorem dX10_item_92 : decode cX10_item 92 = .ok (.iload_n 1, 1) := by decide +kernel
theorem dX10_item_93 : decode cX10_item 93 = .ok (.iaload, 1) := by decide +kernel
theorem dX10_item_94 : decode cX10_item 94 = .ok (.ireturn, 1) := by decide +kernel
theorem dX10_item_95 : decode cX10_item 95 = .ok (.iconst (-1), 1) := by decide +kernel
theorem dX10_item_96 : decode cX10_item 96 = .ok (.ireturn, 1) := by decide +kernel
set_option maxRecDepth 20000 in
theorem ggX10_modulus_X10_in : GoodIn wsX10_modulus wsX10_in := goodIn_r _ [7] rfl (by decide +kernel)
set_option maxRecDepth 20000 in
theorem gX10_modulus_X10_in : GoodIn wsX10_modulus (va_wsS RX10 117 yX10_in wsX10_in) := goodIn_app (goodIn_of _ (by decide +kernel)) ggX10_modulus_X10_in
theorem dX10_modulus_0 : decode cX10_modulus 0 = .ok (.iload_n 1, 1) := by decide +kernel
theorem dX10_modulus_1 : decode cX10_modulus 1 = .ok (.i2l, 1) := by decide +kernel
theorem dX10_modulus_2 : decode cX10_modulus 2 = .ok (.ldc2_w 188, 3) := by decide +kernel
theorem dX10_modulus_5 : decode cX10_modulus 5 = .ok (.ldc2_w 190, 3) := by decide +kernel
theorem dX10_modulus_8 : decode cX10_modulus 8 = .ok (.invokestatic 117, 3) := by decide +kernel
theorem dX10_modulus_11 : decode cX10_modulus 11 = .ok (.ifCond .ne 5, 3) := by decide +kernel
theorem dX10_modulus_14 : decode cX10_modulus 14 = .ok (.iconst (-1), 1) := by decide +kernel
theorem dX10_modulus_15 : decode cX10_modulus 15 = .ok (.ireturn, 1) := by decide +kernel
theorem dX10_modulus_16 : decode cX10_modulus 16 = .ok (.aload_n 0, 1) := by decide +kernel
theorem dX10_modulus_17 : decode cX10_modulus 17 = .ok (.getfield 35, 3) := by decide +kernel
theorem dX10_modulus_20 : decode cX10_modulus 20 = .ok (.istore_n 2, 1) := by decide +kernel
theorem dX10_modulus_21 : decode cX10_modulus 21 = .ok (.aload_n 0, 1) := by decide +kernel
theorem dX10_modulus_22 : decode cX10_modulus 22 = .ok (.iload_n 1, 1) := by decide +kernel
theorem dX10_modulus_23 : decode cX10_modulus 23 = .ok (.putfield 35, 3) := by decide +kernel
theorem dX10_modulus_26 : decode cX10_modulus 26 = .ok (.iload_n 2, 1) := by decide +kernel
theorem dX10_modulus_27 : decode cX10_modulus 27 = .ok (.ireturn, 1) := by decide +kernel
theorem dX10_countOf_0 : decode cX10_countOf 0 = .ok (.iconst 0, 1) := by decide +kernel
theorem dX10_countOf_1 : decode cX10_countOf 1 = .ok (.istore_n 2, 1) := by decide +kernel
theorem dX10_countOf_2 : decode cX10_countOf 2 = .ok (.iconst 0, 1) := by decide +kernel
theorem dX10_countOf_3 : decode cX10_countOf 3 = .ok (.istore_n 3, 1) := by decide +kernel
theorem dX10_countOf_4 : decode cX10_countOf 4 = .ok (.iload_n 3, 1) := by decide +kernel
theorem dX10_countOf_5 : decode cX10_countOf 5 = .ok (.aload_n 0, 1) := by decide +kernel
theorem dX10_countOf_6 : decode cX10_countOf 6 = .ok (.getfield 112, 3) := by decide +kernel
theorem dX10_countOf_9 : decode cX10_countOf 9 = .ok (.if_icmp .ge 27, 3) := by decide +kernel
theorem dX10_countOf_12 : decode cX10_countOf 12 = .ok (.iload_n 2, 1) := by decide +kernel
theorem dX10_countOf_13 : decode cX10_countOf 13 = .ok (.aload_n 0, 1) := by decide +kernel
theorem dX10_countOf_14 : decode cX10_countOf 14 = .ok (.getfield 13, 3) := by decide +kernel
theorem dX10_countOf_17 : decode cX10_countOf 17 = .ok (.iload_n 3, 1) := by decide +kernel
theorem dX10_countOf_18 : decode cX10_countOf 18 = .ok (.iaload, 1) := by decide +kernel
theorem dX10_countOf_19 : decode cX10_countOf 19 = .ok (.iload_n 1, 1) := by decide +kernel
theorem dX10_countOf_20 : decode cX10_countOf 20 = .ok (.if_icmp .ne 7, 3) := by decide +kernel
theorem dX10_countOf_23 : decode cX10_countOf 23 = .ok (.iconst 1, 1) := by decide +kernel
theorem dX10_countOf_24 : decode cX10_countOf 24 = .ok (.goto 4, 3) := by decide +kernel
theorem dX10_countOf_27 : decode cX10_countOf 27 = .ok (.iconst 0, 1) := by decide +kernel
theorem dX10_countOf_28 : decode cX10_countOf 28 = .ok (.iadd, 1) := by decide +kernel
theorem dX10_countOf_29 : decode cX10_countOf 29 = .ok (.istore_n 2, 1) := by decide +kernel
theorem dX10_countOf_30 : decode cX10_countOf 30 = .ok (.iinc 3 1, 3) := by decide +kernel
theorem dX10_countOf_33 : decode cX10_countOf 33 = .ok (.goto (-29), 3) := by decide +kernel
theorem dX10_countOf_36 : decode cX10_countOf 36 = .ok (.iload_n 2, 1) := by decide +kernel
theorem dX10_countOf_37 : decode cX10_countOf 37 = .ok (.ireturn, 1) := by decide +kernel
set_option maxRecDepth 20000 in
theorem ggX10_input_X10_countOf : GoodIn wsX10_input wsX10_countOf := goodIn_r _ [7, 8, 9, 13, 14, 15, 16, 17, 18, 19, 20, 21, 22, 23, 24, 25, 26, 27, 28, 29, 30, 31, 32, 33, 34, 35, 36, 37, 38, 39, 40, 41, 42, 43, 44, 45, 46, 47, 48, 49, 50, 51, 52, 53, 54, 55, 56, 57, 58, 59] rfl (by decide +kernel)
set_option maxRecDepth 20000 in
theorem gX10_input_X10_countOf : GoodIn wsX10_input (wsV RX10 192 RX10 yX10_countOf wsX10_countOf) := goodIn_app (goodIn_of _ (by decide +kernel)) ggX10_input_X10_countOf
set_option maxRecDepth 20000 in
theorem ggX10_input_X10_in : GoodIn wsX10_input wsX10_in := goodIn_r _ [12] rfl (by decide +kernel)
set_option maxRecDepth 20000 in
theorem gX10_input_X10_in : GoodIn wsX10_input (va_wsS RX10 117 yX10_in wsX10_in) := goodIn_app (goodIn_of _ (by decide +kernel)) ggX10_input_X10_in
theorem dX10_input_0 : decode cX10_input 0 = .ok (.iload_n 1, 1) := by decide +kernel
theorem dX10_input_1 : decode cX10_input 1 = .ok (.i2l, 1) := by decide +kernel
theorem dX10_input_2 : decode cX10_input 2 = .ok (.lconst 0, 1) := by decide +kernel
theorem dX10_input_3 : decode cX10_input 3 = .ok (.aload_n 0, 1) := by decide +kernel
theorem dX10_input_4 : decode cX10_input 4 = .ok (.iconst 0, 1) := by decide +kernel
theorem dX10_input_5 : decode cX10_input 5 = .ok (.invokevirtual 192, 3) := by decide +kernel
theorem dX10_input_8 : decode cX10_input 8 = .ok (.iconst 1, 1) := by decide +kernel
theorem dX10_input_9 : decode cX10_input 9 = .ok (.isub, 1) := by decide +kernel
theorem dX10_input_10 : decode cX10_input 10 = .ok (.i2l, 1) := by decide +kernel
theorem dX10_input_11 : decode cX10_input 11 = .ok (.invokestatic 117, 3) := by decide +kernel
theorem dX10_input_14 : decode cX10_input 14 = .ok (.ifCond .eq 25, 3) := by decide +kernel
theorem dX10_input_17 : decode cX10_input 17 = .ok (.iload_n 2, 1) := by decide +kernel
theorem dX10_input_18 : decode cX10_input 18 = .ok (.i2l, 1) := by decide +kernel
theorem dX10_input_19 : decode cX10_input 19 = .ok (.lconst 0, 1) := by decide +kernel
theorem dX10_input_20 : decode cX10_input 20 = .ok (.lconst 1, 1) := by decide +kernel
theorem dX10_input_21 : decode cX10_input 21 = .ok (.invokestatic 117, 3) := by decide +kernel
theorem dX10_input_24 : decode cX10_input 24 = .ok (.ifCond .eq 15, 3) := by decide +kernel
theorem dX10_input_27 : decode cX10_input 27 = .ok (.iload_n 3, 1) := by decide +kernel
theorem dX10_input_28 : decode cX10_input 28 = .ok (.i2l, 1) := by decide +kernel
theorem dX10_input_29 : decode cX10_input 29 = .ok (.lconst 0, 1) := by decide +kernel
theorem dX10_input_30 : decode cX10_input 30 = .ok (.ldc2_w 196, 3) := by decide +kernel
theorem dX10_input_33 : decode cX10_input 33 = .ok (.invokestatic 117, 3) := by decide +kernel
theorem dX10_input_36 : decode cX10_input 36 = .ok (.ifCond .ne 5, 3) := by decide +kernel
theorem dX10_input_39 : decode cX10_input 39 = .ok (.iconst (-1), 1) := by decide +kernel
theorem dX10_input_40 : decode cX10_input 40 = .ok (.ireturn, 1) := by decide +kernel
theorem dX10_input_41 : decode cX10_input 41 = .ok (.aload_n 0, 1) := by decide +kernel
theorem dX10_input_42 : decode cX10_input 42 = .ok (.getfield 39, 3) := by decide +kernel
theorem dX10_input_45 : decode cX10_input 45 = .ok (.iconst 4, 1) := by decide +kernel
theorem dX10_input_46 : decode cX10_input 46 = .ok (.iload_n 2, 1) := by decide +kernel
theorem dX10_input_47 : decode cX10_input 47 = .ok (.imul, 1) := by decide +kernel
theorem dX10_input_48 : decode cX10_input 48 = .ok (.iload_n 1, 1) := by decide +kernel
theorem dX10_input_49 : decode cX10_input 49 = .ok (.iadd, 1) := by decide +kernel
theorem dX10_input_50 : decode cX10_input 50 = .ok (.iaload, 1) := by decide +kernel
theorem dX10_input_51 : decode cX10_input 51 = .ok (.istore 4, 2) := by decide +kernel
theorem dX10_input_53 : decode cX10_input 53 = .ok (.aload_n 0, 1) := by decide +kernel
theorem dX10_input_54 : decode cX10_input 54 = .ok (.getfield 39, 3) := by decide +kernel
theorem dX10_input_57 : decode cX10_input 57 = .ok (.iconst 4, 1) := by decide +kernel
theorem dX10_input_58 : decode cX10_input 58 = .ok (.iload_n 2, 1) := by decide +kernel
theorem dX10_input_59 : decode cX10_input 59 = .ok (.imul, 1) := by decide +kernel
theorem dX10_input_60 : decode cX10_input 60 = .ok (.iload_n 1, 1) := by decide +kernel
theorem dX10_input_61 : decode cX10_input 61 = .ok (.iadd, 1) := by decide +kernel
theorem dX10_input_62 : decode cX10_input 62 = .ok (.iload_n 3, 1) := by decide +kernel
theorem dX10_input_63 : decode cX10_input 63 = .ok (.iastore, 1) := by decide +kernel
theorem dX10_input_64 : decode cX10_input 64 = .ok (.iload 4, 2) := by decide +kernel
theorem dX10_input_66 : decode cX10_input 66 = .ok (.ireturn, 1) := by decide +kernel
set_option maxRecDepth 20000 in
theorem ggX10_lot_X10_in : GoodIn wsX10_lot wsX10_in := goodIn_r _ [7] rfl (by decide +kernel)
set_option maxRecDepth 20000 in
theorem gX10_lot_X10_in : GoodIn wsX10_lot (va_wsS RX10 117 yX10_in wsX10_in) := goodIn_app (goodIn_of _ (by decide +kernel)) ggX10_lot_X10_in
theorem dX10_lot_0 : decode cX10_lot 0 = .ok (.iload_n 1, 1) := by decide +kernel
theorem dX10_lot_1 : decode cX10_lot 1 = .ok (.i2l, 1) := by decide +kernel
theorem dX10_lot_2 : decode cX10_lot 2 = .ok (.lconst 0, 1) := by decide +kernel
theorem dX10_lot_3 : decode cX10_lot 3 = .ok (.ldc2_w 198, 3) := by decide +kernel
theorem dX10_lot_6 : decode cX10_lot 6 = .ok (.invokestatic 117, 3) := by decide +kernel
theorem dX10_lot_9 : decode cX10_lot 9 = .ok (.ifCond .eq 15, 3) := by decide +kernel
theorem dX10_lot_12 : decode cX10_lot 12 = .ok (.iload_n 2, 1) := by decide +kernel
theorem dX10_lot_13 : decode cX10_lot 13 = .ok (.i2l, 1) := by decide +kernel
theorem dX10_lot_14 : decode cX10_lot 14 = .ok (.lconst 0, 1) := by decide +kernel
theorem dX10_lot_15 : decode cX10_lot 15 = .ok (.ldc2_w 196, 3) := by decide +kernel
theorem dX10_lot_18 : decode cX10_lot 18 = .ok (.invokestatic 117, 3) := by decide +kernel
theorem dX10_lot_21 : decode cX10_lot 21 = .ok (.ifCond .ne 5, 3) := by decide +kernel
theorem dX10_lot_24 : decode cX10_lot 24 = .ok (.iconst (-1), 1) := by decide +kernel
theorem dX10_lot_25 : decode cX10_lot 25 = .ok (.ireturn, 1) := by decide +kernel
theorem dX10_lot_26 : decode cX10_lot 26 = .ok (.aload_n 0, 1) := by decide +kernel
theorem dX10_lot_27 : decode cX10_lot 27 = .ok (.getfield 42, 3) := by decide +kernel
theorem dX10_lot_30 : decode cX10_lot 30 = .ok (.iload_n 1, 1) := by decide +kernel
theorem dX10_lot_31 : decode cX10_lot 31 = .ok (.iaload, 1) := by decide +kernel
theorem dX10_lot_32 : decode cX10_lot 32 = .ok (.istore_n 3, 1) := by decide +kernel
theorem dX10_lot_33 : decode cX10_lot 33 = .ok (.aload_n 0, 1) := by decide +kernel
theorem dX10_lot_34 : decode cX10_lot 34 = .ok (.getfield 42, 3) := by decide +kernel
theorem dX10_lot_37 : decode cX10_lot 37 = .ok (.iload_n 1, 1) := by decide +kernel
theorem dX10_lot_38 : decode cX10_lot 38 = .ok (.iload_n 2, 1) := by decide +kernel
theorem dX10_lot_39 : decode cX10_lot 39 = .ok (.iastore, 1) := by decide +kernel
theorem dX10_lot_40 : decode cX10_lot 40 = .ok (.iload_n 3, 1) := by decide +kernel
theorem dX10_lot_41 : decode cX10_lot 41 = .ok (.ireturn, 1) := by decide +kernel
set_option maxRecDepth 20000 in
theorem ggX10_isHand_X10_in : GoodIn wsX10_isHand wsX10_in := goodIn_r _ [5] rfl (by decide +kernel)
set_option maxRecDepth 20000 in
theorem gX10_isHand_X10_in : GoodIn wsX10_isHand (va_wsS RX10 117 yX10_in wsX10_in) := goodIn_app (goodIn_of _ (by decide +kernel)) ggX10_isHand_X10_in
theorem dX10_isHand_0 : decode cX10_isHand 0 = .ok (.iload_n 0, 1) := by decide +kernel
theorem dX10_isHand_1 : decode cX10_isHand 1 = .ok (.i2l, 1) := by decide +kernel
theorem dX10_isHand_2 : decode cX10_isHand 2 = .ok (.lconst 0, 1) := by decide +kernel
theorem dX10_isHand_3 : decode cX10_isHand 3 = .ok (.ldc2_w 188, 3) := by decide +kernel
theorem dX10_isHand_6 : decode cX10_isHand 6 = .ok (.invokestatic 117, 3) := by decide +kernel
theorem dX10_isHand_9 : decode cX10_isHand 9 = .ok (.ireturn, 1) := by decide +kernel
set_option maxRecDepth 20000 in
theorem ggX10_lie_X10_isItem : GoodIn wsX10_lie wsX10_isItem := goodIn_r _ [11, 12, 13, 14, 10, 15, 20, 21, 22, 23, 24, 25, 26, 27, 28, 29, 30, 31, 32, 33, 34, 35, 36, 37, 38, 39, 40, 41, 42, 43, 44, 45, 46, 47, 48, 49, 50, 51, 52, 53, 54, 55, 56, 57, 58, 59, 60, 61, 62, 63, 64, 65, 66] rfl (by decide +kernel)
set_option maxRecDepth 20000 in
theorem gX10_lie_X10_isItem : GoodIn wsX10_lie (wsV RX10 180 RX10 yX10_isItem wsX10_isItem) := goodIn_app (goodIn_of _ (by decide +kernel)) ggX10_lie_X10_isItem
set_option maxRecDepth 20000 in
theorem ggX10_lie_X10_isHand : GoodIn wsX10_lie wsX10_isHand := goodIn_r _ [18, 19, 13, 14, 10, 15] rfl (by decide +kernel)
set_option maxRecDepth 20000 in
theorem gX10_lie_X10_isHand : GoodIn wsX10_lie (va_wsS RX10 200 yX10_isHand wsX10_isHand) := goodIn_app (goodIn_of _ (by decide +kernel)) ggX10_lie_X10_isHand
set_option maxRecDepth 20000 in
theorem ggX10_lie_X10_in : GoodIn wsX10_lie wsX10_in := goodIn_r _ [15] rfl (by decide +kernel)
set_option maxRecDepth 20000 in
theorem gX10_lie_X10_in : GoodIn wsX10_lie (va_wsS RX10 117 yX10_in wsX10_in) := goodIn_app (goodIn_of _ (by decide +kernel)) ggX10_lie_X10_in
theorem dX10_lie_0 : decode cX10_lie 0 = .ok (.aload_n 0, 1) := by decide +kernel
theorem dX10_lie_1 : decode cX10_lie 1 = .ok (.iload_n 1, 1) := by decide +kernel
theorem dX10_lie_2 : decode cX10_lie 2 = .ok (.invokevirtual 180, 3) := by decide +kernel
theorem dX10_lie_5 : decode cX10_lie 5 = .ok (.ifCond .eq 42, 3) := by decide +kernel
theorem dX10_lie_8 : decode cX10_lie 8 = .ok (.aload_n 0, 1) := by decide +kernel
theorem dX10_lie_9 : decode cX10_lie 9 = .ok (.getfield 13, 3) := by decide +kernel
theorem dX10_lie_12 : decode cX10_lie 12 = .ok (.iload_n 1, 1) := by decide +kernel
theorem dX10_lie_13 : decode cX10_lie 13 = .ok (.iaload, 1) := by decide +kernel
theorem dX10_lie_14 : decode cX10_lie 14 = .ok (.iconst 4, 1) := by decide +kernel
theorem dX10_lie_15 : decode cX10_lie 15 = .ok (.if_icmp .eq 13, 3) := by decide +kernel
theorem dX10_lie_18 : decode cX10_lie 18 = .ok (.aload_n 0, 1) := by decide +kernel
theorem dX10_lie_19 : decode cX10_lie 19 = .ok (.getfield 13, 3) := by decide +kernel
theorem dX10_lie_22 : decode cX10_lie 22 = .ok (.iload_n 1, 1) := by decide +kernel
theorem dX10_lie_23 : decode cX10_lie 23 = .ok (.iaload, 1) := by decide +kernel
theorem dX10_lie_24 : decode cX10_lie 24 = .ok (.iconst 5, 1) := by decide +kernel
theorem dX10_lie_25 : decode cX10_lie 25 = .ok (.if_icmp .ne 22, 3) := by decide +kernel
theorem dX10_lie_28 : decode cX10_lie 28 = .ok (.iload_n 2, 1) := by decide +kernel
theorem dX10_lie_29 : decode cX10_lie 29 = .ok (.invokestatic 200, 3) := by decide +kernel
theorem dX10_lie_32 : decode cX10_lie 32 = .ok (.ifCond .eq 15, 3) := by decide +kernel
theorem dX10_lie_35 : decode cX10_lie 35 = .ok (.iload_n 3, 1) := by decide +kernel
theorem dX10_lie_36 : decode cX10_lie 36 = .ok (.i2l, 1) := by decide +kernel
theorem dX10_lie_37 : decode cX10_lie 37 = .ok (.lconst 1, 1) := by decide +kernel
theorem dX10_lie_38 : decode cX10_lie 38 = .ok (.ldc2_w 196, 3) := by decide +kernel
theorem dX10_lie_41 : decode cX10_lie 41 = .ok (.invokestatic 117, 3) := by decide +kernel
theorem dX10_lie_44 : decode cX10_lie 44 = .ok (.ifCond .ne 5, 3) := by decide +kernel
theorem dX10_lie_47 : decode cX10_lie 47 = .ok (.iconst (-1), 1) := by decide +kernel
theorem dX10_lie_48 : decode cX10_lie 48 = .ok (.ireturn, 1) := by decide +kernel
theorem dX10_lie_49 : decode cX10_lie 49 = .ok (.aload_n 0, 1) := by decide +kernel
theorem dX10_lie_50 : decode cX10_lie 50 = .ok (.getfield 177, 3) := by decide +kernel
theorem dX10_lie_53 : decode cX10_lie 53 = .ok (.bipush 6, 2) := by decide +kernel
theorem dX10_lie_55 : decode cX10_lie 55 = .ok (.if_icmp .ne 6, 3) := by decide +kernel
theorem dX10_lie_58 : decode cX10_lie 58 = .ok (.bipush (-3), 2) := by decide +kernel
theorem dX10_lie_60 : decode cX10_lie 60 = .ok (.ireturn, 1) := by decide +kernel
theorem dX10_lie_61 : decode cX10_lie 61 = .ok (.aload_n 0, 1) := by decide +kernel
theorem dX10_lie_62 : decode cX10_lie 62 = .ok (.getfield 45, 3) := by decide +kernel
theorem dX10_lie_65 : decode cX10_lie 65 = .ok (.aload_n 0, 1) := by decide +kernel
theorem dX10_lie_66 : decode cX10_lie 66 = .ok (.getfield 177, 3) := by decide +kernel
theorem dX10_lie_69 : decode cX10_lie 69 = .ok (.iload_n 1, 1) := by decide +kernel
theorem dX10_lie_70 : decode cX10_lie 70 = .ok (.iastore, 1) := by decide +kernel
theorem dX10_lie_71 : decode cX10_lie 71 = .ok (.aload_n 0, 1) := by decide +kernel
theorem dX10_lie_72 : decode cX10_lie 72 = .ok (.getfield 48, 3) := by decide +kernel
theorem dX10_lie_75 : decode cX10_lie 75 = .ok (.aload_n 0, 1) := by decide +kernel
theorem dX10_lie_76 : decode cX10_lie 76 = .ok (.getfield 177, 3) := by decide +kernel
theorem dX10_lie_79 : decode cX10_lie 79 = .ok (.iload_n 2, 1) := by decide +kernel
theorem dX10_lie_80 : decode cX10_lie 80 = .ok (.iastore, 1) := by decide +kernel
theorem dX10_lie_81 : decode cX10_lie 81 = .ok (.aload_n 0, 1) := by decide +kernel
theorem dX10_lie_82 : decode cX10_lie 82 = .ok (.getfield 51, 3) := by decide +kernel
theorem dX10_lie_85 : decode cX10_lie 85 = .ok (.aload_n 0, 1) := by decide +kernel
theorem dX10_lie_86 : decode cX10_lie 86 = .ok (.getfield 177, 3) := by decide +kernel
theorem dX10_lie_89 : decode cX10_lie 89 = .ok (.iload_n 3, 1) := by decide +kernel
theorem dX10_lie_90 : decode cX10_lie 90 = .ok (.iastore, 1) := by decide +kernel
theorem dX10_lie_91 : decode cX10_lie 91 = .ok (.aload_n 0, 1) := by decide +kernel
theorem dX10_lie_92 : decode cX10_lie 92 = .ok (.dup, 1) := by decide +kernel
theorem dX10_lie_93 : decode cX10_lie 93 = .ok (.getfield 177, 3) := by decide +kernel
theorem dX10_lie_96 : decode cX10_lie 96 = .ok (.iconst 1, 1) := by decide +kernel
theorem dX10_lie_97 : decode cX10_lie 97 = .ok (.iadd, 1) := by decide +kernel
theorem dX10_lie_98 : decode cX10_lie 98 = .ok (.putfield 177, 3) := by decide +kernel
theorem dX10_lie_101 : decode cX10_lie 101 = .ok (.aload_n 0, 1) := by decide +kernel
theorem dX10_lie_102 : decode cX10_lie 102 = .ok (.getfield 177, 3) := by decide +kernel
theorem dX10_lie_105 : decode cX10_lie 105 = .ok (.ireturn, 1) := by decide +kernel
theorem dX10_honest_0 : decode cX10_honest 0 = .ok (.aload_n 0, 1) := by decide +kernel
theorem dX10_honest_1 : decode cX10_honest 1 = .ok (.getfield 177, 3) := by decide +kernel
theorem dX10_honest_4 : decode cX10_honest 4 = .ok (.istore_n 1, 1) := by decide +kernel
theorem dX10_honest_5 : decode cX10_honest 5 = .ok (.aload_n 0, 1) := by decide +kernel
theorem dX10_honest_6 : decode cX10_honest 6 = .ok (.iconst 0, 1) := by decide +kernel
theorem dX10_honest_7 : decode cX10_honest 7 = .ok (.putfield 177, 3) := by decide +kernel
theorem dX10_honest_10 : decode cX10_honest 10 = .ok (.iload_n 1, 1) := by decide +kernel
theorem dX10_honest_11 : decode cX10_honest 11 = .ok (.ireturn, 1) := by decide +kernel
theorem dX10_mod_0 : decode cX10_mod 0 = .ok (.iload_n 1, 1) := by decide +kernel
theorem dX10_mod_1 : decode cX10_mod 1 = .ok (.aload_n 0, 1) := by decide +kernel
theorem dX10_mod_2 : decode cX10_mod 2 = .ok (.getfield 35, 3) := by decide +kernel
theorem dX10_mod_5 : decode cX10_mod 5 = .ok (.irem, 1) := by decide +kernel
theorem dX10_mod_6 : decode cX10_mod 6 = .ok (.istore_n 2, 1) := by decide +kernel
theorem dX10_mod_7 : decode cX10_mod 7 = .ok (.iload_n 2, 1) := by decide +kernel
theorem dX10_mod_8 : decode cX10_mod 8 = .ok (.ifCond .ge 12, 3) := by decide +kernel
theorem dX10_mod_11 : decode cX10_mod 11 = .ok (.iload_n 2, 1) := by decide +kernel
theorem dX10_mod_12 : decode cX10_mod 12 = .ok (.aload_n 0, 1) := by decide +kernel
theorem dX10_mod_13 : decode cX10_mod 13 = .ok (.getfield 35, 3) := by decide +kernel
theorem dX10_mod_16 : decode cX10_mod 16 = .ok (.iadd, 1) := by decide +kernel
theorem dX10_mod_17 : decode cX10_mod 17 = .ok (.goto 4, 3) := by decide +kernel
theorem dX10_mod_20 : decode cX10_mod 20 = .ok (.iload_n 2, 1) := by decide +kernel
theorem dX10_mod_21 : decode cX10_mod 21 = .ok (.ireturn, 1) := by decide +kernel
theorem dX10_lieOf_0 : decode cX10_lieOf 0 = .ok (.iconst 0, 1) := by decide +kernel
theorem dX10_lieOf_1 : decode cX10_lieOf 1 = .ok (.istore_n 3, 1) := by decide +kernel
theorem dX10_lieOf_2 : decode cX10_lieOf 2 = .ok (.iconst 0, 1) := by decide +kernel
theorem dX10_lieOf_3 : decode cX10_lieOf 3 = .ok (.istore 4, 2) := by decide +kernel
theorem dX10_lieOf_5 : decode cX10_lieOf 5 = .ok (.iload 4, 2) := by decide +kernel
theorem dX10_lieOf_7 : decode cX10_lieOf 7 = .ok (.aload_n 0, 1) := by decide +kernel
theorem dX10_lieOf_8 : decode cX10_lieOf 8 = .ok (.getfield 177, 3) := by decide +kernel
theorem dX10_lieOf_11 : decode cX10_lieOf 11 = .ok (.if_icmp .ge 45, 3) := by decide +kernel
theorem dX10_lieOf_14 : decode cX10_lieOf 14 = .ok (.iload_n 3, 1) := by decide +kernel
theorem dX10_lieOf_15 : decode cX10_lieOf 15 = .ok (.aload_n 0, 1) := by decide +kernel
theorem dX10_lieOf_16 : decode cX10_lieOf 16 = .ok (.getfield 45, 3) := by decide +kernel
theorem dX10_lieOf_19 : decode cX10_lieOf 19 = .ok (.iload 4, 2) := by decide +kernel
theorem dX10_lieOf_21 : decode cX10_lieOf 21 = .ok (.iaload, 1) := by decide +kernel
theorem dX10_lieOf_22 : decode cX10_lieOf 22 = .ok (.iload_n 1, 1) := by decide +kernel
theorem dX10_lieOf_23 : decode cX10_lieOf 23 = .ok (.if_icmp .ne 24, 3) := by decide +kernel
theorem dX10_lieOf_26 : decode cX10_lieOf 26 = .ok (.aload_n 0, 1) := by decide +kernel
theorem dX10_lieOf_27 : decode cX10_lieOf 27 = .ok (.getfield 48, 3) := by decide +kernel
theorem dX10_lieOf_30 : decode cX10_lieOf 30 = .ok (.iload 4, 2) := by decide +kernel
theorem dX10_lieOf_32 : decode cX10_lieOf 32 = .ok (.iaload, 1) := by decide +kernel
theorem dX10_lieOf_33 : decode cX10_lieOf 33 = .ok (.iload_n 2, 1) := by decide +kernel
theorem dX10_lieOf_34 : decode cX10_lieOf 34 = .ok (.if_icmp .ne 13, 3) := by decide +kernel
theorem dX10_lieOf_37 : decode cX10_lieOf 37 = .ok (.aload_n 0, 1) := by decide +kernel
theorem dX10_lieOf_38 : decode cX10_lieOf 38 = .ok (.getfield 51, 3) := by decide +kernel
theorem dX10_lieOf_41 : decode cX10_lieOf 41 = .ok (.iload 4, 2) := by decide +kernel
theorem dX10_lieOf_43 : decode cX10_lieOf 43 = .ok (.iaload, 1) := by decide +kernel
theorem dX10_lieOf_44 : decode cX10_lieOf 44 = .ok (.goto 4, 3) := by decide +kernel
theorem dX10_lieOf_47 : decode cX10_lieOf 47 = .ok (.iconst 0, 1) := by decide +kernel
theorem dX10_lieOf_48 : decode cX10_lieOf 48 = .ok (.iadd, 1) := by decide +kernel
theorem dX10_lieOf_49 : decode cX10_lieOf 49 = .ok (.istore_n 3, 1) := by decide +kernel
theorem dX10_lieOf_50 : decode cX10_lieOf 50 = .ok (.iinc 4 1, 3) := by decide +kernel
theorem dX10_lieOf_53 : decode cX10_lieOf 53 = .ok (.goto (-48), 3) := by decide +kernel
theorem dX10_lieOf_56 : decode cX10_lieOf 56 = .ok (.iload_n 3, 1) := by decide +kernel
theorem dX10_lieOf_57 : decode cX10_lieOf 57 = .ok (.ireturn, 1) := by decide +kernel
theorem dX10_see_0 : decode cX10_see 0 = .ok (.aload_n 0, 1) := by decide +kernel
theorem dX10_see_1 : decode cX10_see 1 = .ok (.getfield 63, 3) := by decide +kernel
theorem dX10_see_4 : decode cX10_see 4 = .ok (.aload_n 0, 1) := by decide +kernel
theorem dX10_see_5 : decode cX10_see 5 = .ok (.getfield 203, 3) := by decide +kernel
theorem dX10_see_8 : decode cX10_see 8 = .ok (.iload_n 1, 1) := by decide +kernel
theorem dX10_see_9 : decode cX10_see 9 = .ok (.iastore, 1) := by decide +kernel
theorem dX10_see_10 : decode cX10_see 10 = .ok (.aload_n 0, 1) := by decide +kernel
theorem dX10_see_11 : decode cX10_see 11 = .ok (.dup, 1) := by decide +kernel
theorem dX10_see_12 : decode cX10_see 12 = .ok (.getfield 203, 3) := by decide +kernel
theorem dX10_see_15 : decode cX10_see 15 = .ok (.iconst 1, 1) := by decide +kernel
theorem dX10_see_16 : decode cX10_see 16 = .ok (.iadd, 1) := by decide +kernel
theorem dX10_see_17 : decode cX10_see 17 = .ok (.putfield 203, 3) := by decide +kernel
theorem dX10_see_20 : decode cX10_see 20 = .ok (.return_, 1) := by decide +kernel
set_option maxRecDepth 20000 in
theorem ggX10_run_X10_mod : GoodIn wsX10_run wsX10_mod := goodIn_r _ [17, 18, 38, 39, 40, 41, 42, 43, 44, 45, 46, 47, 48, 49, 50, 51, 52, 53, 54, 55, 56, 57, 58, 59, 60, 61, 62, 63, 64, 65, 66, 67, 68, 69, 70, 71, 72, 73, 74, 75, 76, 77, 78, 79, 80, 81, 82, 83, 84] rfl (by decide +kernel)
set_option maxRecDepth 20000 in
theorem gX10_run_X10_mod : GoodIn wsX10_run (wsV RX10 206 RX10 yX10_mod wsX10_mod) := goodIn_app (goodIn_of _ (by decide +kernel)) ggX10_run_X10_mod
set_option maxRecDepth 20000 in
theorem ggX10_run_X10_see : GoodIn wsX10_run wsX10_see := goodIn_r _ [22, 23, 1, 38, 39, 40, 41, 42, 43, 44, 45, 46, 47, 48, 49, 50, 51, 52, 53, 54, 55, 56, 57, 58, 59, 60, 61, 62, 63, 64, 65, 66, 67, 68, 69, 70, 71, 72, 73, 74, 75, 76, 77, 78, 79, 80, 81, 82, 83, 84] rfl (by decide +kernel)
set_option maxRecDepth 20000 in
theorem gX10_run_X10_see : GoodIn wsX10_run (wsV RX10 209 RX10 yX10_see wsX10_see) := goodIn_app (goodIn_of _ (by decide +kernel)) ggX10_run_X10_see
set_option maxRecDepth 20000 in
theorem ggX10_run_X10_multiply : GoodIn wsX10_run wsX10_multiply := goodIn_r _ [27, 28, 8, 29, 7, 4, 5, 3, 13, 14, 15, 16, 17, 18, 30, 31, 32, 33, 34, 35, 36, 37, 19, 20, 21, 22, 23, 1, 38, 39, 40, 41, 42, 43, 44, 45, 46, 47, 48, 49, 50, 51, 52, 53, 54, 55, 56, 57, 58, 59, 60, 61, 62, 63, 64, 65, 66, 67, 68, 69, 70, 71, 72, 73, 74, 75, 76, 77, 78, 79, 80, 81, 82, 83, 84] rfl (by decide +kernel)
set_option maxRecDepth 20000 in
theorem gX10_run_X10_multiply : GoodIn wsX10_run (wsV RX10 212 RX10 yX10_multiply wsX10_multiply) := goodIn_app (goodIn_of _ (by decide +kernel)) ggX10_run_X10_multiply
set_option maxRecDepth 20000 in
theorem ggX10_run_X10_lieOf : GoodIn wsX10_run wsX10_lieOf := goodIn_r _ [33, 34, 35, 36, 37, 38, 39, 40, 41, 42, 43, 44, 45, 46, 47, 48, 49, 50, 51, 52, 53, 54, 55, 56, 57, 58, 59, 60, 61, 62, 63, 64, 65, 66, 67, 68, 69, 70, 71, 72, 73, 74, 75, 76, 77, 78, 79, 80, 81, 82, 83, 84] rfl (by decide +kernel)
set_option maxRecDepth 20000 in
theorem gX10_run_X10_lieOf : GoodIn wsX10_run (wsV RX10 219 RX10 yX10_lieOf wsX10_lieOf) := goodIn_app (goodIn_of _ (by decide +kernel)) ggX10_run_X10_lieOf
theorem dX10_run_0 : decode cX10_run 0 = .ok (.iconst 0, 1) := by decide +kernel
theorem dX10_run_1 : decode cX10_run 1 = .ok (.istore 4, 2) := by decide +kernel
theorem dX10_run_3 : decode cX10_run 3 = .ok (.iconst 0, 1) := by decide +kernel
theorem dX10_run_4 : decode cX10_run 4 = .ok (.istore 5, 2) := by decide +kernel
theorem dX10_run_6 : decode cX10_run 6 = .ok (.aload_n 0, 1) := by decide +kernel
theorem dX10_run_7 : decode cX10_run 7 = .ok (.iconst 0, 1) := by decide +kernel
theorem dX10_run_8 : decode cX10_run 8 = .ok (.putfield 203, 3) := by decide +kernel
theorem dX10_run_11 : decode cX10_run 11 = .ok (.iconst 0, 1) := by decide +kernel
theorem dX10_run_12 : decode cX10_run 12 = .ok (.istore 6, 2) := by decide +kernel
theorem dX10_run_14 : decode cX10_run 14 = .ok (.iload 6, 2) := by decide +kernel
theorem dX10_run_16 : decode cX10_run 16 = .ok (.aload_n 0, 1) := by decide +kernel
theorem dX10_run_17 : decode cX10_run 17 = .ok (.getfield 112, 3) := by decide +kernel
theorem dX10_run_20 : decode cX10_run 20 = .ok (.if_icmp .ge 520, 3) := by decide +kernel
theorem dX10_run_23 : decode cX10_run 23 = .ok (.iconst 3, 1) := by decide +kernel
theorem dX10_run_24 : decode cX10_run 24 = .ok (.aload_n 0, 1) := by decide +kernel
theorem dX10_run_25 : decode cX10_run 25 = .ok (.getfield 17, 3) := by decide +kernel
theorem dX10_run_28 : decode cX10_run 28 = .ok (.iload 6, 2) := by decide +kernel
theorem dX10_run_30 : decode cX10_run 30 = .ok (.iaload, 1) := by decide +kernel
theorem dX10_run_31 : decode cX10_run 31 = .ok (.imul, 1) := by decide +kernel
theorem dX10_run_32 : decode cX10_run 32 = .ok (.istore 7, 2) := by decide +kernel
theorem dX10_run_34 : decode cX10_run 34 = .ok (.iconst 3, 1) := by decide +kernel
theorem dX10_run_35 : decode cX10_run 35 = .ok (.aload_n 0, 1) := by decide +kernel
theorem dX10_run_36 : decode cX10_run 36 = .ok (.getfield 20, 3) := by decide +kernel
theorem dX10_run_39 : decode cX10_run 39 = .ok (.iload 6, 2) := by decide +kernel
theorem dX10_run_41 : decode cX10_run 41 = .ok (.iaload, 1) := by decide +kernel
theorem dX10_run_42 : decode cX10_run 42 = .ok (.imul, 1) := by decide +kernel
theorem dX10_run_43 : decode cX10_run 43 = .ok (.istore 8, 2) := by decide +kernel

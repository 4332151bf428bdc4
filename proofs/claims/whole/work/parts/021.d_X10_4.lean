theorem dX10_run_270 : decode cX10_run 270 = .ok (.iload 6, 2) := by decide +kernel
theorem dX10_run_272 : decode cX10_run 272 = .ok (.iaload, 1) := by decide +kernel
theorem dX10_run_273 : decode cX10_run 273 = .ok (.iconst 3, 1) := by decide +kernel
theorem dX10_run_274 : decode cX10_run 274 = .ok (.if_icmp .ne 81, 3) := by decide +kernel
theorem dX10_run_277 : decode cX10_run 277 = .ok (.iconst 0, 1) := by decide +kernel
theorem dX10_run_278 : decode cX10_run 278 = .ok (.istore 10, 2) := by decide +kernel
theorem dX10_run_280 : decode cX10_run 280 = .ok (.iload 10, 2) := by decide +kernel
theorem dX10_run_282 : decode cX10_run 282 = .ok (.iconst 3, 1) := by decide +kernel
theorem dX10_run_283 : decode cX10_run 283 = .ok (.if_icmp .ge 69, 3) := by decide +kernel
theorem dX10_run_286 : decode cX10_run 286 = .ok (.aload_n 0, 1) := by decide +kernel
theorem dX10_run_287 : decode cX10_run 287 = .ok (.getfield 54, 3) := by decide +kernel
theorem dX10_run_290 : decode cX10_run 290 = .ok (.iload 7, 2) := by decide +kernel
theorem dX10_run_292 : decode cX10_run 292 = .ok (.iload 10, 2) := by decide +kernel
theorem dX10_run_294 : decode cX10_run 294 = .ok (.iadd, 1) := by decide +kernel
theorem dX10_run_295 : decode cX10_run 295 = .ok (.aload_n 0, 1) := by decide +kernel
theorem dX10_run_296 : decode cX10_run 296 = .ok (.aload_n 0, 1) := by decide +kernel
theorem dX10_run_297 : decode cX10_run 297 = .ok (.getfield 54, 3) := by decide +kernel
theorem dX10_run_300 : decode cX10_run 300 = .ok (.iload 8, 2) := by decide +kernel
theorem dX10_run_302 : decode cX10_run 302 = .ok (.iload 10, 2) := by decide +kernel
theorem dX10_run_304 : decode cX10_run 304 = .ok (.iadd, 1) := by decide +kernel
theorem dX10_run_305 : decode cX10_run 305 = .ok (.iaload, 1) := by decide +kernel
theorem dX10_run_306 : decode cX10_run 306 = .ok (.aload_n 0, 1) := by decide +kernel
theorem dX10_run_307 : decode cX10_run 307 = .ok (.getfield 13, 3) := by decide +kernel
theorem dX10_run_310 : decode cX10_run 310 = .ok (.iload 6, 2) := by decide +kernel
theorem dX10_run_312 : decode cX10_run 312 = .ok (.iaload, 1) := by decide +kernel
theorem dX10_run_313 : decode cX10_run 313 = .ok (.iconst 2, 1) := by decide +kernel
theorem dX10_run_314 : decode cX10_run 314 = .ok (.if_icmp .ne 16, 3) := by decide +kernel
theorem dX10_run_317 : decode cX10_run 317 = .ok (.aload_n 0, 1) := by decide +kernel
theorem dX10_run_318 : decode cX10_run 318 = .ok (.getfield 54, 3) := by decide +kernel
theorem dX10_run_321 : decode cX10_run 321 = .ok (.iload 9, 2) := by decide +kernel
theorem dX10_run_323 : decode cX10_run 323 = .ok (.iload 10, 2) := by decide +kernel
theorem dX10_run_325 : decode cX10_run 325 = .ok (.iadd, 1) := by decide +kernel
theorem dX10_run_326 : decode cX10_run 326 = .ok (.iaload, 1) := by decide +kernel
theorem dX10_run_327 : decode cX10_run 327 = .ok (.goto 14, 3) := by decide +kernel
theorem dX10_run_330 : decode cX10_run 330 = .ok (.aload_n 0, 1) := by decide +kernel
theorem dX10_run_331 : decode cX10_run 331 = .ok (.getfield 54, 3) := by decide +kernel
theorem dX10_run_334 : decode cX10_run 334 = .ok (.iload 9, 2) := by decide +kernel
theorem dX10_run_336 : decode cX10_run 336 = .ok (.iload 10, 2) := by decide +kernel
theorem dX10_run_338 : decode cX10_run 338 = .ok (.iadd, 1) := by decide +kernel
theorem dX10_run_339 : decode cX10_run 339 = .ok (.iaload, 1) := by decide +kernel
theorem dX10_run_340 : decode cX10_run 340 = .ok (.ineg, 1) := by decide +kernel
theorem dX10_run_341 : decode cX10_run 341 = .ok (.iadd, 1) := by decide +kernel
theorem dX10_run_342 : decode cX10_run 342 = .ok (.invokevirtual 206, 3) := by decide +kernel
theorem dX10_run_345 : decode cX10_run 345 = .ok (.iastore, 1) := by decide +kernel
theorem dX10_run_346 : decode cX10_run 346 = .ok (.iinc 10 1, 3) := by decide +kernel
theorem dX10_run_349 : decode cX10_run 349 = .ok (.goto (-69), 3) := by decide +kernel
theorem dX10_run_352 : decode cX10_run 352 = .ok (.goto 134, 3) := by decide +kernel
theorem dX10_run_355 : decode cX10_run 355 = .ok (.aload_n 0, 1) := by decide +kernel
theorem dX10_run_356 : decode cX10_run 356 = .ok (.getfield 13, 3) := by decide +kernel
theorem dX10_run_359 : decode cX10_run 359 = .ok (.iload 6, 2) := by decide +kernel
theorem dX10_run_361 : decode cX10_run 361 = .ok (.iaload, 1) := by decide +kernel
theorem dX10_run_362 : decode cX10_run 362 = .ok (.iconst 4, 1) := by decide +kernel
theorem dX10_run_363 : decode cX10_run 363 = .ok (.if_icmp .ne 19, 3) := by decide +kernel
theorem dX10_run_366 : decode cX10_run 366 = .ok (.aload_n 0, 1) := by decide +kernel
theorem dX10_run_367 : decode cX10_run 367 = .ok (.iload 6, 2) := by decide +kernel
theorem dX10_run_369 : decode cX10_run 369 = .ok (.iload 4, 2) := by decide +kernel
theorem dX10_run_371 : decode cX10_run 371 = .ok (.iload_n 2, 1) := by decide +kernel
theorem dX10_run_372 : decode cX10_run 372 = .ok (.iload_n 3, 1) := by decide +kernel
theorem dX10_run_373 : decode cX10_run 373 = .ok (.invokevirtual 212, 3) := by decide +kernel
theorem dX10_run_376 : decode cX10_run 376 = .ok (.iinc 4 8, 3) := by decide +kernel
theorem dX10_run_379 : decode cX10_run 379 = .ok (.goto 107, 3) := by decide +kernel
theorem dX10_run_382 : decode cX10_run 382 = .ok (.aload_n 0, 1) := by decide +kernel
theorem dX10_run_383 : decode cX10_run 383 = .ok (.iconst 0, 1) := by decide +kernel
theorem dX10_run_384 : decode cX10_run 384 = .ok (.putfield 216, 3) := by decide +kernel
theorem dX10_run_387 : decode cX10_run 387 = .ok (.iconst 0, 1) := by decide +kernel
theorem dX10_run_388 : decode cX10_run 388 = .ok (.istore 10, 2) := by decide +kernel
theorem dX10_run_390 : decode cX10_run 390 = .ok (.iload 10, 2) := by decide +kernel
theorem dX10_run_392 : decode cX10_run 392 = .ok (.iconst 3, 1) := by decide +kernel
theorem dX10_run_393 : decode cX10_run 393 = .ok (.if_icmp .ge 93, 3) := by decide +kernel
theorem dX10_run_396 : decode cX10_run 396 = .ok (.aload_n 0, 1) := by decide +kernel
theorem dX10_run_397 : decode cX10_run 397 = .ok (.getfield 57, 3) := by decide +kernel
theorem dX10_run_400 : decode cX10_run 400 = .ok (.iconst 3, 1) := by decide +kernel
theorem dX10_run_401 : decode cX10_run 401 = .ok (.iload 6, 2) := by decide +kernel
theorem dX10_run_403 : decode cX10_run 403 = .ok (.imul, 1) := by decide +kernel
theorem dX10_run_404 : decode cX10_run 404 = .ok (.iload 10, 2) := by decide +kernel
theorem dX10_run_406 : decode cX10_run 406 = .ok (.iadd, 1) := by decide +kernel
theorem dX10_run_407 : decode cX10_run 407 = .ok (.aload_n 0, 1) := by decide +kernel
theorem dX10_run_408 : decode cX10_run 408 = .ok (.aload_n 0, 1) := by decide +kernel
theorem dX10_run_409 : decode cX10_run 409 = .ok (.getfield 54, 3) := by decide +kernel
theorem dX10_run_412 : decode cX10_run 412 = .ok (.iload 7, 2) := by decide +kernel
theorem dX10_run_414 : decode cX10_run 414 = .ok (.iload 10, 2) := by decide +kernel
theorem dX10_run_416 : decode cX10_run 416 = .ok (.iadd, 1) := by decide +kernel
theorem dX10_run_417 : decode cX10_run 417 = .ok (.iaload, 1) := by decide +kernel
theorem dX10_run_418 : decode cX10_run 418 = .ok (.iload_n 2, 1) := by decide +kernel
theorem dX10_run_419 : decode cX10_run 419 = .ok (.ifCond .eq 14, 3) := by decide +kernel
theorem dX10_run_422 : decode cX10_run 422 = .ok (.aload_n 0, 1) := by decide +kernel
theorem dX10_run_423 : decode cX10_run 423 = .ok (.iload 6, 2) := by decide +kernel
theorem dX10_run_425 : decode cX10_run 425 = .ok (.iload 10, 2) := by decide +kernel
theorem dX10_run_427 : decode cX10_run 427 = .ok (.invokevirtual 219, 3) := by decide +kernel
theorem dX10_run_430 : decode cX10_run 430 = .ok (.goto 4, 3) := by decide +kernel
theorem dX10_run_433 : decode cX10_run 433 = .ok (.iconst 0, 1) := by decide +kernel
theorem dX10_run_434 : decode cX10_run 434 = .ok (.iadd, 1) := by decide +kernel
theorem dX10_run_435 : decode cX10_run 435 = .ok (.invokevirtual 206, 3) := by decide +kernel
theorem dX10_run_438 : decode cX10_run 438 = .ok (.iastore, 1) := by decide +kernel
theorem dX10_run_439 : decode cX10_run 439 = .ok (.aload_n 0, 1) := by decide +kernel
theorem dX10_run_440 : decode cX10_run 440 = .ok (.aload_n 0, 1) := by decide +kernel
theorem dX10_run_441 : decode cX10_run 441 = .ok (.aload_n 0, 1) := by decide +kernel
theorem dX10_run_442 : decode cX10_run 442 = .ok (.getfield 216, 3) := by decide +kernel
theorem dX10_run_445 : decode cX10_run 445 = .ok (.aload_n 0, 1) := by decide +kernel
theorem dX10_run_446 : decode cX10_run 446 = .ok (.getfield 57, 3) := by decide +kernel
theorem dX10_run_449 : decode cX10_run 449 = .ok (.iconst 3, 1) := by decide +kernel
theorem dX10_run_450 : decode cX10_run 450 = .ok (.iload 6, 2) := by decide +kernel
theorem dX10_run_452 : decode cX10_run 452 = .ok (.imul, 1) := by decide +kernel
theorem dX10_run_453 : decode cX10_run 453 = .ok (.iload 10, 2) := by decide +kernel
theorem dX10_run_455 : decode cX10_run 455 = .ok (.iadd, 1) := by decide +kernel
theorem dX10_run_456 : decode cX10_run 456 = .ok (.iaload, 1) := by decide +kernel
theorem dX10_run_457 : decode cX10_run 457 = .ok (.iadd, 1) := by decide +kernel
theorem dX10_run_458 : decode cX10_run 458 = .ok (.invokevirtual 206, 3) := by decide +kernel
theorem dX10_run_461 : decode cX10_run 461 = .ok (.putfield 216, 3) := by decide +kernel
theorem dX10_run_464 : decode cX10_run 464 = .ok (.aload_n 0, 1) := by decide +kernel
theorem dX10_run_465 : decode cX10_run 465 = .ok (.aload_n 0, 1) := by decide +kernel
theorem dX10_run_466 : decode cX10_run 466 = .ok (.getfield 57, 3) := by decide +kernel
theorem dX10_run_469 : decode cX10_run 469 = .ok (.iconst 3, 1) := by decide +kernel
theorem dX10_run_470 : decode cX10_run 470 = .ok (.iload 6, 2) := by decide +kernel
theorem dX10_run_472 : decode cX10_run 472 = .ok (.imul, 1) := by decide +kernel
theorem dX10_run_473 : decode cX10_run 473 = .ok (.iload 10, 2) := by decide +kernel
theorem dX10_run_475 : decode cX10_run 475 = .ok (.iadd, 1) := by decide +kernel
theorem dX10_run_476 : decode cX10_run 476 = .ok (.iaload, 1) := by decide +kernel
theorem dX10_run_477 : decode cX10_run 477 = .ok (.invokevirtual 209, 3) := by decide +kernel
theorem dX10_run_480 : decode cX10_run 480 = .ok (.iinc 10 1, 3) := by decide +kernel
theorem dX10_run_483 : decode cX10_run 483 = .ok (.goto (-93), 3) := by decide +kernel
theorem dX10_run_486 : decode cX10_run 486 = .ok (.iconst 0, 1) := by decide +kernel
theorem dX10_run_487 : decode cX10_run 487 = .ok (.istore 10, 2) := by decide +kernel
theorem dX10_run_489 : decode cX10_run 489 = .ok (.iload 10, 2) := by decide +kernel
theorem dX10_run_491 : decode cX10_run 491 = .ok (.iconst 3, 1) := by decide +kernel
theorem dX10_run_492 : decode cX10_run 492 = .ok (.if_icmp .ge 42, 3) := by decide +kernel
theorem dX10_run_495 : decode cX10_run 495 = .ok (.aload_n 0, 1) := by decide +kernel
theorem dX10_run_496 : decode cX10_run 496 = .ok (.getfield 13, 3) := by decide +kernel
theorem dX10_run_499 : decode cX10_run 499 = .ok (.iload 6, 2) := by decide +kernel
theorem dX10_run_501 : decode cX10_run 501 = .ok (.iaload, 1) := by decide +kernel

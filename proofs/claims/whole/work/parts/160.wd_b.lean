set_option maxRecDepth 20000 in
theorem wd_442 : Cond.code yX2_hasBecome cX2_hasBecome 2 (some .boolean) ∈ lw_tbl := List.mem_of_getElem? (i := 442) rfl
set_option maxRecDepth 20000 in
theorem wd_443 : Cond.methodLink RX3 49 yX3_readNumber ∈ lw_tbl := List.mem_of_getElem? (i := 443) rfl
set_option maxRecDepth 20000 in
theorem wd_445 : Cond.instanceMethod yX3_readNumber ∈ lw_tbl := List.mem_of_getElem? (i := 445) rfl
set_option maxRecDepth 20000 in
theorem wd_446 : Cond.code yX3_readNumber cX3_readNumber 3 (some .int) ∈ lw_tbl := List.mem_of_getElem? (i := 446) rfl
set_option maxRecDepth 20000 in
theorem wd_447 : Cond.methodLink RX3 53 yX3_readUsed ∈ lw_tbl := List.mem_of_getElem? (i := 447) rfl
set_option maxRecDepth 20000 in
theorem wd_449 : Cond.instanceMethod yX3_readUsed ∈ lw_tbl := List.mem_of_getElem? (i := 449) rfl
set_option maxRecDepth 20000 in
theorem wd_450 : Cond.code yX3_readUsed cX3_readUsed 2 (some .int) ∈ lw_tbl := List.mem_of_getElem? (i := 450) rfl
set_option maxRecDepth 20000 in
theorem wd_451 : Cond.methodLink RX3 56 yX2_take ∈ lw_tbl := List.mem_of_getElem? (i := 451) rfl
set_option maxRecDepth 20000 in
theorem wd_452 : Cond.methodLink RX9 81 yX6_begin ∈ lw_tbl := List.mem_of_getElem? (i := 452) rfl
set_option maxRecDepth 20000 in
theorem wd_453 : Cond.instanceMethod yX6_begin ∈ lw_tbl := List.mem_of_getElem? (i := 453) rfl
set_option maxRecDepth 20000 in
theorem wd_454 : Cond.selects RX6 yX6_begin yX6_begin ∈ lw_tbl := List.mem_of_getElem? (i := 454) rfl
set_option maxRecDepth 20000 in
theorem wd_455 : Cond.code yX6_begin cX6_begin 2 none ∈ lw_tbl := List.mem_of_getElem? (i := 455) rfl
set_option maxRecDepth 20000 in
theorem wd_456 : Cond.methodLink RX6 36 yX2_become ∈ lw_tbl := List.mem_of_getElem? (i := 456) rfl
set_option maxRecDepth 20000 in
theorem wd_457 : Cond.instanceMethod yX2_become ∈ lw_tbl := List.mem_of_getElem? (i := 457) rfl
set_option maxRecDepth 20000 in
theorem wd_458 : Cond.selects RX2 yX2_become yX2_become ∈ lw_tbl := List.mem_of_getElem? (i := 458) rfl
set_option maxRecDepth 20000 in
theorem wd_459 : Cond.code yX2_become cX2_become 3 none ∈ lw_tbl := List.mem_of_getElem? (i := 459) rfl
set_option maxRecDepth 20000 in
theorem wd_461 : Cond.static yX9_wipe ∈ lw_tbl := List.mem_of_getElem? (i := 461) rfl
set_option maxRecDepth 20000 in
theorem wd_462 : Cond.code yX9_wipe cX9_wipe 1 none ∈ lw_tbl := List.mem_of_getElem? (i := 462) rfl
set_option maxRecDepth 20000 in
theorem wd_463 : Cond.methodLink RX9 312 yJ7_fill_53178 ∈ lw_tbl := List.mem_of_getElem? (i := 463) rfl
set_option maxRecDepth 20000 in
theorem wd_464 : Cond.static yJ7_fill_53178 ∈ lw_tbl := List.mem_of_getElem? (i := 464) rfl
set_option maxRecDepth 20000 in
theorem wd_465 : Cond.code yJ7_fill_53178 cJ7_fill_53178 4 none ∈ lw_tbl := List.mem_of_getElem? (i := 465) rfl
set_option maxRecDepth 20000 in
theorem wd_466 : Cond.methodLink RX6 44 yX6_forgetLies ∈ lw_tbl := List.mem_of_getElem? (i := 466) rfl
set_option maxRecDepth 20000 in
theorem wd_467 : Cond.instanceMethod yX6_forgetLies ∈ lw_tbl := List.mem_of_getElem? (i := 467) rfl
set_option maxRecDepth 20000 in
theorem wd_468 : Cond.selects RX6 yX6_forgetLies yX6_forgetLies ∈ lw_tbl := List.mem_of_getElem? (i := 468) rfl
set_option maxRecDepth 20000 in
theorem wd_469 : Cond.code yX6_forgetLies cX6_forgetLies 1 none ∈ lw_tbl := List.mem_of_getElem? (i := 469) rfl
set_option maxRecDepth 20000 in
theorem wd_470 : Cond.methodLink RL 29 yX9_item ∈ lw_tbl := List.mem_of_getElem? (i := 470) rfl
set_option maxRecDepth 20000 in
theorem wd_471 : Cond.instanceMethod yX9_item ∈ lw_tbl := List.mem_of_getElem? (i := 471) rfl
set_option maxRecDepth 20000 in
theorem wd_472 : Cond.selects RX9 yX9_item yX9_item ∈ lw_tbl := List.mem_of_getElem? (i := 472) rfl
set_option maxRecDepth 20000 in
theorem wd_473 : Cond.code yX9_item cX9_item 3 (some .int) ∈ lw_tbl := List.mem_of_getElem? (i := 473) rfl
set_option maxRecDepth 20000 in
theorem wd_474 : Cond.methodLink RX9 93 yX2_has ∈ lw_tbl := List.mem_of_getElem? (i := 474) rfl
set_option maxRecDepth 20000 in
theorem wd_475 : Cond.instanceMethod yX2_has ∈ lw_tbl := List.mem_of_getElem? (i := 475) rfl
set_option maxRecDepth 20000 in
theorem wd_476 : Cond.selects RX2 yX2_has yX2_has ∈ lw_tbl := List.mem_of_getElem? (i := 476) rfl
set_option maxRecDepth 20000 in
theorem wd_477 : Cond.code yX2_has cX2_has 2 (some .boolean) ∈ lw_tbl := List.mem_of_getElem? (i := 477) rfl
set_option maxRecDepth 20000 in
theorem wd_478 : Cond.methodLink RX9 97 yX9_within ∈ lw_tbl := List.mem_of_getElem? (i := 478) rfl
set_option maxRecDepth 20000 in
theorem wd_479 : Cond.methodLink RX9 101 yX2_cell ∈ lw_tbl := List.mem_of_getElem? (i := 479) rfl
set_option maxRecDepth 20000 in
theorem wd_480 : Cond.instanceMethod yX2_cell ∈ lw_tbl := List.mem_of_getElem? (i := 480) rfl
set_option maxRecDepth 20000 in
theorem wd_481 : Cond.selects RX2 yX2_cell yX2_cell ∈ lw_tbl := List.mem_of_getElem? (i := 481) rfl
set_option maxRecDepth 20000 in
theorem wd_482 : Cond.code yX2_cell cX2_cell 3 (some .int) ∈ lw_tbl := List.mem_of_getElem? (i := 482) rfl
set_option maxRecDepth 20000 in
theorem wd_483 : Cond.methodLink RL 34 yX9_modulus ∈ lw_tbl := List.mem_of_getElem? (i := 483) rfl
set_option maxRecDepth 20000 in
theorem wd_484 : Cond.instanceMethod yX9_modulus ∈ lw_tbl := List.mem_of_getElem? (i := 484) rfl
set_option maxRecDepth 20000 in
theorem wd_485 : Cond.selects RX9 yX9_modulus yX9_modulus ∈ lw_tbl := List.mem_of_getElem? (i := 485) rfl
set_option maxRecDepth 20000 in
theorem wd_486 : Cond.code yX9_modulus cX9_modulus 3 (some .int) ∈ lw_tbl := List.mem_of_getElem? (i := 486) rfl
set_option maxRecDepth 20000 in
theorem wd_487 : Cond.methodLink RL 39 yX9_input ∈ lw_tbl := List.mem_of_getElem? (i := 487) rfl
set_option maxRecDepth 20000 in
theorem wd_488 : Cond.instanceMethod yX9_input ∈ lw_tbl := List.mem_of_getElem? (i := 488) rfl
set_option maxRecDepth 20000 in
theorem wd_489 : Cond.selects RX9 yX9_input yX9_input ∈ lw_tbl := List.mem_of_getElem? (i := 489) rfl
set_option maxRecDepth 20000 in
theorem wd_490 : Cond.code yX9_input cX9_input 4 (some .int) ∈ lw_tbl := List.mem_of_getElem? (i := 490) rfl
set_option maxRecDepth 20000 in
theorem wd_491 : Cond.methodLink RX9 114 yX9_swap ∈ lw_tbl := List.mem_of_getElem? (i := 491) rfl
set_option maxRecDepth 20000 in
theorem wd_492 : Cond.static yX9_swap ∈ lw_tbl := List.mem_of_getElem? (i := 492) rfl
set_option maxRecDepth 20000 in
theorem wd_493 : Cond.code yX9_swap cX9_swap 4 (some .int) ∈ lw_tbl := List.mem_of_getElem? (i := 493) rfl
set_option maxRecDepth 20000 in
theorem wd_494 : Cond.methodLink RX9 145 yX9_at ∈ lw_tbl := List.mem_of_getElem? (i := 494) rfl
set_option maxRecDepth 20000 in
theorem wd_495 : Cond.methodLink RX9 308 yX9_put ∈ lw_tbl := List.mem_of_getElem? (i := 495) rfl
set_option maxRecDepth 20000 in
theorem wd_496 : Cond.methodLink RL 44 yX9_lot ∈ lw_tbl := List.mem_of_getElem? (i := 496) rfl
set_option maxRecDepth 20000 in
theorem wd_497 : Cond.instanceMethod yX9_lot ∈ lw_tbl := List.mem_of_getElem? (i := 497) rfl
set_option maxRecDepth 20000 in
theorem wd_498 : Cond.selects RX9 yX9_lot yX9_lot ∈ lw_tbl := List.mem_of_getElem? (i := 498) rfl
set_option maxRecDepth 20000 in
theorem wd_499 : Cond.code yX9_lot cX9_lot 3 (some .int) ∈ lw_tbl := List.mem_of_getElem? (i := 499) rfl
set_option maxRecDepth 20000 in
theorem wd_500 : Cond.methodLink RL 48 yX9_lie ∈ lw_tbl := List.mem_of_getElem? (i := 500) rfl
set_option maxRecDepth 20000 in
theorem wd_501 : Cond.instanceMethod yX9_lie ∈ lw_tbl := List.mem_of_getElem? (i := 501) rfl
set_option maxRecDepth 20000 in
theorem wd_502 : Cond.selects RX9 yX9_lie yX9_lie ∈ lw_tbl := List.mem_of_getElem? (i := 502) rfl
set_option maxRecDepth 20000 in
theorem wd_503 : Cond.code yX9_lie cX9_lie 5 (some .int) ∈ lw_tbl := List.mem_of_getElem? (i := 503) rfl
set_option maxRecDepth 20000 in
theorem wd_504 : Cond.methodLink RX9 121 yX9_isHand ∈ lw_tbl := List.mem_of_getElem? (i := 504) rfl
set_option maxRecDepth 20000 in
theorem wd_505 : Cond.static yX9_isHand ∈ lw_tbl := List.mem_of_getElem? (i := 505) rfl
set_option maxRecDepth 20000 in
theorem wd_506 : Cond.code yX9_isHand cX9_isHand 1 (some .boolean) ∈ lw_tbl := List.mem_of_getElem? (i := 506) rfl
set_option maxRecDepth 20000 in
theorem wd_507 : Cond.methodLink RX9 127 yX6_addLie ∈ lw_tbl := List.mem_of_getElem? (i := 507) rfl
set_option maxRecDepth 20000 in
theorem wd_508 : Cond.instanceMethod yX6_addLie ∈ lw_tbl := List.mem_of_getElem? (i := 508) rfl
set_option maxRecDepth 20000 in
theorem wd_509 : Cond.selects RX6 yX6_addLie yX6_addLie ∈ lw_tbl := List.mem_of_getElem? (i := 509) rfl
set_option maxRecDepth 20000 in
theorem wd_510 : Cond.code yX6_addLie cX6_addLie 5 none ∈ lw_tbl := List.mem_of_getElem? (i := 510) rfl
set_option maxRecDepth 20000 in
theorem wd_513 : Cond.methodLink RL 52 yX9_honest ∈ lw_tbl := List.mem_of_getElem? (i := 513) rfl
set_option maxRecDepth 20000 in
theorem wd_514 : Cond.instanceMethod yX9_honest ∈ lw_tbl := List.mem_of_getElem? (i := 514) rfl
set_option maxRecDepth 20000 in
theorem wd_515 : Cond.selects RX9 yX9_honest yX9_honest ∈ lw_tbl := List.mem_of_getElem? (i := 515) rfl
set_option maxRecDepth 20000 in
theorem wd_516 : Cond.code yX9_honest cX9_honest 2 (some .int) ∈ lw_tbl := List.mem_of_getElem? (i := 516) rfl
set_option maxRecDepth 20000 in
theorem wd_517 : Cond.methodLink RX9 131 yX6_forgetLies ∈ lw_tbl := List.mem_of_getElem? (i := 517) rfl
set_option maxRecDepth 20000 in
theorem wd_518 : Cond.methodLink RL 56 yX9_end ∈ lw_tbl := List.mem_of_getElem? (i := 518) rfl
set_option maxRecDepth 20000 in
theorem wd_519 : Cond.instanceMethod yX9_end ∈ lw_tbl := List.mem_of_getElem? (i := 519) rfl
set_option maxRecDepth 20000 in
theorem wd_520 : Cond.selects RX9 yX9_end yX9_end ∈ lw_tbl := List.mem_of_getElem? (i := 520) rfl
set_option maxRecDepth 20000 in
theorem wd_521 : Cond.code yX9_end cX9_end 1 (some .int) ∈ lw_tbl := List.mem_of_getElem? (i := 521) rfl
set_option maxRecDepth 20000 in
theorem wd_522 : Cond.methodLink RX9 134 yX4_go ∈ lw_tbl := List.mem_of_getElem? (i := 522) rfl
set_option maxRecDepth 20000 in
theorem wd_523 : Cond.instanceMethod yX4_go ∈ lw_tbl := List.mem_of_getElem? (i := 523) rfl
set_option maxRecDepth 20000 in
theorem wd_524 : Cond.selects RX4 yX4_go yX4_go ∈ lw_tbl := List.mem_of_getElem? (i := 524) rfl
set_option maxRecDepth 20000 in
theorem wd_525 : Cond.code yX4_go cX4_go 3 none ∈ lw_tbl := List.mem_of_getElem? (i := 525) rfl
set_option maxRecDepth 20000 in
theorem wd_526 : Cond.methodLink RX4 41 yX4_go_ ∈ lw_tbl := List.mem_of_getElem? (i := 526) rfl
set_option maxRecDepth 20000 in
theorem wd_527 : Cond.instanceMethod yX4_go_ ∈ lw_tbl := List.mem_of_getElem? (i := 527) rfl
set_option maxRecDepth 20000 in
theorem wd_528 : Cond.selects RX4 yX4_go_ yX4_go_ ∈ lw_tbl := List.mem_of_getElem? (i := 528) rfl
set_option maxRecDepth 20000 in
theorem wd_529 : Cond.code yX4_go_ cX4_go_ 13 none ∈ lw_tbl := List.mem_of_getElem? (i := 529) rfl
set_option maxRecDepth 20000 in
theorem wd_530 : Cond.methodLink RX4 77 Lib.Math.min.name ∈ lw_tbl := List.mem_of_getElem? (i := 530) rfl
set_option maxRecDepth 20000 in
theorem wd_531 : Cond.static Lib.Math.min.name ∈ lw_tbl := List.mem_of_getElem? (i := 531) rfl
set_option maxRecDepth 20000 in
theorem wd_532 : Cond.code Lib.Math.min.name Lib.Math.min.code 2 (some .int) ∈ lw_tbl := List.mem_of_getElem? (i := 532) rfl
set_option maxRecDepth 20000 in
theorem wd_533 : Cond.methodLink RX4 83 yX6_inputIn ∈ lw_tbl := List.mem_of_getElem? (i := 533) rfl
set_option maxRecDepth 20000 in
theorem wd_534 : Cond.instanceMethod yX6_inputIn ∈ lw_tbl := List.mem_of_getElem? (i := 534) rfl
set_option maxRecDepth 20000 in
theorem wd_535 : Cond.selects RX6 yX6_inputIn yX6_inputIn ∈ lw_tbl := List.mem_of_getElem? (i := 535) rfl
set_option maxRecDepth 20000 in
theorem wd_536 : Cond.code yX6_inputIn cX6_inputIn 3 (some .int) ∈ lw_tbl := List.mem_of_getElem? (i := 536) rfl
set_option maxRecDepth 20000 in
theorem wd_538 : Cond.static yX9_mod ∈ lw_tbl := List.mem_of_getElem? (i := 538) rfl
set_option maxRecDepth 20000 in
theorem wd_539 : Cond.code yX9_mod cX9_mod 3 (some .int) ∈ lw_tbl := List.mem_of_getElem? (i := 539) rfl
set_option maxRecDepth 20000 in
theorem wd_540 : Cond.methodLink RX4 86 yX4_cut ∈ lw_tbl := List.mem_of_getElem? (i := 540) rfl
set_option maxRecDepth 20000 in
theorem wd_542 : Cond.instanceMethod yX4_cut ∈ lw_tbl := List.mem_of_getElem? (i := 542) rfl
set_option maxRecDepth 20000 in
theorem wd_543 : Cond.code yX4_cut cX4_cut 8 none ∈ lw_tbl := List.mem_of_getElem? (i := 543) rfl
set_option maxRecDepth 20000 in
theorem wd_544 : Cond.methodLink RX4 125 yX4_drawLot ∈ lw_tbl := List.mem_of_getElem? (i := 544) rfl
set_option maxRecDepth 20000 in
theorem wd_546 : Cond.instanceMethod yX4_drawLot ∈ lw_tbl := List.mem_of_getElem? (i := 546) rfl
set_option maxRecDepth 20000 in
theorem wd_547 : Cond.code yX4_drawLot cX4_drawLot 3 (some .int) ∈ lw_tbl := List.mem_of_getElem? (i := 547) rfl
set_option maxRecDepth 20000 in
theorem wd_550 : Cond.methodLink RX4 129 yX4_isPlace ∈ lw_tbl := List.mem_of_getElem? (i := 550) rfl
set_option maxRecDepth 20000 in
theorem wd_552 : Cond.instanceMethod yX4_isPlace ∈ lw_tbl := List.mem_of_getElem? (i := 552) rfl
set_option maxRecDepth 20000 in
theorem wd_553 : Cond.code yX4_isPlace cX4_isPlace 2 (some .boolean) ∈ lw_tbl := List.mem_of_getElem? (i := 553) rfl
set_option maxRecDepth 20000 in
theorem wd_554 : Cond.methodLink RX4 133 yX4_look ∈ lw_tbl := List.mem_of_getElem? (i := 554) rfl
set_option maxRecDepth 20000 in
theorem wd_556 : Cond.instanceMethod yX4_look ∈ lw_tbl := List.mem_of_getElem? (i := 556) rfl
set_option maxRecDepth 20000 in
theorem wd_557 : Cond.code yX4_look cX4_look 2 none ∈ lw_tbl := List.mem_of_getElem? (i := 557) rfl
set_option maxRecDepth 20000 in
theorem wd_559 : Cond.methodLink RX4 90 yX4_fix ∈ lw_tbl := List.mem_of_getElem? (i := 559) rfl
set_option maxRecDepth 20000 in
theorem wd_561 : Cond.instanceMethod yX4_fix ∈ lw_tbl := List.mem_of_getElem? (i := 561) rfl
set_option maxRecDepth 20000 in
theorem wd_562 : Cond.code yX4_fix cX4_fix 3 none ∈ lw_tbl := List.mem_of_getElem? (i := 562) rfl
set_option maxRecDepth 20000 in
theorem wd_563 : Cond.methodLink RX4 94 yX4_join ∈ lw_tbl := List.mem_of_getElem? (i := 563) rfl
set_option maxRecDepth 20000 in
theorem wd_565 : Cond.instanceMethod yX4_join ∈ lw_tbl := List.mem_of_getElem? (i := 565) rfl
set_option maxRecDepth 20000 in
theorem wd_566 : Cond.code yX4_join cX4_join 6 none ∈ lw_tbl := List.mem_of_getElem? (i := 566) rfl
set_option maxRecDepth 20000 in
theorem wd_567 : Cond.methodLink RX4 98 yX4_drawTriple ∈ lw_tbl := List.mem_of_getElem? (i := 567) rfl
set_option maxRecDepth 20000 in
theorem wd_569 : Cond.instanceMethod yX4_drawTriple ∈ lw_tbl := List.mem_of_getElem? (i := 569) rfl
set_option maxRecDepth 20000 in
theorem wd_570 : Cond.code yX4_drawTriple cX4_drawTriple 4 none ∈ lw_tbl := List.mem_of_getElem? (i := 570) rfl
set_option maxRecDepth 20000 in
theorem wd_571 : Cond.methodLink RX4 102 yX4_showLessTriple ∈ lw_tbl := List.mem_of_getElem? (i := 571) rfl
set_option maxRecDepth 20000 in
theorem wd_573 : Cond.instanceMethod yX4_showLessTriple ∈ lw_tbl := List.mem_of_getElem? (i := 573) rfl
set_option maxRecDepth 20000 in
theorem wd_574 : Cond.code yX4_showLessTriple cX4_showLessTriple 6 none ∈ lw_tbl := List.mem_of_getElem? (i := 574) rfl
set_option maxRecDepth 20000 in
theorem wd_575 : Cond.methodLink RX4 106 yX4_multiply ∈ lw_tbl := List.mem_of_getElem? (i := 575) rfl
set_option maxRecDepth 20000 in
theorem wd_577 : Cond.instanceMethod yX4_multiply ∈ lw_tbl := List.mem_of_getElem? (i := 577) rfl
set_option maxRecDepth 20000 in
theorem wd_578 : Cond.code yX4_multiply cX4_multiply 7 none ∈ lw_tbl := List.mem_of_getElem? (i := 578) rfl
set_option maxRecDepth 20000 in
theorem wd_579 : Cond.methodLink RX4 110 yX4_showAll ∈ lw_tbl := List.mem_of_getElem? (i := 579) rfl
set_option maxRecDepth 20000 in
theorem wd_581 : Cond.instanceMethod yX4_showAll ∈ lw_tbl := List.mem_of_getElem? (i := 581) rfl
set_option maxRecDepth 20000 in
theorem wd_582 : Cond.code yX4_showAll cX4_showAll 5 none ∈ lw_tbl := List.mem_of_getElem? (i := 582) rfl
set_option maxRecDepth 20000 in
theorem wd_583 : Cond.methodLink RX9 138 yX4_endShown ∈ lw_tbl := List.mem_of_getElem? (i := 583) rfl
set_option maxRecDepth 20000 in
theorem wd_584 : Cond.instanceMethod yX4_endShown ∈ lw_tbl := List.mem_of_getElem? (i := 584) rfl
set_option maxRecDepth 20000 in
theorem wd_585 : Cond.selects RX4 yX4_endShown yX4_endShown ∈ lw_tbl := List.mem_of_getElem? (i := 585) rfl
set_option maxRecDepth 20000 in
theorem wd_586 : Cond.code yX4_endShown cX4_endShown 1 (some .int) ∈ lw_tbl := List.mem_of_getElem? (i := 586) rfl
set_option maxRecDepth 20000 in
theorem wd_587 : Cond.methodLink RL 60 yX9_share ∈ lw_tbl := List.mem_of_getElem? (i := 587) rfl
set_option maxRecDepth 20000 in
theorem wd_588 : Cond.instanceMethod yX9_share ∈ lw_tbl := List.mem_of_getElem? (i := 588) rfl
set_option maxRecDepth 20000 in
theorem wd_589 : Cond.selects RX9 yX9_share yX9_share ∈ lw_tbl := List.mem_of_getElem? (i := 589) rfl
set_option maxRecDepth 20000 in
theorem wd_590 : Cond.code yX9_share cX9_share 3 (some .int) ∈ lw_tbl := List.mem_of_getElem? (i := 590) rfl
set_option maxRecDepth 20000 in
theorem wd_591 : Cond.methodLink RX9 149 yX4_shareOf ∈ lw_tbl := List.mem_of_getElem? (i := 591) rfl
set_option maxRecDepth 20000 in
theorem wd_592 : Cond.instanceMethod yX4_shareOf ∈ lw_tbl := List.mem_of_getElem? (i := 592) rfl
set_option maxRecDepth 20000 in
theorem wd_593 : Cond.selects RX4 yX4_shareOf yX4_shareOf ∈ lw_tbl := List.mem_of_getElem? (i := 593) rfl
set_option maxRecDepth 20000 in
theorem wd_594 : Cond.code yX4_shareOf cX4_shareOf 3 (some .int) ∈ lw_tbl := List.mem_of_getElem? (i := 594) rfl
set_option maxRecDepth 20000 in
theorem wd_595 : Cond.methodLink RL 64 yX9_seen ∈ lw_tbl := List.mem_of_getElem? (i := 595) rfl
set_option maxRecDepth 20000 in
theorem wd_596 : Cond.instanceMethod yX9_seen ∈ lw_tbl := List.mem_of_getElem? (i := 596) rfl
set_option maxRecDepth 20000 in
theorem wd_597 : Cond.selects RX9 yX9_seen yX9_seen ∈ lw_tbl := List.mem_of_getElem? (i := 597) rfl
set_option maxRecDepth 20000 in
theorem wd_598 : Cond.code yX9_seen cX9_seen 3 (some .int) ∈ lw_tbl := List.mem_of_getElem? (i := 598) rfl
set_option maxRecDepth 20000 in
theorem wd_599 : Cond.methodLink RL 68 yX9_spy ∈ lw_tbl := List.mem_of_getElem? (i := 599) rfl
set_option maxRecDepth 20000 in
theorem wd_600 : Cond.instanceMethod yX9_spy ∈ lw_tbl := List.mem_of_getElem? (i := 600) rfl
set_option maxRecDepth 20000 in
theorem wd_601 : Cond.selects RX9 yX9_spy yX9_spy ∈ lw_tbl := List.mem_of_getElem? (i := 601) rfl
set_option maxRecDepth 20000 in
theorem wd_602 : Cond.code yX9_spy cX9_spy 4 (some .int) ∈ lw_tbl := List.mem_of_getElem? (i := 602) rfl
set_option maxRecDepth 20000 in
theorem wd_603 : Cond.methodLink RX9 158 yX2_lotsTaken ∈ lw_tbl := List.mem_of_getElem? (i := 603) rfl
set_option maxRecDepth 20000 in
theorem wd_604 : Cond.instanceMethod yX2_lotsTaken ∈ lw_tbl := List.mem_of_getElem? (i := 604) rfl
set_option maxRecDepth 20000 in
theorem wd_605 : Cond.selects RX2 yX2_lotsTaken yX2_lotsTaken ∈ lw_tbl := List.mem_of_getElem? (i := 605) rfl
set_option maxRecDepth 20000 in
theorem wd_606 : Cond.code yX2_lotsTaken cX2_lotsTaken 1 (some .int) ∈ lw_tbl := List.mem_of_getElem? (i := 606) rfl
set_option maxRecDepth 20000 in
theorem wd_607 : Cond.methodLink RX9 161 yX9_waysOf ∈ lw_tbl := List.mem_of_getElem? (i := 607) rfl
set_option maxRecDepth 20000 in
theorem wd_608 : Cond.static yX9_waysOf ∈ lw_tbl := List.mem_of_getElem? (i := 608) rfl
set_option maxRecDepth 20000 in
theorem wd_609 : Cond.code yX9_waysOf cX9_waysOf 4 (some .int) ∈ lw_tbl := List.mem_of_getElem? (i := 609) rfl
set_option maxRecDepth 20000 in
theorem wd_610 : Cond.methodLink RX9 164 yX6_rowsAreAlike ∈ lw_tbl := List.mem_of_getElem? (i := 610) rfl
set_option maxRecDepth 20000 in
theorem wd_611 : Cond.instanceMethod yX6_rowsAreAlike ∈ lw_tbl := List.mem_of_getElem? (i := 611) rfl
set_option maxRecDepth 20000 in
theorem wd_612 : Cond.selects RX6 yX6_rowsAreAlike yX6_rowsAreAlike ∈ lw_tbl := List.mem_of_getElem? (i := 612) rfl
set_option maxRecDepth 20000 in
theorem wd_613 : Cond.code yX6_rowsAreAlike cX6_rowsAreAlike 2 (some .boolean) ∈ lw_tbl := List.mem_of_getElem? (i := 613) rfl
set_option maxRecDepth 20000 in
theorem wd_614 : Cond.methodLink RX6 64 yX6_inputIn ∈ lw_tbl := List.mem_of_getElem? (i := 614) rfl
set_option maxRecDepth 20000 in
theorem wd_615 : Cond.methodLink RX9 168 yX5_watchFirstRow ∈ lw_tbl := List.mem_of_getElem? (i := 615) rfl
set_option maxRecDepth 20000 in
theorem wd_616 : Cond.instanceMethod yX5_watchFirstRow ∈ lw_tbl := List.mem_of_getElem? (i := 616) rfl
set_option maxRecDepth 20000 in
theorem wd_617 : Cond.selects RX5 yX5_watchFirstRow yX5_watchFirstRow ∈ lw_tbl := List.mem_of_getElem? (i := 617) rfl
set_option maxRecDepth 20000 in
theorem wd_618 : Cond.code yX5_watchFirstRow cX5_watchFirstRow 10 none ∈ lw_tbl := List.mem_of_getElem? (i := 618) rfl
set_option maxRecDepth 20000 in
theorem wd_619 : Cond.methodLink RX5 19 yJ7_fill_d0a16 ∈ lw_tbl := List.mem_of_getElem? (i := 619) rfl
set_option maxRecDepth 20000 in
theorem wd_620 : Cond.static yJ7_fill_d0a16 ∈ lw_tbl := List.mem_of_getElem? (i := 620) rfl
set_option maxRecDepth 20000 in
theorem wd_621 : Cond.code yJ7_fill_d0a16 cJ7_fill_d0a16 5 none ∈ lw_tbl := List.mem_of_getElem? (i := 621) rfl
set_option maxRecDepth 20000 in
theorem wd_623 : Cond.methodLink RX5 33 yX4_go_ ∈ lw_tbl := List.mem_of_getElem? (i := 623) rfl
set_option maxRecDepth 20000 in
theorem wd_624 : Cond.methodLink RX5 39 yX5_keyOf ∈ lw_tbl := List.mem_of_getElem? (i := 624) rfl
set_option maxRecDepth 20000 in
theorem wd_625 : Cond.static yX5_keyOf ∈ lw_tbl := List.mem_of_getElem? (i := 625) rfl
set_option maxRecDepth 20000 in
theorem wd_626 : Cond.code yX5_keyOf cX5_keyOf 1 (some .int) ∈ lw_tbl := List.mem_of_getElem? (i := 626) rfl
set_option maxRecDepth 20000 in
theorem wd_627 : Cond.methodLink RX5 43 yX5_slotOf ∈ lw_tbl := List.mem_of_getElem? (i := 627) rfl
set_option maxRecDepth 20000 in
theorem wd_629 : Cond.instanceMethod yX5_slotOf ∈ lw_tbl := List.mem_of_getElem? (i := 629) rfl
set_option maxRecDepth 20000 in
theorem wd_630 : Cond.code yX5_slotOf cX5_slotOf 6 (some .int) ∈ lw_tbl := List.mem_of_getElem? (i := 630) rfl
set_option maxRecDepth 20000 in
theorem wd_631 : Cond.constant RX5 64 (-1640531535) ∈ lw_tbl := List.mem_of_getElem? (i := 631) rfl
set_option maxRecDepth 20000 in
theorem wd_632 : Cond.methodLink RX5 47 yX5_slotAt ∈ lw_tbl := List.mem_of_getElem? (i := 632) rfl
set_option maxRecDepth 20000 in
theorem wd_634 : Cond.instanceMethod yX5_slotAt ∈ lw_tbl := List.mem_of_getElem? (i := 634) rfl
set_option maxRecDepth 20000 in
theorem wd_635 : Cond.code yX5_slotAt cX5_slotAt 2 (some .long) ∈ lw_tbl := List.mem_of_getElem? (i := 635) rfl
set_option maxRecDepth 20000 in
theorem wd_636 : Cond.methodLink RX5 51 yX5_putSlot ∈ lw_tbl := List.mem_of_getElem? (i := 636) rfl
set_option maxRecDepth 20000 in
theorem wd_638 : Cond.instanceMethod yX5_putSlot ∈ lw_tbl := List.mem_of_getElem? (i := 638) rfl
set_option maxRecDepth 20000 in
theorem wd_639 : Cond.code yX5_putSlot cX5_putSlot 4 none ∈ lw_tbl := List.mem_of_getElem? (i := 639) rfl
set_option maxRecDepth 20000 in
theorem wd_640 : Cond.methodLink RX5 55 yX5_turnLots ∈ lw_tbl := List.mem_of_getElem? (i := 640) rfl
set_option maxRecDepth 20000 in
theorem wd_642 : Cond.instanceMethod yX5_turnLots ∈ lw_tbl := List.mem_of_getElem? (i := 642) rfl
set_option maxRecDepth 20000 in
theorem wd_643 : Cond.code yX5_turnLots cX5_turnLots 5 none ∈ lw_tbl := List.mem_of_getElem? (i := 643) rfl
set_option maxRecDepth 20000 in
theorem wd_644 : Cond.methodLink RX5 71 yX2_lotsTaken ∈ lw_tbl := List.mem_of_getElem? (i := 644) rfl
set_option maxRecDepth 20000 in
theorem wd_648 : Cond.methodLink RX9 175 yX5_secondRowDiffers ∈ lw_tbl := List.mem_of_getElem? (i := 648) rfl
set_option maxRecDepth 20000 in
theorem wd_649 : Cond.instanceMethod yX5_secondRowDiffers ∈ lw_tbl := List.mem_of_getElem? (i := 649) rfl
set_option maxRecDepth 20000 in
theorem wd_650 : Cond.selects RX5 yX5_secondRowDiffers yX5_secondRowDiffers ∈ lw_tbl := List.mem_of_getElem? (i := 650) rfl
set_option maxRecDepth 20000 in
theorem wd_651 : Cond.code yX5_secondRowDiffers cX5_secondRowDiffers 9 (some .boolean) ∈ lw_tbl := List.mem_of_getElem? (i := 651) rfl
set_option maxRecDepth 20000 in
theorem wd_652 : Cond.constantLong RX5 59 (8191) ∈ lw_tbl := List.mem_of_getElem? (i := 652) rfl
set_option maxRecDepth 20000 in
theorem wd_653 : Cond.methodLink RL 72 yX9_tells ∈ lw_tbl := List.mem_of_getElem? (i := 653) rfl
set_option maxRecDepth 20000 in
theorem wd_654 : Cond.instanceMethod yX9_tells ∈ lw_tbl := List.mem_of_getElem? (i := 654) rfl
set_option maxRecDepth 20000 in
theorem wd_655 : Cond.selects RX9 yX9_tells yX9_tells ∈ lw_tbl := List.mem_of_getElem? (i := 655) rfl
set_option maxRecDepth 20000 in
theorem wd_656 : Cond.code yX9_tells cX9_tells 4 (some .int) ∈ lw_tbl := List.mem_of_getElem? (i := 656) rfl
set_option maxRecDepth 20000 in
theorem wd_657 : Cond.methodLink RX9 179 yX2_inputsOf ∈ lw_tbl := List.mem_of_getElem? (i := 657) rfl
set_option maxRecDepth 20000 in
theorem wd_658 : Cond.instanceMethod yX2_inputsOf ∈ lw_tbl := List.mem_of_getElem? (i := 658) rfl
set_option maxRecDepth 20000 in
theorem wd_659 : Cond.selects RX2 yX2_inputsOf yX2_inputsOf ∈ lw_tbl := List.mem_of_getElem? (i := 659) rfl
set_option maxRecDepth 20000 in
theorem wd_660 : Cond.code yX2_inputsOf cX2_inputsOf 4 (some .int) ∈ lw_tbl := List.mem_of_getElem? (i := 660) rfl
set_option maxRecDepth 20000 in
theorem wd_661 : Cond.methodLink RX2 35 yX2_cell ∈ lw_tbl := List.mem_of_getElem? (i := 661) rfl
set_option maxRecDepth 20000 in
theorem wd_662 : Cond.methodLink RX9 183 yX4_sameEnds ∈ lw_tbl := List.mem_of_getElem? (i := 662) rfl
set_option maxRecDepth 20000 in
theorem wd_663 : Cond.instanceMethod yX4_sameEnds ∈ lw_tbl := List.mem_of_getElem? (i := 663) rfl
set_option maxRecDepth 20000 in
theorem wd_664 : Cond.selects RX4 yX4_sameEnds yX4_sameEnds ∈ lw_tbl := List.mem_of_getElem? (i := 664) rfl
set_option maxRecDepth 20000 in
theorem wd_665 : Cond.code yX4_sameEnds cX4_sameEnds 7 (some .int) ∈ lw_tbl := List.mem_of_getElem? (i := 665) rfl
set_option maxRecDepth 20000 in
theorem wd_666 : Cond.methodLink RX4 136 yX4_plainEnd ∈ lw_tbl := List.mem_of_getElem? (i := 666) rfl
set_option maxRecDepth 20000 in
theorem wd_668 : Cond.instanceMethod yX4_plainEnd ∈ lw_tbl := List.mem_of_getElem? (i := 668) rfl
set_option maxRecDepth 20000 in
theorem wd_669 : Cond.code yX4_plainEnd cX4_plainEnd 7 (some .int) ∈ lw_tbl := List.mem_of_getElem? (i := 669) rfl
set_option maxRecDepth 20000 in
theorem wd_670 : Cond.methodLink RX4 147 yX2_cell ∈ lw_tbl := List.mem_of_getElem? (i := 670) rfl
set_option maxRecDepth 20000 in
theorem wd_671 : Cond.methodLink RX4 140 yX4_clearOthers ∈ lw_tbl := List.mem_of_getElem? (i := 671) rfl
set_option maxRecDepth 20000 in
theorem wd_673 : Cond.instanceMethod yX4_clearOthers ∈ lw_tbl := List.mem_of_getElem? (i := 673) rfl
set_option maxRecDepth 20000 in
theorem wd_674 : Cond.code yX4_clearOthers cX4_clearOthers 5 none ∈ lw_tbl := List.mem_of_getElem? (i := 674) rfl
set_option maxRecDepth 20000 in
theorem wd_675 : Cond.methodLink RX4 144 yX4_turnOthers ∈ lw_tbl := List.mem_of_getElem? (i := 675) rfl
set_option maxRecDepth 20000 in
theorem wd_677 : Cond.instanceMethod yX4_turnOthers ∈ lw_tbl := List.mem_of_getElem? (i := 677) rfl
set_option maxRecDepth 20000 in
theorem wd_678 : Cond.code yX4_turnOthers cX4_turnOthers 6 none ∈ lw_tbl := List.mem_of_getElem? (i := 678) rfl
set_option maxRecDepth 20000 in
theorem wd_679 : Cond.methodLink RL 76 yX9_trade ∈ lw_tbl := List.mem_of_getElem? (i := 679) rfl
set_option maxRecDepth 20000 in
theorem wd_680 : Cond.instanceMethod yX9_trade ∈ lw_tbl := List.mem_of_getElem? (i := 680) rfl
set_option maxRecDepth 20000 in
theorem wd_681 : Cond.selects RX9 yX9_trade yX9_trade ∈ lw_tbl := List.mem_of_getElem? (i := 681) rfl
set_option maxRecDepth 20000 in
theorem wd_682 : Cond.code yX9_trade cX9_trade 3 (some .int) ∈ lw_tbl := List.mem_of_getElem? (i := 682) rfl
set_option maxRecDepth 20000 in
theorem wd_683 : Cond.methodLink RL 80 yX9_least ∈ lw_tbl := List.mem_of_getElem? (i := 683) rfl
set_option maxRecDepth 20000 in
theorem wd_684 : Cond.instanceMethod yX9_least ∈ lw_tbl := List.mem_of_getElem? (i := 684) rfl
set_option maxRecDepth 20000 in
theorem wd_685 : Cond.selects RX9 yX9_least yX9_least ∈ lw_tbl := List.mem_of_getElem? (i := 685) rfl
set_option maxRecDepth 20000 in
theorem wd_686 : Cond.code yX9_least cX9_least 4 (some .int) ∈ lw_tbl := List.mem_of_getElem? (i := 686) rfl
set_option maxRecDepth 20000 in
theorem wd_687 : Cond.methodLink RX9 190 yX8_cheapestSet ∈ lw_tbl := List.mem_of_getElem? (i := 687) rfl
set_option maxRecDepth 20000 in
theorem wd_688 : Cond.instanceMethod yX8_cheapestSet ∈ lw_tbl := List.mem_of_getElem? (i := 688) rfl
set_option maxRecDepth 20000 in
theorem wd_689 : Cond.selects RX8 yX8_cheapestSet yX8_cheapestSet ∈ lw_tbl := List.mem_of_getElem? (i := 689) rfl
set_option maxRecDepth 20000 in
theorem wd_690 : Cond.code yX8_cheapestSet cX8_cheapestSet 7 (some .int) ∈ lw_tbl := List.mem_of_getElem? (i := 690) rfl
set_option maxRecDepth 20000 in
theorem wd_691 : Cond.methodLink RX8 34 yX8_roundsWith ∈ lw_tbl := List.mem_of_getElem? (i := 691) rfl
set_option maxRecDepth 20000 in
theorem wd_693 : Cond.instanceMethod yX8_roundsWith ∈ lw_tbl := List.mem_of_getElem? (i := 693) rfl
set_option maxRecDepth 20000 in
theorem wd_694 : Cond.code yX8_roundsWith cX8_roundsWith 8 (some .int) ∈ lw_tbl := List.mem_of_getElem? (i := 694) rfl
set_option maxRecDepth 20000 in
theorem wd_695 : Cond.methodLink RX8 45 yX2_cell ∈ lw_tbl := List.mem_of_getElem? (i := 695) rfl
set_option maxRecDepth 20000 in
theorem wd_697 : Cond.methodLink RX8 48 Lib.Math.max.name ∈ lw_tbl := List.mem_of_getElem? (i := 697) rfl
set_option maxRecDepth 20000 in
theorem wd_699 : Cond.methodLink RX8 38 yX8_priceOf ∈ lw_tbl := List.mem_of_getElem? (i := 699) rfl
set_option maxRecDepth 20000 in
theorem wd_700 : Cond.instanceMethod yX8_priceOf ∈ lw_tbl := List.mem_of_getElem? (i := 700) rfl
set_option maxRecDepth 20000 in
theorem wd_701 : Cond.selects RX8 yX8_priceOf yX8_priceOf ∈ lw_tbl := List.mem_of_getElem? (i := 701) rfl
set_option maxRecDepth 20000 in
theorem wd_702 : Cond.code yX8_priceOf cX8_priceOf 4 (some .int) ∈ lw_tbl := List.mem_of_getElem? (i := 702) rfl
set_option maxRecDepth 20000 in
theorem wd_703 : Cond.methodLink RX8 18 yJ6_bitCount_0f7a4 ∈ lw_tbl := List.mem_of_getElem? (i := 703) rfl
set_option maxRecDepth 20000 in
theorem wd_704 : Cond.static yJ6_bitCount_0f7a4 ∈ lw_tbl := List.mem_of_getElem? (i := 704) rfl
set_option maxRecDepth 20000 in
theorem wd_705 : Cond.code yJ6_bitCount_0f7a4 cJ6_bitCount_0f7a4 1 (some .int) ∈ lw_tbl := List.mem_of_getElem? (i := 705) rfl
set_option maxRecDepth 20000 in
theorem wd_706 : Cond.constant RJ6 265 (1431655765) ∈ lw_tbl := List.mem_of_getElem? (i := 706) rfl
set_option maxRecDepth 20000 in
theorem wd_707 : Cond.constant RJ6 266 (858993459) ∈ lw_tbl := List.mem_of_getElem? (i := 707) rfl
set_option maxRecDepth 20000 in
theorem wd_708 : Cond.constant RJ6 267 (252645135) ∈ lw_tbl := List.mem_of_getElem? (i := 708) rfl
set_option maxRecDepth 20000 in
theorem wd_709 : Cond.methodLink RX9 197 yX8_priceOf ∈ lw_tbl := List.mem_of_getElem? (i := 709) rfl
set_option maxRecDepth 20000 in
theorem wd_710 : Cond.methodLink RL 84 yX9_field ∈ lw_tbl := List.mem_of_getElem? (i := 710) rfl
set_option maxRecDepth 20000 in
theorem wd_711 : Cond.instanceMethod yX9_field ∈ lw_tbl := List.mem_of_getElem? (i := 711) rfl
set_option maxRecDepth 20000 in
theorem wd_712 : Cond.selects RX9 yX9_field yX9_field ∈ lw_tbl := List.mem_of_getElem? (i := 712) rfl
set_option maxRecDepth 20000 in
theorem wd_713 : Cond.code yX9_field cX9_field 3 (some .int) ∈ lw_tbl := List.mem_of_getElem? (i := 713) rfl
set_option maxRecDepth 20000 in
theorem wd_714 : Cond.methodLink RX9 200 yX0_mayBecome ∈ lw_tbl := List.mem_of_getElem? (i := 714) rfl
set_option maxRecDepth 20000 in
theorem wd_715 : Cond.instanceMethod yX0_mayBecome ∈ lw_tbl := List.mem_of_getElem? (i := 715) rfl
set_option maxRecDepth 20000 in
theorem wd_716 : Cond.selects RX0 yX0_mayBecome yX0_mayBecome ∈ lw_tbl := List.mem_of_getElem? (i := 716) rfl
set_option maxRecDepth 20000 in
theorem wd_717 : Cond.code yX0_mayBecome cX0_mayBecome 3 (some .boolean) ∈ lw_tbl := List.mem_of_getElem? (i := 717) rfl
set_option maxRecDepth 20000 in
theorem wd_719 : Cond.methodLink RX9 204 yX1_beginAnew ∈ lw_tbl := List.mem_of_getElem? (i := 719) rfl
set_option maxRecDepth 20000 in
theorem wd_720 : Cond.instanceMethod yX1_beginAnew ∈ lw_tbl := List.mem_of_getElem? (i := 720) rfl
set_option maxRecDepth 20000 in
theorem wd_721 : Cond.selects RX1 yX1_beginAnew yX1_beginAnew ∈ lw_tbl := List.mem_of_getElem? (i := 721) rfl
set_option maxRecDepth 20000 in
theorem wd_722 : Cond.code yX1_beginAnew cX1_beginAnew 1 none ∈ lw_tbl := List.mem_of_getElem? (i := 722) rfl
set_option maxRecDepth 20000 in
theorem wd_723 : Cond.methodLink RX9 207 yX0_become ∈ lw_tbl := List.mem_of_getElem? (i := 723) rfl
set_option maxRecDepth 20000 in
theorem wd_724 : Cond.instanceMethod yX0_become ∈ lw_tbl := List.mem_of_getElem? (i := 724) rfl
set_option maxRecDepth 20000 in
theorem wd_725 : Cond.selects RX0 yX0_become yX0_become ∈ lw_tbl := List.mem_of_getElem? (i := 725) rfl
set_option maxRecDepth 20000 in
theorem wd_726 : Cond.code yX0_become cX0_become 4 (some .int) ∈ lw_tbl := List.mem_of_getElem? (i := 726) rfl
set_option maxRecDepth 20000 in
theorem wd_727 : Cond.methodLink RX0 32 yX0_draw ∈ lw_tbl := List.mem_of_getElem? (i := 727) rfl
set_option maxRecDepth 20000 in
theorem wd_728 : Cond.instanceMethod yX0_draw ∈ lw_tbl := List.mem_of_getElem? (i := 728) rfl
set_option maxRecDepth 20000 in
theorem wd_729 : Cond.selects RX0 yX0_draw yX0_draw ∈ lw_tbl := List.mem_of_getElem? (i := 729) rfl
set_option maxRecDepth 20000 in
theorem wd_730 : Cond.code yX0_draw cX0_draw 4 none ∈ lw_tbl := List.mem_of_getElem? (i := 730) rfl
set_option maxRecDepth 20000 in
theorem wd_732 : Cond.methodLink RL 88 yX9_curve ∈ lw_tbl := List.mem_of_getElem? (i := 732) rfl
set_option maxRecDepth 20000 in
theorem wd_733 : Cond.instanceMethod yX9_curve ∈ lw_tbl := List.mem_of_getElem? (i := 733) rfl
set_option maxRecDepth 20000 in
theorem wd_734 : Cond.selects RX9 yX9_curve yX9_curve ∈ lw_tbl := List.mem_of_getElem? (i := 734) rfl
set_option maxRecDepth 20000 in
theorem wd_735 : Cond.code yX9_curve cX9_curve 4 (some .int) ∈ lw_tbl := List.mem_of_getElem? (i := 735) rfl
set_option maxRecDepth 20000 in
theorem wd_736 : Cond.methodLink RX9 210 yX0_isNumber ∈ lw_tbl := List.mem_of_getElem? (i := 736) rfl

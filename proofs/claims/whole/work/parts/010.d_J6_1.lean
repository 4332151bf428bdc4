theorem dJ6_bitCount_0f7a4_0 : decode cJ6_bitCount_0f7a4 0 = .ok (.iload_n 0, 1) := by decide +kernel
theorem dJ6_bitCount_0f7a4_1 : decode cJ6_bitCount_0f7a4 1 = .ok (.iload_n 0, 1) := by decide +kernel
theorem dJ6_bitCount_0f7a4_2 : decode cJ6_bitCount_0f7a4 2 = .ok (.iconst 1, 1) := by decide +kernel
theorem dJ6_bitCount_0f7a4_3 : decode cJ6_bitCount_0f7a4 3 = .ok (.iushr, 1) := by decide +kernel
theorem dJ6_bitCount_0f7a4_4 : decode cJ6_bitCount_0f7a4 4 = .ok (.ldc_w 265, 3) := by decide +kernel
theorem dJ6_bitCount_0f7a4_7 : decode cJ6_bitCount_0f7a4 7 = .ok (.iand, 1) := by decide +kernel
theorem dJ6_bitCount_0f7a4_8 : decode cJ6_bitCount_0f7a4 8 = .ok (.isub, 1) := by decide +kernel
theorem dJ6_bitCount_0f7a4_9 : decode cJ6_bitCount_0f7a4 9 = .ok (.istore_n 0, 1) := by decide +kernel
theorem dJ6_bitCount_0f7a4_10 : decode cJ6_bitCount_0f7a4 10 = .ok (.iload_n 0, 1) := by decide +kernel
theorem dJ6_bitCount_0f7a4_11 : decode cJ6_bitCount_0f7a4 11 = .ok (.ldc_w 266, 3) := by decide +kernel
theorem dJ6_bitCount_0f7a4_14 : decode cJ6_bitCount_0f7a4 14 = .ok (.iand, 1) := by decide +kernel
theorem dJ6_bitCount_0f7a4_15 : decode cJ6_bitCount_0f7a4 15 = .ok (.iload_n 0, 1) := by decide +kernel
theorem dJ6_bitCount_0f7a4_16 : decode cJ6_bitCount_0f7a4 16 = .ok (.iconst 2, 1) := by decide +kernel
theorem dJ6_bitCount_0f7a4_17 : decode cJ6_bitCount_0f7a4 17 = .ok (.iushr, 1) := by decide +kernel
theorem dJ6_bitCount_0f7a4_18 : decode cJ6_bitCount_0f7a4 18 = .ok (.ldc_w 266, 3) := by decide +kernel
theorem dJ6_bitCount_0f7a4_21 : decode cJ6_bitCount_0f7a4 21 = .ok (.iand, 1) := by decide +kernel
theorem dJ6_bitCount_0f7a4_22 : decode cJ6_bitCount_0f7a4 22 = .ok (.iadd, 1) := by decide +kernel
theorem dJ6_bitCount_0f7a4_23 : decode cJ6_bitCount_0f7a4 23 = .ok (.istore_n 0, 1) := by decide +kernel
theorem dJ6_bitCount_0f7a4_24 : decode cJ6_bitCount_0f7a4 24 = .ok (.iload_n 0, 1) := by decide +kernel
theorem dJ6_bitCount_0f7a4_25 : decode cJ6_bitCount_0f7a4 25 = .ok (.iload_n 0, 1) := by decide +kernel
theorem dJ6_bitCount_0f7a4_26 : decode cJ6_bitCount_0f7a4 26 = .ok (.iconst 4, 1) := by decide +kernel
theorem dJ6_bitCount_0f7a4_27 : decode cJ6_bitCount_0f7a4 27 = .ok (.iushr, 1) := by decide +kernel
theorem dJ6_bitCount_0f7a4_28 : decode cJ6_bitCount_0f7a4 28 = .ok (.iadd, 1) := by decide +kernel
theorem dJ6_bitCount_0f7a4_29 : decode cJ6_bitCount_0f7a4 29 = .ok (.ldc_w 267, 3) := by decide +kernel
theorem dJ6_bitCount_0f7a4_32 : decode cJ6_bitCount_0f7a4 32 = .ok (.iand, 1) := by decide +kernel
theorem dJ6_bitCount_0f7a4_33 : decode cJ6_bitCount_0f7a4 33 = .ok (.istore_n 0, 1) := by decide +kernel
theorem dJ6_bitCount_0f7a4_34 : decode cJ6_bitCount_0f7a4 34 = .ok (.iload_n 0, 1) := by decide +kernel
theorem dJ6_bitCount_0f7a4_35 : decode cJ6_bitCount_0f7a4 35 = .ok (.iload_n 0, 1) := by decide +kernel
theorem dJ6_bitCount_0f7a4_36 : decode cJ6_bitCount_0f7a4 36 = .ok (.bipush 8, 2) := by decide +kernel
theorem dJ6_bitCount_0f7a4_38 : decode cJ6_bitCount_0f7a4 38 = .ok (.iushr, 1) := by decide +kernel
theorem dJ6_bitCount_0f7a4_39 : decode cJ6_bitCount_0f7a4 39 = .ok (.iadd, 1) := by decide +kernel
theorem dJ6_bitCount_0f7a4_40 : decode cJ6_bitCount_0f7a4 40 = .ok (.istore_n 0, 1) := by decide +kernel
theorem dJ6_bitCount_0f7a4_41 : decode cJ6_bitCount_0f7a4 41 = .ok (.iload_n 0, 1) := by decide +kernel
theorem dJ6_bitCount_0f7a4_42 : decode cJ6_bitCount_0f7a4 42 = .ok (.iload_n 0, 1) := by decide +kernel
theorem dJ6_bitCount_0f7a4_43 : decode cJ6_bitCount_0f7a4 43 = .ok (.bipush 16, 2) := by decide +kernel
theorem dJ6_bitCount_0f7a4_45 : decode cJ6_bitCount_0f7a4 45 = .ok (.iushr, 1) := by decide +kernel
theorem dJ6_bitCount_0f7a4_46 : decode cJ6_bitCount_0f7a4 46 = .ok (.iadd, 1) := by decide +kernel
theorem dJ6_bitCount_0f7a4_47 : decode cJ6_bitCount_0f7a4 47 = .ok (.istore_n 0, 1) := by decide +kernel
theorem dJ6_bitCount_0f7a4_48 : decode cJ6_bitCount_0f7a4 48 = .ok (.iload_n 0, 1) := by decide +kernel
theorem dJ6_bitCount_0f7a4_49 : decode cJ6_bitCount_0f7a4 49 = .ok (.bipush 63, 2) := by decide +kernel
theorem dJ6_bitCount_0f7a4_51 : decode cJ6_bitCount_0f7a4 51 = .ok (.iand, 1) := by decide +kernel
theorem dJ6_bitCount_0f7a4_52 : decode cJ6_bitCount_0f7a4 52 = .ok (.ireturn, 1) := by decide +kernel
theorem dJ9_max_7cf53_0 : decode cJ9_max_7cf53 0 = .ok (.iload_n 0, 1) := by decide +kernel
theorem dJ9_max_7cf53_1 : decode cJ9_max_7cf53 1 = .ok (.iload_n 1, 1) := by decide +kernel
theorem dJ9_max_7cf53_2 : decode cJ9_max_7cf53 2 = .ok (.if_icmp .lt 7, 3) := by decide +kernel
theorem dJ9_max_7cf53_5 : decode cJ9_max_7cf53 5 = .ok (.iload_n 0, 1) := by decide +kernel
theorem dJ9_max_7cf53_6 : decode cJ9_max_7cf53 6 = .ok (.goto 4, 3) := by decide +kernel
theorem dJ9_max_7cf53_9 : decode cJ9_max_7cf53 9 = .ok (.iload_n 1, 1) := by decide +kernel
theorem dJ9_max_7cf53_10 : decode cJ9_max_7cf53 10 = .ok (.ireturn, 1) := by decide +kernel
theorem dJ9_min_7cf53_0 : decode cJ9_min_7cf53 0 = .ok (.iload_n 0, 1) := by decide +kernel
theorem dJ9_min_7cf53_1 : decode cJ9_min_7cf53 1 = .ok (.iload_n 1, 1) := by decide +kernel
theorem dJ9_min_7cf53_2 : decode cJ9_min_7cf53 2 = .ok (.if_icmp .gt 7, 3) := by decide +kernel
theorem dJ9_min_7cf53_5 : decode cJ9_min_7cf53 5 = .ok (.iload_n 0, 1) := by decide +kernel
theorem dJ9_min_7cf53_6 : decode cJ9_min_7cf53 6 = .ok (.goto 4, 3) := by decide +kernel
theorem dJ9_min_7cf53_9 : decode cJ9_min_7cf53 9 = .ok (.iload_n 1, 1) := by decide +kernel
theorem dJ9_min_7cf53_10 : decode cJ9_min_7cf53 10 = .ok (.ireturn, 1) := by decide +kernel
theorem dJ7_fill_d0a16_0 : decode cJ7_fill_d0a16 0 = .ok (.iconst 0, 1) := by decide +kernel
theorem dJ7_fill_d0a16_1 : decode cJ7_fill_d0a16 1 = .ok (.istore_n 3, 1) := by decide +kernel
theorem dJ7_fill_d0a16_2 : decode cJ7_fill_d0a16 2 = .ok (.aload_n 0, 1) := by decide +kernel
theorem dJ7_fill_d0a16_3 : decode cJ7_fill_d0a16 3 = .ok (.arraylength, 1) := by decide +kernel
theorem dJ7_fill_d0a16_4 : decode cJ7_fill_d0a16 4 = .ok (.istore 4, 2) := by decide +kernel
theorem dJ7_fill_d0a16_6 : decode cJ7_fill_d0a16 6 = .ok (.iload_n 3, 1) := by decide +kernel
theorem dJ7_fill_d0a16_7 : decode cJ7_fill_d0a16 7 = .ok (.iload 4, 2) := by decide +kernel
theorem dJ7_fill_d0a16_9 : decode cJ7_fill_d0a16 9 = .ok (.if_icmp .ge 13, 3) := by decide +kernel
theorem dJ7_fill_d0a16_12 : decode cJ7_fill_d0a16 12 = .ok (.aload_n 0, 1) := by decide +kernel
theorem dJ7_fill_d0a16_13 : decode cJ7_fill_d0a16 13 = .ok (.iload_n 3, 1) := by decide +kernel
theorem dJ7_fill_d0a16_14 : decode cJ7_fill_d0a16 14 = .ok (.lload_n 1, 1) := by decide +kernel
theorem dJ7_fill_d0a16_15 : decode cJ7_fill_d0a16 15 = .ok (.lastore, 1) := by decide +kernel
theorem dJ7_fill_d0a16_16 : decode cJ7_fill_d0a16 16 = .ok (.iinc 3 1, 3) := by decide +kernel
theorem dJ7_fill_d0a16_19 : decode cJ7_fill_d0a16 19 = .ok (.goto (-13), 3) := by decide +kernel
theorem dJ7_fill_d0a16_22 : decode cJ7_fill_d0a16 22 = .ok (.return_, 1) := by decide +kernel
theorem dJ7_fill_53178_0 : decode cJ7_fill_53178 0 = .ok (.iconst 0, 1) := by decide +kernel
theorem dJ7_fill_53178_1 : decode cJ7_fill_53178 1 = .ok (.istore_n 2, 1) := by decide +kernel
theorem dJ7_fill_53178_2 : decode cJ7_fill_53178 2 = .ok (.aload_n 0, 1) := by decide +kernel
theorem dJ7_fill_53178_3 : decode cJ7_fill_53178 3 = .ok (.arraylength, 1) := by decide +kernel
theorem dJ7_fill_53178_4 : decode cJ7_fill_53178 4 = .ok (.istore_n 3, 1) := by decide +kernel
theorem dJ7_fill_53178_5 : decode cJ7_fill_53178 5 = .ok (.iload_n 2, 1) := by decide +kernel
theorem dJ7_fill_53178_6 : decode cJ7_fill_53178 6 = .ok (.iload_n 3, 1) := by decide +kernel
theorem dJ7_fill_53178_7 : decode cJ7_fill_53178 7 = .ok (.if_icmp .ge 13, 3) := by decide +kernel
theorem dJ7_fill_53178_10 : decode cJ7_fill_53178 10 = .ok (.aload_n 0, 1) := by decide +kernel
theorem dJ7_fill_53178_11 : decode cJ7_fill_53178 11 = .ok (.iload_n 2, 1) := by decide +kernel
theorem dJ7_fill_53178_12 : decode cJ7_fill_53178 12 = .ok (.iload_n 1, 1) := by decide +kernel
theorem dJ7_fill_53178_13 : decode cJ7_fill_53178 13 = .ok (.iastore, 1) := by decide +kernel
theorem dJ7_fill_53178_14 : decode cJ7_fill_53178 14 = .ok (.iinc 2 1, 3) := by decide +kernel
theorem dJ7_fill_53178_17 : decode cJ7_fill_53178 17 = .ok (.goto (-12), 3) := by decide +kernel
theorem dJ7_fill_53178_20 : decode cJ7_fill_53178 20 = .ok (.return_, 1) := by decide +kernel
theorem dX1_init_0 : decode cX1_init 0 = .ok (.aload_n 0, 1) := by decide +kernel
theorem dX1_init_1 : decode cX1_init 1 = .ok (.invokespecial 1, 3) := by decide +kernel
theorem dX1_init_4 : decode cX1_init 4 = .ok (.return_, 1) := by decide +kernel
theorem dX1_beginAnew_0 : decode cX1_beginAnew 0 = .ok (.aload_n 0, 1) := by decide +kernel
theorem dX1_beginAnew_1 : decode cX1_beginAnew 1 = .ok (.iconst 0, 1) := by decide +kernel
theorem dX1_beginAnew_2 : decode cX1_beginAnew 2 = .ok (.putfield 7, 3) := by decide +kernel
theorem dX1_beginAnew_5 : decode cX1_beginAnew 5 = .ok (.aload_n 0, 1) := by decide +kernel
theorem dX1_beginAnew_6 : decode cX1_beginAnew 6 = .ok (.iconst 0, 1) := by decide +kernel
theorem dX1_beginAnew_7 : decode cX1_beginAnew 7 = .ok (.putfield 13, 3) := by decide +kernel
theorem dX1_beginAnew_10 : decode cX1_beginAnew 10 = .ok (.aload_n 0, 1) := by decide +kernel
theorem dX1_beginAnew_11 : decode cX1_beginAnew 11 = .ok (.iconst 0, 1) := by decide +kernel
theorem dX1_beginAnew_12 : decode cX1_beginAnew 12 = .ok (.putfield 16, 3) := by decide +kernel
theorem dX1_beginAnew_15 : decode cX1_beginAnew 15 = .ok (.aload_n 0, 1) := by decide +kernel
theorem dX1_beginAnew_16 : decode cX1_beginAnew 16 = .ok (.iconst 0, 1) := by decide +kernel
theorem dX1_beginAnew_17 : decode cX1_beginAnew 17 = .ok (.putfield 19, 3) := by decide +kernel
theorem dX1_beginAnew_20 : decode cX1_beginAnew 20 = .ok (.return_, 1) := by decide +kernel
theorem dX1_goOn_0 : decode cX1_goOn 0 = .ok (.aload_n 0, 1) := by decide +kernel
theorem dX1_goOn_1 : decode cX1_goOn 1 = .ok (.dup, 1) := by decide +kernel
theorem dX1_goOn_2 : decode cX1_goOn 2 = .ok (.getfield 7, 3) := by decide +kernel
theorem dX1_goOn_5 : decode cX1_goOn 5 = .ok (.iconst 1, 1) := by decide +kernel
theorem dX1_goOn_6 : decode cX1_goOn 6 = .ok (.iadd, 1) := by decide +kernel
theorem dX1_goOn_7 : decode cX1_goOn 7 = .ok (.putfield 7, 3) := by decide +kernel
theorem dX1_goOn_10 : decode cX1_goOn 10 = .ok (.iload_n 1, 1) := by decide +kernel
theorem dX1_goOn_11 : decode cX1_goOn 11 = .ok (.ifCond .eq 8, 3) := by decide +kernel
theorem dX1_goOn_14 : decode cX1_goOn 14 = .ok (.aload_n 0, 1) := by decide +kernel
theorem dX1_goOn_15 : decode cX1_goOn 15 = .ok (.iconst 0, 1) := by decide +kernel
theorem dX1_goOn_16 : decode cX1_goOn 16 = .ok (.putfield 16, 3) := by decide +kernel
theorem dX1_goOn_19 : decode cX1_goOn 19 = .ok (.return_, 1) := by decide +kernel
set_option maxRecDepth 20000 in
theorem ggX1_losePoint_J6_bitCount_0f7a4 : GoodIn wsX1_losePoint wsJ6_bitCount_0f7a4 := goodIn_r _ [7, 8, 9, 10] rfl (by decide +kernel)
set_option maxRecDepth 20000 in
theorem gX1_losePoint_J6_bitCount_0f7a4 : GoodIn wsX1_losePoint (va_wsS RX1 23 yJ6_bitCount_0f7a4 wsJ6_bitCount_0f7a4) := goodIn_app (goodIn_of _ (by decide +kernel)) ggX1_losePoint_J6_bitCount_0f7a4
theorem dX1_losePoint_0 : decode cX1_losePoint 0 = .ok (.aload_n 0, 1) := by decide +kernel
theorem dX1_losePoint_1 : decode cX1_losePoint 1 = .ok (.dup, 1) := by decide +kernel
theorem dX1_losePoint_2 : decode cX1_losePoint 2 = .ok (.getfield 13, 3) := by decide +kernel
theorem dX1_losePoint_5 : decode cX1_losePoint 5 = .ok (.iconst 1, 1) := by decide +kernel
theorem dX1_losePoint_6 : decode cX1_losePoint 6 = .ok (.iadd, 1) := by decide +kernel
theorem dX1_losePoint_7 : decode cX1_losePoint 7 = .ok (.putfield 13, 3) := by decide +kernel
theorem dX1_losePoint_10 : decode cX1_losePoint 10 = .ok (.aload_n 0, 1) := by decide +kernel
theorem dX1_losePoint_11 : decode cX1_losePoint 11 = .ok (.dup, 1) := by decide +kernel
theorem dX1_losePoint_12 : decode cX1_losePoint 12 = .ok (.getfield 16, 3) := by decide +kernel
theorem dX1_losePoint_15 : decode cX1_losePoint 15 = .ok (.iconst 1, 1) := by decide +kernel
theorem dX1_losePoint_16 : decode cX1_losePoint 16 = .ok (.iload_n 1, 1) := by decide +kernel
theorem dX1_losePoint_17 : decode cX1_losePoint 17 = .ok (.ishl, 1) := by decide +kernel
theorem dX1_losePoint_18 : decode cX1_losePoint 18 = .ok (.ior, 1) := by decide +kernel
theorem dX1_losePoint_19 : decode cX1_losePoint 19 = .ok (.putfield 16, 3) := by decide +kernel
theorem dX1_losePoint_22 : decode cX1_losePoint 22 = .ok (.aload_n 0, 1) := by decide +kernel
theorem dX1_losePoint_23 : decode cX1_losePoint 23 = .ok (.getfield 16, 3) := by decide +kernel
theorem dX1_losePoint_26 : decode cX1_losePoint 26 = .ok (.invokestatic 23, 3) := by decide +kernel
theorem dX1_losePoint_29 : decode cX1_losePoint 29 = .ok (.iload_n 2, 1) := by decide +kernel
theorem dX1_losePoint_30 : decode cX1_losePoint 30 = .ok (.if_icmp .le 8, 3) := by decide +kernel
theorem dX1_losePoint_33 : decode cX1_losePoint 33 = .ok (.aload_n 0, 1) := by decide +kernel
theorem dX1_losePoint_34 : decode cX1_losePoint 34 = .ok (.iconst 1, 1) := by decide +kernel
theorem dX1_losePoint_35 : decode cX1_losePoint 35 = .ok (.putfield 19, 3) := by decide +kernel
theorem dX1_losePoint_38 : decode cX1_losePoint 38 = .ok (.return_, 1) := by decide +kernel
set_option maxRecDepth 20000 in
theorem ggX1_safeHands_J6_bitCount_0f7a4 : GoodIn wsX1_safeHands wsJ6_bitCount_0f7a4 := goodIn_r _ [6, 7, 8, 9] rfl (by decide +kernel)
set_option maxRecDepth 20000 in
theorem gX1_safeHands_J6_bitCount_0f7a4 : GoodIn wsX1_safeHands (va_wsS RX1 23 yJ6_bitCount_0f7a4 wsJ6_bitCount_0f7a4) := goodIn_app (goodIn_of _ (by decide +kernel)) ggX1_safeHands_J6_bitCount_0f7a4
theorem dX1_safeHands_0 : decode cX1_safeHands 0 = .ok (.aload_n 0, 1) := by decide +kernel
theorem dX1_safeHands_1 : decode cX1_safeHands 1 = .ok (.getfield 19, 3) := by decide +kernel
theorem dX1_safeHands_4 : decode cX1_safeHands 4 = .ok (.ifCond .eq 7, 3) := by decide +kernel
theorem dX1_safeHands_7 : decode cX1_safeHands 7 = .ok (.iconst 0, 1) := by decide +kernel
theorem dX1_safeHands_8 : decode cX1_safeHands 8 = .ok (.goto 12, 3) := by decide +kernel
theorem dX1_safeHands_11 : decode cX1_safeHands 11 = .ok (.iload_n 1, 1) := by decide +kernel
theorem dX1_safeHands_12 : decode cX1_safeHands 12 = .ok (.aload_n 0, 1) := by decide +kernel
theorem dX1_safeHands_13 : decode cX1_safeHands 13 = .ok (.getfield 16, 3) := by decide +kernel
theorem dX1_safeHands_16 : decode cX1_safeHands 16 = .ok (.invokestatic 23, 3) := by decide +kernel
theorem dX1_safeHands_19 : decode cX1_safeHands 19 = .ok (.isub, 1) := by decide +kernel
theorem dX1_safeHands_20 : decode cX1_safeHands 20 = .ok (.ireturn, 1) := by decide +kernel
theorem dX7_init_0 : decode cX7_init 0 = .ok (.aload_n 0, 1) := by decide +kernel
theorem dX7_init_1 : decode cX7_init 1 = .ok (.invokespecial 3, 3) := by decide +kernel
theorem dX7_init_4 : decode cX7_init 4 = .ok (.aload_n 0, 1) := by decide +kernel
theorem dX7_init_5 : decode cX7_init 5 = .ok (.sipush 300, 3) := by decide +kernel
theorem dX7_init_8 : decode cX7_init 8 = .ok (.newarray .byte, 2) := by decide +kernel
theorem dX7_init_10 : decode cX7_init 10 = .ok (.putfield 9, 3) := by decide +kernel
theorem dX7_init_13 : decode cX7_init 13 = .ok (.return_, 1) := by decide +kernel
theorem dX7_take_0 : decode cX7_take 0 = .ok (.aload_n 0, 1) := by decide +kernel
theorem dX7_take_1 : decode cX7_take 1 = .ok (.getfield 15, 3) := by decide +kernel
theorem dX7_take_4 : decode cX7_take 4 = .ok (.ifCond .lt 15, 3) := by decide +kernel
theorem dX7_take_7 : decode cX7_take 7 = .ok (.aload_n 0, 1) := by decide +kernel
theorem dX7_take_8 : decode cX7_take 8 = .ok (.getfield 15, 3) := by decide +kernel
theorem dX7_take_11 : decode cX7_take 11 = .ok (.aload_n 0, 1) := by decide +kernel
theorem dX7_take_12 : decode cX7_take 12 = .ok (.getfield 9, 3) := by decide +kernel
theorem dX7_take_15 : decode cX7_take 15 = .ok (.arraylength, 1) := by decide +kernel
theorem dX7_take_16 : decode cX7_take 16 = .ok (.if_icmp .lt 4, 3) := by decide +kernel
theorem dX7_take_19 : decode cX7_take 19 = .ok (.return_, 1) := by decide +kernel
theorem dX7_take_20 : decode cX7_take 20 = .ok (.aload_n 0, 1) := by decide +kernel
theorem dX7_take_21 : decode cX7_take 21 = .ok (.getfield 9, 3) := by decide +kernel
theorem dX7_take_24 : decode cX7_take 24 = .ok (.aload_n 0, 1) := by decide +kernel
theorem dX7_take_25 : decode cX7_take 25 = .ok (.getfield 15, 3) := by decide +kernel
theorem dX7_take_28 : decode cX7_take 28 = .ok (.iload_n 1, 1) := by decide +kernel
theorem dX7_take_29 : decode cX7_take 29 = .ok (.i2b, 1) := by decide +kernel
theorem dX7_take_30 : decode cX7_take 30 = .ok (.bastore, 1) := by decide +kernel
theorem dX7_take_31 : decode cX7_take 31 = .ok (.aload_n 0, 1) := by decide +kernel
theorem dX7_take_32 : decode cX7_take 32 = .ok (.dup, 1) := by decide +kernel
theorem dX7_take_33 : decode cX7_take 33 = .ok (.getfield 15, 3) := by decide +kernel
theorem dX7_take_36 : decode cX7_take 36 = .ok (.iconst 1, 1) := by decide +kernel
theorem dX7_take_37 : decode cX7_take 37 = .ok (.iadd, 1) := by decide +kernel
theorem dX7_take_38 : decode cX7_take 38 = .ok (.putfield 15, 3) := by decide +kernel
theorem dX7_take_41 : decode cX7_take 41 = .ok (.return_, 1) := by decide +kernel
theorem dX7_byteAt_0 : decode cX7_byteAt 0 = .ok (.iload_n 1, 1) := by decide +kernel
theorem dX7_byteAt_1 : decode cX7_byteAt 1 = .ok (.ifCond .lt 20, 3) := by decide +kernel
theorem dX7_byteAt_4 : decode cX7_byteAt 4 = .ok (.iload_n 1, 1) := by decide +kernel
theorem dX7_byteAt_5 : decode cX7_byteAt 5 = .ok (.aload_n 0, 1) := by decide +kernel
theorem dX7_byteAt_6 : decode cX7_byteAt 6 = .ok (.getfield 15, 3) := by decide +kernel
theorem dX7_byteAt_9 : decode cX7_byteAt 9 = .ok (.if_icmp .ge 12, 3) := by decide +kernel
theorem dX7_byteAt_12 : decode cX7_byteAt 12 = .ok (.iload_n 1, 1) := by decide +kernel
theorem dX7_byteAt_13 : decode cX7_byteAt 13 = .ok (.aload_n 0, 1) := by decide +kernel
theorem dX7_byteAt_14 : decode cX7_byteAt 14 = .ok (.getfield 9, 3) := by decide +kernel
theorem dX7_byteAt_17 : decode cX7_byteAt 17 = .ok (.arraylength, 1) := by decide +kernel
theorem dX7_byteAt_18 : decode cX7_byteAt 18 = .ok (.if_icmp .lt 5, 3) := by decide +kernel
theorem dX7_byteAt_21 : decode cX7_byteAt 21 = .ok (.iconst (-1), 1) := by decide +kernel
theorem dX7_byteAt_22 : decode cX7_byteAt 22 = .ok (.ireturn, 1) := by decide +kernel
theorem dX7_byteAt_23 : decode cX7_byteAt 23 = .ok (.aload_n 0, 1) := by decide +kernel
theorem dX7_byteAt_24 : decode cX7_byteAt 24 = .ok (.getfield 9, 3) := by decide +kernel
theorem dX7_byteAt_27 : decode cX7_byteAt 27 = .ok (.iload_n 1, 1) := by decide +kernel
theorem dX7_byteAt_28 : decode cX7_byteAt 28 = .ok (.baload, 1) := by decide +kernel
theorem dX7_byteAt_29 : decode cX7_byteAt 29 = .ok (.sipush 255, 3) := by decide +kernel
theorem dX7_byteAt_32 : decode cX7_byteAt 32 = .ok (.iand, 1) := by decide +kernel
theorem dX7_byteAt_33 : decode cX7_byteAt 33 = .ok (.ireturn, 1) := by decide +kernel
theorem dX8_init_0 : decode cX8_init 0 = .ok (.aload_n 0, 1) := by decide +kernel
theorem dX8_init_1 : decode cX8_init 1 = .ok (.invokespecial 3, 3) := by decide +kernel
theorem dX8_init_4 : decode cX8_init 4 = .ok (.aload_n 0, 1) := by decide +kernel
theorem dX8_init_5 : decode cX8_init 5 = .ok (.iconst 3, 1) := by decide +kernel
theorem dX8_init_6 : decode cX8_init 6 = .ok (.newarray .int, 2) := by decide +kernel
theorem dX8_init_8 : decode cX8_init 8 = .ok (.dup, 1) := by decide +kernel
theorem dX8_init_9 : decode cX8_init 9 = .ok (.iconst 0, 1) := by decide +kernel
theorem dX8_init_10 : decode cX8_init 10 = .ok (.bipush 10, 2) := by decide +kernel
theorem dX8_init_12 : decode cX8_init 12 = .ok (.iastore, 1) := by decide +kernel
theorem dX8_init_13 : decode cX8_init 13 = .ok (.dup, 1) := by decide +kernel
theorem dX8_init_14 : decode cX8_init 14 = .ok (.iconst 1, 1) := by decide +kernel
theorem dX8_init_15 : decode cX8_init 15 = .ok (.iconst 4, 1) := by decide +kernel
theorem dX8_init_16 : decode cX8_init 16 = .ok (.iastore, 1) := by decide +kernel
theorem dX8_init_17 : decode cX8_init 17 = .ok (.dup, 1) := by decide +kernel
theorem dX8_init_18 : decode cX8_init 18 = .ok (.iconst 2, 1) := by decide +kernel
theorem dX8_init_19 : decode cX8_init 19 = .ok (.bipush 20, 2) := by decide +kernel
theorem dX8_init_21 : decode cX8_init 21 = .ok (.iastore, 1) := by decide +kernel
theorem dX8_init_22 : decode cX8_init 22 = .ok (.putfield 9, 3) := by decide +kernel
theorem dX8_init_25 : decode cX8_init 25 = .ok (.aload_n 0, 1) := by decide +kernel
theorem dX8_init_26 : decode cX8_init 26 = .ok (.bipush 16, 2) := by decide +kernel
theorem dX8_init_28 : decode cX8_init 28 = .ok (.newarray .int, 2) := by decide +kernel
theorem dX8_init_30 : decode cX8_init 30 = .ok (.putfield 15, 3) := by decide +kernel
theorem dX8_init_33 : decode cX8_init 33 = .ok (.return_, 1) := by decide +kernel
set_option maxRecDepth 20000 in
theorem ggX8_priceOf_J6_bitCount_0f7a4 : GoodIn wsX8_priceOf wsJ6_bitCount_0f7a4 := goodIn_r _ [5, 6, 7, 8] rfl (by decide +kernel)
set_option maxRecDepth 20000 in
theorem gX8_priceOf_J6_bitCount_0f7a4 : GoodIn wsX8_priceOf (va_wsS RX8 18 yJ6_bitCount_0f7a4 wsJ6_bitCount_0f7a4) := goodIn_app (goodIn_of _ (by decide +kernel)) ggX8_priceOf_J6_bitCount_0f7a4
set_option maxRecDepth 20000 in
theorem ggX8_priceOf_X9_at : GoodIn wsX8_priceOf wsX9_at := goodIn_r _ [11] rfl (by decide +kernel)
set_option maxRecDepth 20000 in
theorem gX8_priceOf_X9_at_n24 : GoodIn wsX8_priceOf (wsX9_at) := ggX8_priceOf_X9_at
theorem dX8_priceOf_0 : decode cX8_priceOf 0 = .ok (.iload_n 2, 1) := by decide +kernel
theorem dX8_priceOf_1 : decode cX8_priceOf 1 = .ok (.invokestatic 18, 3) := by decide +kernel
theorem dX8_priceOf_4 : decode cX8_priceOf 4 = .ok (.istore_n 3, 1) := by decide +kernel
theorem dX8_priceOf_5 : decode cX8_priceOf 5 = .ok (.iload_n 1, 1) := by decide +kernel
theorem dX8_priceOf_6 : decode cX8_priceOf 6 = .ok (.iload_n 3, 1) := by decide +kernel
theorem dX8_priceOf_7 : decode cX8_priceOf 7 = .ok (.isub, 1) := by decide +kernel
theorem dX8_priceOf_8 : decode cX8_priceOf 8 = .ok (.aload_n 0, 1) := by decide +kernel
theorem dX8_priceOf_9 : decode cX8_priceOf 9 = .ok (.getfield 9, 3) := by decide +kernel
theorem dX8_priceOf_12 : decode cX8_priceOf 12 = .ok (.iconst 0, 1) := by decide +kernel
theorem dX8_priceOf_13 : decode cX8_priceOf 13 = .ok (.invokestatic 24, 3) := by decide +kernel
theorem dX8_priceOf_16 : decode cX8_priceOf 16 = .ok (.aload_n 0, 1) := by decide +kernel
theorem dX8_priceOf_17 : decode cX8_priceOf 17 = .ok (.getfield 9, 3) := by decide +kernel
theorem dX8_priceOf_20 : decode cX8_priceOf 20 = .ok (.iconst 1, 1) := by decide +kernel
theorem dX8_priceOf_21 : decode cX8_priceOf 21 = .ok (.invokestatic 24, 3) := by decide +kernel
theorem dX8_priceOf_24 : decode cX8_priceOf 24 = .ok (.iadd, 1) := by decide +kernel
theorem dX8_priceOf_25 : decode cX8_priceOf 25 = .ok (.imul, 1) := by decide +kernel
theorem dX8_priceOf_26 : decode cX8_priceOf 26 = .ok (.iload_n 3, 1) := by decide +kernel
theorem dX8_priceOf_27 : decode cX8_priceOf 27 = .ok (.aload_n 0, 1) := by decide +kernel
theorem dX8_priceOf_28 : decode cX8_priceOf 28 = .ok (.getfield 9, 3) := by decide +kernel
theorem dX8_priceOf_31 : decode cX8_priceOf 31 = .ok (.iconst 2, 1) := by decide +kernel
theorem dX8_priceOf_32 : decode cX8_priceOf 32 = .ok (.invokestatic 24, 3) := by decide +kernel
theorem dX8_priceOf_35 : decode cX8_priceOf 35 = .ok (.imul, 1) := by decide +kernel
theorem dX8_priceOf_36 : decode cX8_priceOf 36 = .ok (.iadd, 1) := by decide +kernel
theorem dX8_priceOf_37 : decode cX8_priceOf 37 = .ok (.ireturn, 1) := by decide +kernel
set_option maxRecDepth 20000 in
theorem ggX8_cheapestSet_X8_roundsWith : GoodIn wsX8_cheapestSet wsX8_roundsWith := goodIn_r _ [5, 6, 7, 8, 9, 10, 11, 12, 13, 14, 15, 16, 17, 18, 19, 20, 21, 34, 35, 36, 37, 38, 39, 40, 41] rfl (by decide +kernel)
set_option maxRecDepth 20000 in
theorem gX8_cheapestSet_X8_roundsWith : GoodIn wsX8_cheapestSet (wsV RX8 34 RX8 yX8_roundsWith wsX8_roundsWith) := goodIn_app (goodIn_of _ (by decide +kernel)) ggX8_cheapestSet_X8_roundsWith
set_option maxRecDepth 20000 in
theorem ggX8_cheapestSet_X8_priceOf : GoodIn wsX8_cheapestSet wsX8_priceOf := goodIn_r _ [25, 26, 27, 28, 29, 30, 31, 32, 33, 17, 18, 19, 40, 41] rfl (by decide +kernel)
set_option maxRecDepth 20000 in
theorem gX8_cheapestSet_X8_priceOf : GoodIn wsX8_cheapestSet (wsV RX8 38 RX8 yX8_priceOf wsX8_priceOf) := goodIn_app (goodIn_of _ (by decide +kernel)) ggX8_cheapestSet_X8_priceOf
theorem dX8_cheapestSet_0 : decode cX8_cheapestSet 0 = .ok (.bipush (-9), 2) := by decide +kernel
theorem dX8_cheapestSet_2 : decode cX8_cheapestSet 2 = .ok (.istore_n 3, 1) := by decide +kernel
theorem dX8_cheapestSet_3 : decode cX8_cheapestSet 3 = .ok (.iconst 0, 1) := by decide +kernel
theorem dX8_cheapestSet_4 : decode cX8_cheapestSet 4 = .ok (.istore 4, 2) := by decide +kernel
theorem dX8_cheapestSet_6 : decode cX8_cheapestSet 6 = .ok (.iconst 0, 1) := by decide +kernel
theorem dX8_cheapestSet_7 : decode cX8_cheapestSet 7 = .ok (.istore 5, 2) := by decide +kernel
theorem dX8_cheapestSet_9 : decode cX8_cheapestSet 9 = .ok (.iload 5, 2) := by decide +kernel
theorem dX8_cheapestSet_11 : decode cX8_cheapestSet 11 = .ok (.iconst 1, 1) := by decide +kernel
theorem dX8_cheapestSet_12 : decode cX8_cheapestSet 12 = .ok (.aload_n 1, 1) := by decide +kernel
theorem dX8_cheapestSet_13 : decode cX8_cheapestSet 13 = .ok (.getfield 28, 3) := by decide +kernel
theorem dX8_cheapestSet_16 : decode cX8_cheapestSet 16 = .ok (.ishl, 1) := by decide +kernel
theorem dX8_cheapestSet_17 : decode cX8_cheapestSet 17 = .ok (.if_icmp .ge 55, 3) := by decide +kernel
theorem dX8_cheapestSet_20 : decode cX8_cheapestSet 20 = .ok (.aload_n 0, 1) := by decide +kernel
theorem dX8_cheapestSet_21 : decode cX8_cheapestSet 21 = .ok (.aload_n 1, 1) := by decide +kernel
theorem dX8_cheapestSet_22 : decode cX8_cheapestSet 22 = .ok (.iload 5, 2) := by decide +kernel
theorem dX8_cheapestSet_24 : decode cX8_cheapestSet 24 = .ok (.invokevirtual 34, 3) := by decide +kernel
theorem dX8_cheapestSet_27 : decode cX8_cheapestSet 27 = .ok (.iload_n 2, 1) := by decide +kernel
theorem dX8_cheapestSet_28 : decode cX8_cheapestSet 28 = .ok (.if_icmp .le 6, 3) := by decide +kernel
theorem dX8_cheapestSet_31 : decode cX8_cheapestSet 31 = .ok (.goto 35, 3) := by decide +kernel
theorem dX8_cheapestSet_34 : decode cX8_cheapestSet 34 = .ok (.aload_n 0, 1) := by decide +kernel
theorem dX8_cheapestSet_35 : decode cX8_cheapestSet 35 = .ok (.aload_n 1, 1) := by decide +kernel
theorem dX8_cheapestSet_36 : decode cX8_cheapestSet 36 = .ok (.getfield 28, 3) := by decide +kernel
theorem dX8_cheapestSet_39 : decode cX8_cheapestSet 39 = .ok (.iload 5, 2) := by decide +kernel
theorem dX8_cheapestSet_41 : decode cX8_cheapestSet 41 = .ok (.invokevirtual 38, 3) := by decide +kernel
theorem dX8_cheapestSet_44 : decode cX8_cheapestSet 44 = .ok (.istore 6, 2) := by decide +kernel
theorem dX8_cheapestSet_46 : decode cX8_cheapestSet 46 = .ok (.iload_n 3, 1) := by decide +kernel
theorem dX8_cheapestSet_47 : decode cX8_cheapestSet 47 = .ok (.bipush (-9), 2) := by decide +kernel
theorem dX8_cheapestSet_49 : decode cX8_cheapestSet 49 = .ok (.if_icmp .eq 10, 3) := by decide +kernel
theorem dX8_cheapestSet_52 : decode cX8_cheapestSet 52 = .ok (.iload 6, 2) := by decide +kernel
theorem dX8_cheapestSet_54 : decode cX8_cheapestSet 54 = .ok (.iload 4, 2) := by decide +kernel
theorem dX8_cheapestSet_56 : decode cX8_cheapestSet 56 = .ok (.if_icmp .ge 10, 3) := by decide +kernel
theorem dX8_cheapestSet_59 : decode cX8_cheapestSet 59 = .ok (.iload 5, 2) := by decide +kernel
theorem dX8_cheapestSet_61 : decode cX8_cheapestSet 61 = .ok (.istore_n 3, 1) := by decide +kernel
theorem dX8_cheapestSet_62 : decode cX8_cheapestSet 62 = .ok (.iload 6, 2) := by decide +kernel
theorem dX8_cheapestSet_64 : decode cX8_cheapestSet 64 = .ok (.istore 4, 2) := by decide +kernel
theorem dX8_cheapestSet_66 : decode cX8_cheapestSet 66 = .ok (.iinc 5 1, 3) := by decide +kernel
theorem dX8_cheapestSet_69 : decode cX8_cheapestSet 69 = .ok (.goto (-60), 3) := by decide +kernel
theorem dX8_cheapestSet_72 : decode cX8_cheapestSet 72 = .ok (.iload_n 3, 1) := by decide +kernel
theorem dX8_cheapestSet_73 : decode cX8_cheapestSet 73 = .ok (.ireturn, 1) := by decide +kernel
set_option maxRecDepth 20000 in
theorem ggX8_roundsWith_X2_cell : GoodIn wsX8_roundsWith wsX2_cell := goodIn_r _ [10, 11, 12, 13, 14, 17, 18, 19, 20, 21, 22] rfl (by decide +kernel)
set_option maxRecDepth 20000 in
theorem gX8_roundsWith_X2_cell : GoodIn wsX8_roundsWith (wsV RX8 45 RX2 yX2_cell wsX2_cell) := goodIn_app (goodIn_of _ (by decide +kernel)) ggX8_roundsWith_X2_cell
set_option maxRecDepth 20000 in
theorem ggX8_roundsWith_X9_at : GoodIn wsX8_roundsWith wsX9_at := goodIn_r _ [14] rfl (by decide +kernel)
set_option maxRecDepth 20000 in
theorem gX8_roundsWith_X9_at_n24 : GoodIn wsX8_roundsWith (wsX9_at) := ggX8_roundsWith_X9_at
set_option maxRecDepth 20000 in
theorem ggX8_roundsWith_X9_put : GoodIn wsX8_roundsWith wsX9_put := goodIn_r _ [16] rfl (by decide +kernel)
set_option maxRecDepth 20000 in
theorem gX8_roundsWith_X9_put_n53 : GoodIn wsX8_roundsWith (wsX9_put) := ggX8_roundsWith_X9_put
theorem dX8_roundsWith_0 : decode cX8_roundsWith 0 = .ok (.iconst 0, 1) := by decide +kernel
theorem dX8_roundsWith_1 : decode cX8_roundsWith 1 = .ok (.istore_n 3, 1) := by decide +kernel
theorem dX8_roundsWith_2 : decode cX8_roundsWith 2 = .ok (.iconst 0, 1) := by decide +kernel
theorem dX8_roundsWith_3 : decode cX8_roundsWith 3 = .ok (.istore 4, 2) := by decide +kernel
theorem dX8_roundsWith_5 : decode cX8_roundsWith 5 = .ok (.iload 4, 2) := by decide +kernel
theorem dX8_roundsWith_7 : decode cX8_roundsWith 7 = .ok (.aload_n 1, 1) := by decide +kernel
theorem dX8_roundsWith_8 : decode cX8_roundsWith 8 = .ok (.getfield 42, 3) := by decide +kernel
theorem dX8_roundsWith_11 : decode cX8_roundsWith 11 = .ok (.if_icmp .ge 131, 3) := by decide +kernel
theorem dX8_roundsWith_14 : decode cX8_roundsWith 14 = .ok (.aload_n 1, 1) := by decide +kernel
theorem dX8_roundsWith_15 : decode cX8_roundsWith 15 = .ok (.iload 4, 2) := by decide +kernel
theorem dX8_roundsWith_17 : decode cX8_roundsWith 17 = .ok (.iconst 0, 1) := by decide +kernel
theorem dX8_roundsWith_18 : decode cX8_roundsWith 18 = .ok (.invokevirtual 45, 3) := by decide +kernel
theorem dX8_roundsWith_21 : decode cX8_roundsWith 21 = .ok (.istore 5, 2) := by decide +kernel
theorem dX8_roundsWith_23 : decode cX8_roundsWith 23 = .ok (.aload_n 1, 1) := by decide +kernel
theorem dX8_roundsWith_24 : decode cX8_roundsWith 24 = .ok (.iload 4, 2) := by decide +kernel
theorem dX8_roundsWith_26 : decode cX8_roundsWith 26 = .ok (.iconst 1, 1) := by decide +kernel
theorem dX8_roundsWith_27 : decode cX8_roundsWith 27 = .ok (.invokevirtual 45, 3) := by decide +kernel
theorem dX8_roundsWith_30 : decode cX8_roundsWith 30 = .ok (.istore 6, 2) := by decide +kernel
theorem dX8_roundsWith_32 : decode cX8_roundsWith 32 = .ok (.iload 5, 2) := by decide +kernel
theorem dX8_roundsWith_34 : decode cX8_roundsWith 34 = .ok (.iconst 5, 1) := by decide +kernel
theorem dX8_roundsWith_35 : decode cX8_roundsWith 35 = .ok (.if_icmp .ne 15, 3) := by decide +kernel
theorem dX8_roundsWith_38 : decode cX8_roundsWith 38 = .ok (.aload_n 0, 1) := by decide +kernel
theorem dX8_roundsWith_39 : decode cX8_roundsWith 39 = .ok (.getfield 15, 3) := by decide +kernel
theorem dX8_roundsWith_42 : decode cX8_roundsWith 42 = .ok (.iload 6, 2) := by decide +kernel
theorem dX8_roundsWith_44 : decode cX8_roundsWith 44 = .ok (.invokestatic 24, 3) := by decide +kernel
theorem dX8_roundsWith_47 : decode cX8_roundsWith 47 = .ok (.iconst 1, 1) := by decide +kernel
theorem dX8_roundsWith_48 : decode cX8_roundsWith 48 = .ok (.iadd, 1) := by decide +kernel
theorem dX8_roundsWith_49 : decode cX8_roundsWith 49 = .ok (.ireturn, 1) := by decide +kernel
theorem dX8_roundsWith_50 : decode cX8_roundsWith 50 = .ok (.iconst 0, 1) := by decide +kernel
theorem dX8_roundsWith_51 : decode cX8_roundsWith 51 = .ok (.istore 7, 2) := by decide +kernel
theorem dX8_roundsWith_53 : decode cX8_roundsWith 53 = .ok (.iload 5, 2) := by decide +kernel
theorem dX8_roundsWith_55 : decode cX8_roundsWith 55 = .ok (.ifCond .eq 42, 3) := by decide +kernel
theorem dX8_roundsWith_58 : decode cX8_roundsWith 58 = .ok (.iload 5, 2) := by decide +kernel
theorem dX8_roundsWith_60 : decode cX8_roundsWith 60 = .ok (.iconst 1, 1) := by decide +kernel
theorem dX8_roundsWith_61 : decode cX8_roundsWith 61 = .ok (.if_icmp .eq 36, 3) := by decide +kernel
theorem dX8_roundsWith_64 : decode cX8_roundsWith 64 = .ok (.aload_n 0, 1) := by decide +kernel
theorem dX8_roundsWith_65 : decode cX8_roundsWith 65 = .ok (.getfield 15, 3) := by decide +kernel
theorem dX8_roundsWith_68 : decode cX8_roundsWith 68 = .ok (.aload_n 1, 1) := by decide +kernel
theorem dX8_roundsWith_69 : decode cX8_roundsWith 69 = .ok (.iload 4, 2) := by decide +kernel
theorem dX8_roundsWith_71 : decode cX8_roundsWith 71 = .ok (.iconst 2, 1) := by decide +kernel
theorem dX8_roundsWith_72 : decode cX8_roundsWith 72 = .ok (.invokevirtual 45, 3) := by decide +kernel
theorem dX8_roundsWith_75 : decode cX8_roundsWith 75 = .ok (.invokestatic 24, 3) := by decide +kernel
theorem dX8_roundsWith_78 : decode cX8_roundsWith 78 = .ok (.aload_n 0, 1) := by decide +kernel
theorem dX8_roundsWith_79 : decode cX8_roundsWith 79 = .ok (.getfield 15, 3) := by decide +kernel
theorem dX8_roundsWith_82 : decode cX8_roundsWith 82 = .ok (.aload_n 1, 1) := by decide +kernel
theorem dX8_roundsWith_83 : decode cX8_roundsWith 83 = .ok (.iload 4, 2) := by decide +kernel
theorem dX8_roundsWith_85 : decode cX8_roundsWith 85 = .ok (.iconst 3, 1) := by decide +kernel
theorem dX8_roundsWith_86 : decode cX8_roundsWith 86 = .ok (.invokevirtual 45, 3) := by decide +kernel
theorem dX8_roundsWith_89 : decode cX8_roundsWith 89 = .ok (.invokestatic 24, 3) := by decide +kernel
theorem dX8_roundsWith_92 : decode cX8_roundsWith 92 = .ok (.invokestatic 48, 3) := by decide +kernel
theorem dX8_roundsWith_95 : decode cX8_roundsWith 95 = .ok (.istore 7, 2) := by decide +kernel
theorem dX8_roundsWith_97 : decode cX8_roundsWith 97 = .ok (.iload 5, 2) := by decide +kernel
theorem dX8_roundsWith_99 : decode cX8_roundsWith 99 = .ok (.iconst 4, 1) := by decide +kernel
theorem dX8_roundsWith_100 : decode cX8_roundsWith 100 = .ok (.if_icmp .ne 25, 3) := by decide +kernel
theorem dX8_roundsWith_103 : decode cX8_roundsWith 103 = .ok (.iload 7, 2) := by decide +kernel
theorem dX8_roundsWith_105 : decode cX8_roundsWith 105 = .ok (.iload_n 2, 1) := by decide +kernel
theorem dX8_roundsWith_106 : decode cX8_roundsWith 106 = .ok (.iload_n 3, 1) := by decide +kernel
theorem dX8_roundsWith_107 : decode cX8_roundsWith 107 = .ok (.ishr, 1) := by decide +kernel
theorem dX8_roundsWith_108 : decode cX8_roundsWith 108 = .ok (.iconst 1, 1) := by decide +kernel
theorem dX8_roundsWith_109 : decode cX8_roundsWith 109 = .ok (.iand, 1) := by decide +kernel
theorem dX8_roundsWith_110 : decode cX8_roundsWith 110 = .ok (.iconst 1, 1) := by decide +kernel
theorem dX8_roundsWith_111 : decode cX8_roundsWith 111 = .ok (.if_icmp .ne 7, 3) := by decide +kernel
theorem dX8_roundsWith_114 : decode cX8_roundsWith 114 = .ok (.iconst 2, 1) := by decide +kernel
theorem dX8_roundsWith_115 : decode cX8_roundsWith 115 = .ok (.goto 4, 3) := by decide +kernel
theorem dX8_roundsWith_118 : decode cX8_roundsWith 118 = .ok (.iconst 1, 1) := by decide +kernel
theorem dX8_roundsWith_119 : decode cX8_roundsWith 119 = .ok (.iadd, 1) := by decide +kernel
theorem dX8_roundsWith_120 : decode cX8_roundsWith 120 = .ok (.istore 7, 2) := by decide +kernel
theorem dX8_roundsWith_122 : decode cX8_roundsWith 122 = .ok (.iinc 3 1, 3) := by decide +kernel
theorem dX8_roundsWith_125 : decode cX8_roundsWith 125 = .ok (.aload_n 0, 1) := by decide +kernel
theorem dX8_roundsWith_126 : decode cX8_roundsWith 126 = .ok (.getfield 15, 3) := by decide +kernel
theorem dX8_roundsWith_129 : decode cX8_roundsWith 129 = .ok (.iload 6, 2) := by decide +kernel
theorem dX8_roundsWith_131 : decode cX8_roundsWith 131 = .ok (.iload 7, 2) := by decide +kernel
theorem dX8_roundsWith_133 : decode cX8_roundsWith 133 = .ok (.invokestatic 53, 3) := by decide +kernel
theorem dX8_roundsWith_136 : decode cX8_roundsWith 136 = .ok (.iinc 4 1, 3) := by decide +kernel
theorem dX8_roundsWith_139 : decode cX8_roundsWith 139 = .ok (.goto (-134), 3) := by decide +kernel
theorem dX8_roundsWith_142 : decode cX8_roundsWith 142 = .ok (.iconst 0, 1) := by decide +kernel
theorem dX8_roundsWith_143 : decode cX8_roundsWith 143 = .ok (.ireturn, 1) := by decide +kernel
set_option maxRecDepth 20000 in
theorem ggX6_init_X2_init : GoodIn wsX6_init wsX2_init := goodIn_r _ [14, 15, 2, 3, 8, 16, 17, 39, 40, 41, 42, 43, 44] rfl (by decide +kernel)
set_option maxRecDepth 20000 in
theorem gX6_init_X2_init_n11 : GoodIn wsX6_init (wsX2_init) := ggX6_init_X2_init
set_option maxRecDepth 20000 in
theorem ggX6_init_X2_take : GoodIn wsX6_init wsX2_take := goodIn_r _ [21, 22, 16, 17, 23, 24, 25, 26, 27, 28, 6, 29, 30, 31, 32, 33, 34, 35, 36, 37, 38, 39, 40, 41, 42, 43, 44] rfl (by decide +kernel)
set_option maxRecDepth 20000 in
theorem gX6_init_X2_take : GoodIn wsX6_init (wsV RX6 32 RX2 yX2_take wsX2_take) := goodIn_app (goodIn_of _ (by decide +kernel)) ggX6_init_X2_take
theorem dX6_init_0 : decode cX6_init 0 = .ok (.aload_n 0, 1) := by decide +kernel
theorem dX6_init_1 : decode cX6_init 1 = .ok (.invokespecial 3, 3) := by decide +kernel
theorem dX6_init_4 : decode cX6_init 4 = .ok (.aload_n 0, 1) := by decide +kernel
theorem dX6_init_5 : decode cX6_init 5 = .ok (.new 9, 3) := by decide +kernel
theorem dX6_init_8 : decode cX6_init 8 = .ok (.dup, 1) := by decide +kernel
theorem dX6_init_9 : decode cX6_init 9 = .ok (.invokespecial 11, 3) := by decide +kernel
theorem dX6_init_12 : decode cX6_init 12 = .ok (.putfield 12, 3) := by decide +kernel
theorem dX6_init_15 : decode cX6_init 15 = .ok (.aload_n 0, 1) := by decide +kernel
theorem dX6_init_16 : decode cX6_init 16 = .ok (.bipush 8, 2) := by decide +kernel
theorem dX6_init_18 : decode cX6_init 18 = .ok (.newarray .int, 2) := by decide +kernel
theorem dX6_init_20 : decode cX6_init 20 = .ok (.putfield 18, 3) := by decide +kernel
theorem dX6_init_23 : decode cX6_init 23 = .ok (.aload_n 0, 1) := by decide +kernel
theorem dX6_init_24 : decode cX6_init 24 = .ok (.bipush 40, 2) := by decide +kernel
theorem dX6_init_26 : decode cX6_init 26 = .ok (.newarray .int, 2) := by decide +kernel
theorem dX6_init_28 : decode cX6_init 28 = .ok (.putfield 22, 3) := by decide +kernel
theorem dX6_init_31 : decode cX6_init 31 = .ok (.aload_n 0, 1) := by decide +kernel
theorem dX6_init_32 : decode cX6_init 32 = .ok (.bipush 48, 2) := by decide +kernel
theorem dX6_init_34 : decode cX6_init 34 = .ok (.newarray .int, 2) := by decide +kernel
theorem dX6_init_36 : decode cX6_init 36 = .ok (.putfield 25, 3) := by decide +kernel
theorem dX6_init_39 : decode cX6_init 39 = .ok (.aload_n 0, 1) := by decide +kernel
theorem dX6_init_40 : decode cX6_init 40 = .ok (.iconst 5, 1) := by decide +kernel
theorem dX6_init_41 : decode cX6_init 41 = .ok (.putfield 28, 3) := by decide +kernel
theorem dX6_init_44 : decode cX6_init 44 = .ok (.aload_n 0, 1) := by decide +kernel
theorem dX6_init_45 : decode cX6_init 45 = .ok (.getfield 12, 3) := by decide +kernel
theorem dX6_init_48 : decode cX6_init 48 = .ok (.iconst 1, 1) := by decide +kernel
theorem dX6_init_49 : decode cX6_init 49 = .ok (.iconst 0, 1) := by decide +kernel
theorem dX6_init_50 : decode cX6_init 50 = .ok (.bipush (-9), 2) := by decide +kernel
theorem dX6_init_52 : decode cX6_init 52 = .ok (.bipush (-9), 2) := by decide +kernel
theorem dX6_init_54 : decode cX6_init 54 = .ok (.iconst 0, 1) := by decide +kernel
theorem dX6_init_55 : decode cX6_init 55 = .ok (.invokevirtual 32, 3) := by decide +kernel
theorem dX6_init_58 : decode cX6_init 58 = .ok (.aload_n 0, 1) := by decide +kernel
theorem dX6_init_59 : decode cX6_init 59 = .ok (.getfield 12, 3) := by decide +kernel
theorem dX6_init_62 : decode cX6_init 62 = .ok (.iconst 5, 1) := by decide +kernel
theorem dX6_init_63 : decode cX6_init 63 = .ok (.iconst 0, 1) := by decide +kernel
theorem dX6_init_64 : decode cX6_init 64 = .ok (.bipush (-9), 2) := by decide +kernel
theorem dX6_init_66 : decode cX6_init 66 = .ok (.bipush (-9), 2) := by decide +kernel
theorem dX6_init_68 : decode cX6_init 68 = .ok (.bipush (-9), 2) := by decide +kernel
theorem dX6_init_70 : decode cX6_init 70 = .ok (.invokevirtual 32, 3) := by decide +kernel
theorem dX6_init_73 : decode cX6_init 73 = .ok (.return_, 1) := by decide +kernel
set_option maxRecDepth 20000 in
theorem ggX6_begin_X2_become : GoodIn wsX6_begin wsX2_become := goodIn_r _ [7, 8, 9, 10, 11, 12, 13, 14, 15, 16, 36, 37, 38, 39, 40, 41] rfl (by decide +kernel)
set_option maxRecDepth 20000 in
theorem gX6_begin_X2_become : GoodIn wsX6_begin (wsV RX6 36 RX2 yX2_become wsX2_become) := goodIn_app (goodIn_of _ (by decide +kernel)) ggX6_begin_X2_become
set_option maxRecDepth 20000 in
theorem ggX6_begin_X9_wipe : GoodIn wsX6_begin wsX9_wipe := goodIn_r _ [18, 19, 20, 21, 22] rfl (by decide +kernel)
set_option maxRecDepth 20000 in
theorem gX6_begin_X9_wipe_n40 : GoodIn wsX6_begin (wsX9_wipe) := ggX6_begin_X9_wipe
set_option maxRecDepth 20000 in
theorem ggX6_begin_X6_forgetLies : GoodIn wsX6_begin wsX6_forgetLies := goodIn_r _ [27, 28, 29, 17, 15, 18, 19, 20, 21, 22, 30, 31, 32, 33, 34, 35] rfl (by decide +kernel)
set_option maxRecDepth 20000 in
theorem gX6_begin_X6_forgetLies : GoodIn wsX6_begin (wsV RX6 44 RX6 yX6_forgetLies wsX6_forgetLies) := goodIn_app (goodIn_of _ (by decide +kernel)) ggX6_begin_X6_forgetLies
theorem dX6_begin_0 : decode cX6_begin 0 = .ok (.aload_n 0, 1) := by decide +kernel
theorem dX6_begin_1 : decode cX6_begin 1 = .ok (.getfield 12, 3) := by decide +kernel
theorem dX6_begin_4 : decode cX6_begin 4 = .ok (.aload_n 1, 1) := by decide +kernel
theorem dX6_begin_5 : decode cX6_begin 5 = .ok (.invokevirtual 36, 3) := by decide +kernel
theorem dX6_begin_8 : decode cX6_begin 8 = .ok (.aload_n 0, 1) := by decide +kernel
theorem dX6_begin_9 : decode cX6_begin 9 = .ok (.getfield 18, 3) := by decide +kernel
theorem dX6_begin_12 : decode cX6_begin 12 = .ok (.invokestatic 40, 3) := by decide +kernel
theorem dX6_begin_15 : decode cX6_begin 15 = .ok (.aload_n 0, 1) := by decide +kernel
theorem dX6_begin_16 : decode cX6_begin 16 = .ok (.invokevirtual 44, 3) := by decide +kernel
theorem dX6_begin_19 : decode cX6_begin 19 = .ok (.return_, 1) := by decide +kernel
set_option maxRecDepth 20000 in
theorem ggX6_addLie_X9_at : GoodIn wsX6_addLie wsX9_at := goodIn_r _ [5] rfl (by decide +kernel)
set_option maxRecDepth 20000 in
theorem gX6_addLie_X9_at_n47 : GoodIn wsX6_addLie (wsX9_at) := ggX6_addLie_X9_at
set_option maxRecDepth 20000 in
theorem ggX6_addLie_X9_put : GoodIn wsX6_addLie wsX9_put := goodIn_r _ [7] rfl (by decide +kernel)
set_option maxRecDepth 20000 in
theorem gX6_addLie_X9_put_n51 : GoodIn wsX6_addLie (wsX9_put) := ggX6_addLie_X9_put
theorem dX6_addLie_0 : decode cX6_addLie 0 = .ok (.iload_n 1, 1) := by decide +kernel
theorem dX6_addLie_1 : decode cX6_addLie 1 = .ok (.iconst 3, 1) := by decide +kernel
theorem dX6_addLie_2 : decode cX6_addLie 2 = .ok (.imul, 1) := by decide +kernel
theorem dX6_addLie_3 : decode cX6_addLie 3 = .ok (.iload_n 2, 1) := by decide +kernel
theorem dX6_addLie_4 : decode cX6_addLie 4 = .ok (.iadd, 1) := by decide +kernel
theorem dX6_addLie_5 : decode cX6_addLie 5 = .ok (.istore 4, 2) := by decide +kernel
theorem dX6_addLie_7 : decode cX6_addLie 7 = .ok (.aload_n 0, 1) := by decide +kernel
theorem dX6_addLie_8 : decode cX6_addLie 8 = .ok (.getfield 25, 3) := by decide +kernel
theorem dX6_addLie_11 : decode cX6_addLie 11 = .ok (.iload 4, 2) := by decide +kernel
theorem dX6_addLie_13 : decode cX6_addLie 13 = .ok (.aload_n 0, 1) := by decide +kernel
theorem dX6_addLie_14 : decode cX6_addLie 14 = .ok (.getfield 25, 3) := by decide +kernel
theorem dX6_addLie_17 : decode cX6_addLie 17 = .ok (.iload 4, 2) := by decide +kernel
theorem dX6_addLie_19 : decode cX6_addLie 19 = .ok (.invokestatic 47, 3) := by decide +kernel
theorem dX6_addLie_22 : decode cX6_addLie 22 = .ok (.iload_n 3, 1) := by decide +kernel
theorem dX6_addLie_23 : decode cX6_addLie 23 = .ok (.iadd, 1) := by decide +kernel
theorem dX6_addLie_24 : decode cX6_addLie 24 = .ok (.invokestatic 51, 3) := by decide +kernel
theorem dX6_addLie_27 : decode cX6_addLie 27 = .ok (.aload_n 0, 1) := by decide +kernel
theorem dX6_addLie_28 : decode cX6_addLie 28 = .ok (.dup, 1) := by decide +kernel
theorem dX6_addLie_29 : decode cX6_addLie 29 = .ok (.getfield 55, 3) := by decide +kernel
theorem dX6_addLie_32 : decode cX6_addLie 32 = .ok (.iconst 1, 1) := by decide +kernel
theorem dX6_addLie_33 : decode cX6_addLie 33 = .ok (.iadd, 1) := by decide +kernel
theorem dX6_addLie_34 : decode cX6_addLie 34 = .ok (.putfield 55, 3) := by decide +kernel
theorem dX6_addLie_37 : decode cX6_addLie 37 = .ok (.return_, 1) := by decide +kernel
set_option maxRecDepth 20000 in
theorem ggX6_forgetLies_X9_wipe : GoodIn wsX6_forgetLies wsX9_wipe := goodIn_r _ [5, 6, 7, 8, 9] rfl (by decide +kernel)
set_option maxRecDepth 20000 in
theorem gX6_forgetLies_X9_wipe_n40 : GoodIn wsX6_forgetLies (wsX9_wipe) := ggX6_forgetLies_X9_wipe
theorem dX6_forgetLies_0 : decode cX6_forgetLies 0 = .ok (.aload_n 0, 1) := by decide +kernel
theorem dX6_forgetLies_1 : decode cX6_forgetLies 1 = .ok (.getfield 25, 3) := by decide +kernel
theorem dX6_forgetLies_4 : decode cX6_forgetLies 4 = .ok (.invokestatic 40, 3) := by decide +kernel
theorem dX6_forgetLies_7 : decode cX6_forgetLies 7 = .ok (.aload_n 0, 1) := by decide +kernel
theorem dX6_forgetLies_8 : decode cX6_forgetLies 8 = .ok (.iconst 0, 1) := by decide +kernel
theorem dX6_forgetLies_9 : decode cX6_forgetLies 9 = .ok (.putfield 55, 3) := by decide +kernel
theorem dX6_forgetLies_12 : decode cX6_forgetLies 12 = .ok (.return_, 1) := by decide +kernel
set_option maxRecDepth 20000 in
theorem ggX6_inputIn_X9_at : GoodIn wsX6_inputIn wsX9_at := goodIn_r _ [5] rfl (by decide +kernel)
set_option maxRecDepth 20000 in
theorem gX6_inputIn_X9_at_n47 : GoodIn wsX6_inputIn (wsX9_at) := ggX6_inputIn_X9_at
set_option maxRecDepth 20000 in
theorem ggX6_inputIn_X9_mod : GoodIn wsX6_inputIn wsX9_mod := goodIn_r _ [7] rfl (by decide +kernel)
set_option maxRecDepth 20000 in
theorem gX6_inputIn_X9_mod_n58 : GoodIn wsX6_inputIn (wsX9_mod) := ggX6_inputIn_X9_mod
theorem dX6_inputIn_0 : decode cX6_inputIn 0 = .ok (.aload_n 0, 1) := by decide +kernel
theorem dX6_inputIn_1 : decode cX6_inputIn 1 = .ok (.getfield 18, 3) := by decide +kernel
theorem dX6_inputIn_4 : decode cX6_inputIn 4 = .ok (.iload_n 1, 1) := by decide +kernel
theorem dX6_inputIn_5 : decode cX6_inputIn 5 = .ok (.iconst 4, 1) := by decide +kernel
theorem dX6_inputIn_6 : decode cX6_inputIn 6 = .ok (.imul, 1) := by decide +kernel
theorem dX6_inputIn_7 : decode cX6_inputIn 7 = .ok (.iload_n 2, 1) := by decide +kernel
theorem dX6_inputIn_8 : decode cX6_inputIn 8 = .ok (.iadd, 1) := by decide +kernel
theorem dX6_inputIn_9 : decode cX6_inputIn 9 = .ok (.invokestatic 47, 3) := by decide +kernel
theorem dX6_inputIn_12 : decode cX6_inputIn 12 = .ok (.aload_n 0, 1) := by decide +kernel
theorem dX6_inputIn_13 : decode cX6_inputIn 13 = .ok (.getfield 28, 3) := by decide +kernel
theorem dX6_inputIn_16 : decode cX6_inputIn 16 = .ok (.invokestatic 58, 3) := by decide +kernel
theorem dX6_inputIn_19 : decode cX6_inputIn 19 = .ok (.ireturn, 1) := by decide +kernel
set_option maxRecDepth 20000 in
theorem ggX6_rowsAreAlike_X6_inputIn : GoodIn wsX6_rowsAreAlike wsX6_inputIn := goodIn_r _ [6, 7, 8, 9, 10, 11, 12, 13, 14, 15, 16, 17, 18, 19] rfl (by decide +kernel)
set_option maxRecDepth 20000 in
theorem gX6_rowsAreAlike_X6_inputIn : GoodIn wsX6_rowsAreAlike (wsV RX6 64 RX6 yX6_inputIn wsX6_inputIn) := goodIn_app (goodIn_of _ (by decide +kernel)) ggX6_rowsAreAlike_X6_inputIn
theorem dX6_rowsAreAlike_0 : decode cX6_rowsAreAlike 0 = .ok (.iconst 0, 1) := by decide +kernel
theorem dX6_rowsAreAlike_1 : decode cX6_rowsAreAlike 1 = .ok (.istore_n 1, 1) := by decide +kernel
theorem dX6_rowsAreAlike_2 : decode cX6_rowsAreAlike 2 = .ok (.iload_n 1, 1) := by decide +kernel
theorem dX6_rowsAreAlike_3 : decode cX6_rowsAreAlike 3 = .ok (.aload_n 0, 1) := by decide +kernel
theorem dX6_rowsAreAlike_4 : decode cX6_rowsAreAlike 4 = .ok (.getfield 12, 3) := by decide +kernel
theorem dX6_rowsAreAlike_7 : decode cX6_rowsAreAlike 7 = .ok (.getfield 62, 3) := by decide +kernel
theorem dX6_rowsAreAlike_10 : decode cX6_rowsAreAlike 10 = .ok (.if_icmp .ge 26, 3) := by decide +kernel
theorem dX6_rowsAreAlike_13 : decode cX6_rowsAreAlike 13 = .ok (.aload_n 0, 1) := by decide +kernel
theorem dX6_rowsAreAlike_14 : decode cX6_rowsAreAlike 14 = .ok (.iconst 0, 1) := by decide +kernel
theorem dX6_rowsAreAlike_15 : decode cX6_rowsAreAlike 15 = .ok (.iload_n 1, 1) := by decide +kernel
theorem dX6_rowsAreAlike_16 : decode cX6_rowsAreAlike 16 = .ok (.invokevirtual 64, 3) := by decide +kernel
theorem dX6_rowsAreAlike_19 : decode cX6_rowsAreAlike 19 = .ok (.aload_n 0, 1) := by decide +kernel
theorem dX6_rowsAreAlike_20 : decode cX6_rowsAreAlike 20 = .ok (.iconst 1, 1) := by decide +kernel
theorem dX6_rowsAreAlike_21 : decode cX6_rowsAreAlike 21 = .ok (.iload_n 1, 1) := by decide +kernel
theorem dX6_rowsAreAlike_22 : decode cX6_rowsAreAlike 22 = .ok (.invokevirtual 64, 3) := by decide +kernel
theorem dX6_rowsAreAlike_25 : decode cX6_rowsAreAlike 25 = .ok (.if_icmp .eq 5, 3) := by decide +kernel
theorem dX6_rowsAreAlike_28 : decode cX6_rowsAreAlike 28 = .ok (.iconst 0, 1) := by decide +kernel
theorem dX6_rowsAreAlike_29 : decode cX6_rowsAreAlike 29 = .ok (.ireturn, 1) := by decide +kernel
theorem dX6_rowsAreAlike_30 : decode cX6_rowsAreAlike 30 = .ok (.iinc 1 1, 3) := by decide +kernel
theorem dX6_rowsAreAlike_33 : decode cX6_rowsAreAlike 33 = .ok (.goto (-31), 3) := by decide +kernel
theorem dX6_rowsAreAlike_36 : decode cX6_rowsAreAlike 36 = .ok (.iconst 1, 1) := by decide +kernel
theorem dX6_rowsAreAlike_37 : decode cX6_rowsAreAlike 37 = .ok (.ireturn, 1) := by decide +kernel
theorem dX5_init_0 : decode cX5_init 0 = .ok (.aload_n 0, 1) := by decide +kernel
theorem dX5_init_1 : decode cX5_init 1 = .ok (.invokespecial 5, 3) := by decide +kernel
theorem dX5_init_4 : decode cX5_init 4 = .ok (.aload_n 0, 1) := by decide +kernel
theorem dX5_init_5 : decode cX5_init 5 = .ok (.sipush 8192, 3) := by decide +kernel
theorem dX5_init_8 : decode cX5_init 8 = .ok (.newarray .long, 2) := by decide +kernel
theorem dX5_init_10 : decode cX5_init 10 = .ok (.putfield 11, 3) := by decide +kernel
theorem dX5_init_13 : decode cX5_init 13 = .ok (.aload_n 0, 1) := by decide +kernel
theorem dX5_init_14 : decode cX5_init 14 = .ok (.bipush 40, 2) := by decide +kernel
theorem dX5_init_16 : decode cX5_init 16 = .ok (.newarray .int, 2) := by decide +kernel
theorem dX5_init_18 : decode cX5_init 18 = .ok (.putfield 15, 3) := by decide +kernel
theorem dX5_init_21 : decode cX5_init 21 = .ok (.return_, 1) := by decide +kernel
set_option maxRecDepth 20000 in
theorem ggX5_watchFirstRow_J7_fill_d0a16 : GoodIn wsX5_watchFirstRow wsJ7_fill_d0a16 := goodIn_r _ [7] rfl (by decide +kernel)
set_option maxRecDepth 20000 in
theorem gX5_watchFirstRow_J7_fill_d0a16 : GoodIn wsX5_watchFirstRow (va_wsS RX5 19 yJ7_fill_d0a16 wsJ7_fill_d0a16) := goodIn_app (goodIn_of _ (by decide +kernel)) ggX5_watchFirstRow_J7_fill_d0a16
set_option maxRecDepth 20000 in
theorem ggX5_watchFirstRow_X9_wipe : GoodIn wsX5_watchFirstRow wsX9_wipe := goodIn_r _ [10, 11, 12, 6, 13] rfl (by decide +kernel)
set_option maxRecDepth 20000 in
theorem gX5_watchFirstRow_X9_wipe_n25 : GoodIn wsX5_watchFirstRow (wsX9_wipe) := ggX5_watchFirstRow_X9_wipe
set_option maxRecDepth 20000 in
theorem ggX5_watchFirstRow_X4_go_ : GoodIn wsX5_watchFirstRow wsX4_go_ := goodIn_r _ [18, 19, 20, 21, 22, 23, 24, 25, 26, 27, 28, 29, 30, 31, 32, 33, 34, 35, 36, 9, 37, 38, 39, 40, 41, 42, 17, 43, 44, 45, 46, 47, 48, 49, 50, 51, 52, 53, 54, 55, 56, 57, 58, 59, 60, 61, 62, 63, 64, 65, 66, 67, 68, 69, 70, 71, 72, 73, 74, 75, 76, 77, 78, 79, 80, 81, 82, 83, 84, 85, 86, 118, 119, 120, 121, 122, 123, 124, 125, 126, 127, 128, 129, 130, 131, 132, 133, 134, 135, 136, 137, 138, 139, 140, 141, 142] rfl (by decide +kernel)
set_option maxRecDepth 20000 in
theorem gX5_watchFirstRow_X4_go_ : GoodIn wsX5_watchFirstRow (wsV RX5 33 RX4 yX4_go_ wsX4_go_) := goodIn_app (goodIn_of _ (by decide +kernel)) ggX5_watchFirstRow_X4_go_
set_option maxRecDepth 20000 in
theorem ggX5_watchFirstRow_X5_keyOf : GoodIn wsX5_watchFirstRow wsX5_keyOf := goodIn_r _ [90, 118, 119, 120, 121, 122, 123, 124, 125, 126, 127, 128, 129, 130] rfl (by decide +kernel)
set_option maxRecDepth 20000 in
theorem gX5_watchFirstRow_X5_keyOf : GoodIn wsX5_watchFirstRow (va_wsS RX5 39 yX5_keyOf wsX5_keyOf) := goodIn_app (goodIn_of _ (by decide +kernel)) ggX5_watchFirstRow_X5_keyOf
set_option maxRecDepth 20000 in
theorem ggX5_watchFirstRow_X5_slotOf : GoodIn wsX5_watchFirstRow wsX5_slotOf := goodIn_r _ [94, 95, 96, 97, 98, 89, 99, 1, 115, 116, 117] rfl (by decide +kernel)
set_option maxRecDepth 20000 in
theorem gX5_watchFirstRow_X5_slotOf : GoodIn wsX5_watchFirstRow (wsV RX5 43 RX5 yX5_slotOf wsX5_slotOf) := goodIn_app (goodIn_of _ (by decide +kernel)) ggX5_watchFirstRow_X5_slotOf
set_option maxRecDepth 20000 in
theorem ggX5_watchFirstRow_X5_slotAt : GoodIn wsX5_watchFirstRow wsX5_slotAt := goodIn_r _ [99, 1, 115, 116, 117] rfl (by decide +kernel)
set_option maxRecDepth 20000 in
theorem gX5_watchFirstRow_X5_slotAt : GoodIn wsX5_watchFirstRow (wsV RX5 47 RX5 yX5_slotAt wsX5_slotAt) := goodIn_app (goodIn_of _ (by decide +kernel)) ggX5_watchFirstRow_X5_slotAt
set_option maxRecDepth 20000 in
theorem ggX5_watchFirstRow_X5_putSlot : GoodIn wsX5_watchFirstRow wsX5_putSlot := goodIn_r _ [103, 1, 115, 116, 117] rfl (by decide +kernel)
set_option maxRecDepth 20000 in
theorem gX5_watchFirstRow_X5_putSlot : GoodIn wsX5_watchFirstRow (wsV RX5 51 RX5 yX5_putSlot wsX5_putSlot) := goodIn_app (goodIn_of _ (by decide +kernel)) ggX5_watchFirstRow_X5_putSlot
set_option maxRecDepth 20000 in
theorem ggX5_watchFirstRow_X5_turnLots : GoodIn wsX5_watchFirstRow wsX5_turnLots := goodIn_r _ [107, 2, 108, 109, 110, 111, 112, 113, 114, 36, 9, 37, 38, 39, 58, 59, 131, 132, 133, 134, 135, 136, 115, 116, 117, 137, 138, 139, 140, 141, 142] rfl (by decide +kernel)
set_option maxRecDepth 20000 in
theorem gX5_watchFirstRow_X5_turnLots : GoodIn wsX5_watchFirstRow (wsV RX5 55 RX5 yX5_turnLots wsX5_turnLots) := goodIn_app (goodIn_of _ (by decide +kernel)) ggX5_watchFirstRow_X5_turnLots
theorem dX5_watchFirstRow_0 : decode cX5_watchFirstRow 0 = .ok (.aload_n 0, 1) := by decide +kernel
theorem dX5_watchFirstRow_1 : decode cX5_watchFirstRow 1 = .ok (.getfield 11, 3) := by decide +kernel
theorem dX5_watchFirstRow_4 : decode cX5_watchFirstRow 4 = .ok (.lconst 0, 1) := by decide +kernel
theorem dX5_watchFirstRow_5 : decode cX5_watchFirstRow 5 = .ok (.invokestatic 19, 3) := by decide +kernel
theorem dX5_watchFirstRow_8 : decode cX5_watchFirstRow 8 = .ok (.aload_n 0, 1) := by decide +kernel
theorem dX5_watchFirstRow_9 : decode cX5_watchFirstRow 9 = .ok (.getfield 15, 3) := by decide +kernel
theorem dX5_watchFirstRow_12 : decode cX5_watchFirstRow 12 = .ok (.invokestatic 25, 3) := by decide +kernel
theorem dX5_watchFirstRow_15 : decode cX5_watchFirstRow 15 = .ok (.aload_n 0, 1) := by decide +kernel
theorem dX5_watchFirstRow_16 : decode cX5_watchFirstRow 16 = .ok (.iconst 0, 1) := by decide +kernel
theorem dX5_watchFirstRow_17 : decode cX5_watchFirstRow 17 = .ok (.putfield 29, 3) := by decide +kernel
theorem dX5_watchFirstRow_20 : decode cX5_watchFirstRow 20 = .ok (.iconst 0, 1) := by decide +kernel
theorem dX5_watchFirstRow_21 : decode cX5_watchFirstRow 21 = .ok (.istore 5, 2) := by decide +kernel
theorem dX5_watchFirstRow_23 : decode cX5_watchFirstRow 23 = .ok (.iload 5, 2) := by decide +kernel
theorem dX5_watchFirstRow_25 : decode cX5_watchFirstRow 25 = .ok (.iload 4, 2) := by decide +kernel
theorem dX5_watchFirstRow_27 : decode cX5_watchFirstRow 27 = .ok (.if_icmp .ge 83, 3) := by decide +kernel
theorem dX5_watchFirstRow_30 : decode cX5_watchFirstRow 30 = .ok (.aload_n 2, 1) := by decide +kernel
theorem dX5_watchFirstRow_31 : decode cX5_watchFirstRow 31 = .ok (.aload_n 1, 1) := by decide +kernel
theorem dX5_watchFirstRow_32 : decode cX5_watchFirstRow 32 = .ok (.iload_n 3, 1) := by decide +kernel
theorem dX5_watchFirstRow_33 : decode cX5_watchFirstRow 33 = .ok (.iconst 0, 1) := by decide +kernel
theorem dX5_watchFirstRow_34 : decode cX5_watchFirstRow 34 = .ok (.aload_n 0, 1) := by decide +kernel
theorem dX5_watchFirstRow_35 : decode cX5_watchFirstRow 35 = .ok (.getfield 15, 3) := by decide +kernel
theorem dX5_watchFirstRow_38 : decode cX5_watchFirstRow 38 = .ok (.aconst_null, 1) := by decide +kernel
theorem dX5_watchFirstRow_39 : decode cX5_watchFirstRow 39 = .ok (.invokevirtual 33, 3) := by decide +kernel
theorem dX5_watchFirstRow_42 : decode cX5_watchFirstRow 42 = .ok (.aload_n 2, 1) := by decide +kernel
theorem dX5_watchFirstRow_43 : decode cX5_watchFirstRow 43 = .ok (.invokestatic 39, 3) := by decide +kernel
theorem dX5_watchFirstRow_46 : decode cX5_watchFirstRow 46 = .ok (.istore 6, 2) := by decide +kernel
theorem dX5_watchFirstRow_48 : decode cX5_watchFirstRow 48 = .ok (.aload_n 0, 1) := by decide +kernel
theorem dX5_watchFirstRow_49 : decode cX5_watchFirstRow 49 = .ok (.iload 6, 2) := by decide +kernel
theorem dX5_watchFirstRow_51 : decode cX5_watchFirstRow 51 = .ok (.invokevirtual 43, 3) := by decide +kernel
theorem dX5_watchFirstRow_54 : decode cX5_watchFirstRow 54 = .ok (.istore 7, 2) := by decide +kernel
theorem dX5_watchFirstRow_56 : decode cX5_watchFirstRow 56 = .ok (.aload_n 0, 1) := by decide +kernel
theorem dX5_watchFirstRow_57 : decode cX5_watchFirstRow 57 = .ok (.iload 7, 2) := by decide +kernel
theorem dX5_watchFirstRow_59 : decode cX5_watchFirstRow 59 = .ok (.invokevirtual 47, 3) := by decide +kernel
theorem dX5_watchFirstRow_62 : decode cX5_watchFirstRow 62 = .ok (.lstore 8, 2) := by decide +kernel
theorem dX5_watchFirstRow_64 : decode cX5_watchFirstRow 64 = .ok (.lload 8, 2) := by decide +kernel
theorem dX5_watchFirstRow_66 : decode cX5_watchFirstRow 66 = .ok (.lconst 0, 1) := by decide +kernel
theorem dX5_watchFirstRow_67 : decode cX5_watchFirstRow 67 = .ok (.lcmp, 1) := by decide +kernel
theorem dX5_watchFirstRow_68 : decode cX5_watchFirstRow 68 = .ok (.ifCond .ne 21, 3) := by decide +kernel
theorem dX5_watchFirstRow_71 : decode cX5_watchFirstRow 71 = .ok (.iload 6, 2) := by decide +kernel
theorem dX5_watchFirstRow_73 : decode cX5_watchFirstRow 73 = .ok (.i2l, 1) := by decide +kernel
theorem dX5_watchFirstRow_74 : decode cX5_watchFirstRow 74 = .ok (.bipush 13, 2) := by decide +kernel
theorem dX5_watchFirstRow_76 : decode cX5_watchFirstRow 76 = .ok (.lshl, 1) := by decide +kernel
theorem dX5_watchFirstRow_77 : decode cX5_watchFirstRow 77 = .ok (.lstore 8, 2) := by decide +kernel
theorem dX5_watchFirstRow_79 : decode cX5_watchFirstRow 79 = .ok (.aload_n 0, 1) := by decide +kernel
theorem dX5_watchFirstRow_80 : decode cX5_watchFirstRow 80 = .ok (.dup, 1) := by decide +kernel
theorem dX5_watchFirstRow_81 : decode cX5_watchFirstRow 81 = .ok (.getfield 29, 3) := by decide +kernel
theorem dX5_watchFirstRow_84 : decode cX5_watchFirstRow 84 = .ok (.iconst 1, 1) := by decide +kernel
theorem dX5_watchFirstRow_85 : decode cX5_watchFirstRow 85 = .ok (.iadd, 1) := by decide +kernel
theorem dX5_watchFirstRow_86 : decode cX5_watchFirstRow 86 = .ok (.putfield 29, 3) := by decide +kernel
theorem dX5_watchFirstRow_89 : decode cX5_watchFirstRow 89 = .ok (.aload_n 0, 1) := by decide +kernel
theorem dX5_watchFirstRow_90 : decode cX5_watchFirstRow 90 = .ok (.iload 7, 2) := by decide +kernel
theorem dX5_watchFirstRow_92 : decode cX5_watchFirstRow 92 = .ok (.lload 8, 2) := by decide +kernel
theorem dX5_watchFirstRow_94 : decode cX5_watchFirstRow 94 = .ok (.lconst 1, 1) := by decide +kernel
theorem dX5_watchFirstRow_95 : decode cX5_watchFirstRow 95 = .ok (.ladd, 1) := by decide +kernel
theorem dX5_watchFirstRow_96 : decode cX5_watchFirstRow 96 = .ok (.invokevirtual 51, 3) := by decide +kernel
theorem dX5_watchFirstRow_99 : decode cX5_watchFirstRow 99 = .ok (.aload_n 0, 1) := by decide +kernel
theorem dX5_watchFirstRow_100 : decode cX5_watchFirstRow 100 = .ok (.aload_n 1, 1) := by decide +kernel
theorem dX5_watchFirstRow_101 : decode cX5_watchFirstRow 101 = .ok (.invokevirtual 55, 3) := by decide +kernel
theorem dX5_watchFirstRow_104 : decode cX5_watchFirstRow 104 = .ok (.iinc 5 1, 3) := by decide +kernel
theorem dX5_watchFirstRow_107 : decode cX5_watchFirstRow 107 = .ok (.goto (-84), 3) := by decide +kernel
theorem dX5_watchFirstRow_110 : decode cX5_watchFirstRow 110 = .ok (.return_, 1) := by decide +kernel
set_option maxRecDepth 20000 in
theorem ggX5_secondRowDiffers_X9_wipe : GoodIn wsX5_secondRowDiffers wsX9_wipe := goodIn_r _ [5, 6, 7, 8, 9] rfl (by decide +kernel)
set_option maxRecDepth 20000 in
theorem gX5_secondRowDiffers_X9_wipe_n25 : GoodIn wsX5_secondRowDiffers (wsX9_wipe) := ggX5_secondRowDiffers_X9_wipe
set_option maxRecDepth 20000 in
theorem ggX5_secondRowDiffers_X4_go_ : GoodIn wsX5_secondRowDiffers wsX4_go_ := goodIn_r _ [14, 15, 16, 17, 18, 19, 20, 21, 22, 23, 24, 25, 26, 27, 28, 29, 30, 31, 32, 4, 33, 34, 35, 36, 37, 38, 13, 39, 40, 41, 42, 43, 44, 45, 46, 47, 48, 49, 50, 51, 52, 53, 54, 55, 56, 57, 58, 59, 60, 61, 62, 63, 64, 65, 66, 67, 68, 69, 70, 71, 72, 73, 74, 75, 76, 77, 78, 79, 80, 81, 82, 115, 116, 117, 118, 119, 120, 121, 122, 123, 124, 125, 126, 127, 128, 129, 130, 131, 132, 133, 134, 135, 136, 137, 138, 139] rfl (by decide +kernel)
set_option maxRecDepth 20000 in
theorem gX5_secondRowDiffers_X4_go_ : GoodIn wsX5_secondRowDiffers (wsV RX5 33 RX4 yX4_go_ wsX4_go_) := goodIn_app (goodIn_of _ (by decide +kernel)) ggX5_secondRowDiffers_X4_go_
set_option maxRecDepth 20000 in
theorem ggX5_secondRowDiffers_X5_keyOf : GoodIn wsX5_secondRowDiffers wsX5_keyOf := goodIn_r _ [86, 115, 116, 117, 118, 119, 120, 121, 122, 123, 124, 125, 126, 127] rfl (by decide +kernel)
set_option maxRecDepth 20000 in
theorem gX5_secondRowDiffers_X5_keyOf : GoodIn wsX5_secondRowDiffers (va_wsS RX5 39 yX5_keyOf wsX5_keyOf) := goodIn_app (goodIn_of _ (by decide +kernel)) ggX5_secondRowDiffers_X5_keyOf
set_option maxRecDepth 20000 in
theorem ggX5_secondRowDiffers_X5_slotOf : GoodIn wsX5_secondRowDiffers wsX5_slotOf := goodIn_r _ [90, 91, 92, 93, 94, 85, 95, 96, 112, 113, 114] rfl (by decide +kernel)
set_option maxRecDepth 20000 in
theorem gX5_secondRowDiffers_X5_slotOf : GoodIn wsX5_secondRowDiffers (wsV RX5 43 RX5 yX5_slotOf wsX5_slotOf) := goodIn_app (goodIn_of _ (by decide +kernel)) ggX5_secondRowDiffers_X5_slotOf
set_option maxRecDepth 20000 in
theorem ggX5_secondRowDiffers_X5_slotAt : GoodIn wsX5_secondRowDiffers wsX5_slotAt := goodIn_r _ [95, 96, 112, 113, 114] rfl (by decide +kernel)
set_option maxRecDepth 20000 in
theorem gX5_secondRowDiffers_X5_slotAt : GoodIn wsX5_secondRowDiffers (wsV RX5 47 RX5 yX5_slotAt wsX5_slotAt) := goodIn_app (goodIn_of _ (by decide +kernel)) ggX5_secondRowDiffers_X5_slotAt
set_option maxRecDepth 20000 in
theorem ggX5_secondRowDiffers_X5_putSlot : GoodIn wsX5_secondRowDiffers wsX5_putSlot := goodIn_r _ [100, 96, 112, 113, 114] rfl (by decide +kernel)
set_option maxRecDepth 20000 in
theorem gX5_secondRowDiffers_X5_putSlot : GoodIn wsX5_secondRowDiffers (wsV RX5 51 RX5 yX5_putSlot wsX5_putSlot) := goodIn_app (goodIn_of _ (by decide +kernel)) ggX5_secondRowDiffers_X5_putSlot
set_option maxRecDepth 20000 in
theorem ggX5_secondRowDiffers_X5_turnLots : GoodIn wsX5_secondRowDiffers wsX5_turnLots := goodIn_r _ [104, 1, 105, 106, 107, 108, 109, 110, 111, 32, 4, 33, 34, 35, 54, 55, 128, 129, 130, 131, 132, 133, 112, 113, 114, 134, 135, 136, 137, 138, 139] rfl (by decide +kernel)
set_option maxRecDepth 20000 in
theorem gX5_secondRowDiffers_X5_turnLots : GoodIn wsX5_secondRowDiffers (wsV RX5 55 RX5 yX5_turnLots wsX5_turnLots) := goodIn_app (goodIn_of _ (by decide +kernel)) ggX5_secondRowDiffers_X5_turnLots
theorem dX5_secondRowDiffers_0 : decode cX5_secondRowDiffers 0 = .ok (.aload_n 0, 1) := by decide +kernel
theorem dX5_secondRowDiffers_1 : decode cX5_secondRowDiffers 1 = .ok (.getfield 15, 3) := by decide +kernel
theorem dX5_secondRowDiffers_4 : decode cX5_secondRowDiffers 4 = .ok (.invokestatic 25, 3) := by decide +kernel
theorem dX5_secondRowDiffers_7 : decode cX5_secondRowDiffers 7 = .ok (.iconst 0, 1) := by decide +kernel
theorem dX5_secondRowDiffers_8 : decode cX5_secondRowDiffers 8 = .ok (.istore 5, 2) := by decide +kernel
theorem dX5_secondRowDiffers_10 : decode cX5_secondRowDiffers 10 = .ok (.iload 5, 2) := by decide +kernel
theorem dX5_secondRowDiffers_12 : decode cX5_secondRowDiffers 12 = .ok (.iload 4, 2) := by decide +kernel
theorem dX5_secondRowDiffers_14 : decode cX5_secondRowDiffers 14 = .ok (.if_icmp .ge 67, 3) := by decide +kernel
theorem dX5_secondRowDiffers_17 : decode cX5_secondRowDiffers 17 = .ok (.aload_n 2, 1) := by decide +kernel
theorem dX5_secondRowDiffers_18 : decode cX5_secondRowDiffers 18 = .ok (.aload_n 1, 1) := by decide +kernel
theorem dX5_secondRowDiffers_19 : decode cX5_secondRowDiffers 19 = .ok (.iload_n 3, 1) := by decide +kernel
theorem dX5_secondRowDiffers_20 : decode cX5_secondRowDiffers 20 = .ok (.iconst 1, 1) := by decide +kernel
theorem dX5_secondRowDiffers_21 : decode cX5_secondRowDiffers 21 = .ok (.aload_n 0, 1) := by decide +kernel

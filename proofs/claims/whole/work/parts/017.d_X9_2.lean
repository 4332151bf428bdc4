theorem dX9_least_19 : decode cX9_least 19 = .ok (.iconst (-1), 1) := by decide +kernel
theorem dX9_least_20 : decode cX9_least 20 = .ok (.ireturn, 1) := by decide +kernel
theorem dX9_least_21 : decode cX9_least 21 = .ok (.aload_n 0, 1) := by decide +kernel
theorem dX9_least_22 : decode cX9_least 22 = .ok (.getfield 40, 3) := by decide +kernel
theorem dX9_least_25 : decode cX9_least 25 = .ok (.aload_n 0, 1) := by decide +kernel
theorem dX9_least_26 : decode cX9_least 26 = .ok (.getfield 19, 3) := by decide +kernel
theorem dX9_least_29 : decode cX9_least 29 = .ok (.getfield 85, 3) := by decide +kernel
theorem dX9_least_32 : decode cX9_least 32 = .ok (.iload_n 1, 1) := by decide +kernel
theorem dX9_least_33 : decode cX9_least 33 = .ok (.invokevirtual 190, 3) := by decide +kernel
theorem dX9_least_36 : decode cX9_least 36 = .ok (.istore_n 3, 1) := by decide +kernel
theorem dX9_least_37 : decode cX9_least 37 = .ok (.iload_n 3, 1) := by decide +kernel
theorem dX9_least_38 : decode cX9_least 38 = .ok (.bipush (-9), 2) := by decide +kernel
theorem dX9_least_40 : decode cX9_least 40 = .ok (.if_icmp .eq 8, 3) := by decide +kernel
theorem dX9_least_43 : decode cX9_least 43 = .ok (.iload_n 2, 1) := by decide +kernel
theorem dX9_least_44 : decode cX9_least 44 = .ok (.iconst 1, 1) := by decide +kernel
theorem dX9_least_45 : decode cX9_least 45 = .ok (.if_icmp .ne 5, 3) := by decide +kernel
theorem dX9_least_48 : decode cX9_least 48 = .ok (.iload_n 3, 1) := by decide +kernel
theorem dX9_least_49 : decode cX9_least 49 = .ok (.ireturn, 1) := by decide +kernel
theorem dX9_least_50 : decode cX9_least 50 = .ok (.aload_n 0, 1) := by decide +kernel
theorem dX9_least_51 : decode cX9_least 51 = .ok (.getfield 40, 3) := by decide +kernel
theorem dX9_least_54 : decode cX9_least 54 = .ok (.aload_n 0, 1) := by decide +kernel
theorem dX9_least_55 : decode cX9_least 55 = .ok (.getfield 19, 3) := by decide +kernel
theorem dX9_least_58 : decode cX9_least 58 = .ok (.getfield 85, 3) := by decide +kernel
theorem dX9_least_61 : decode cX9_least 61 = .ok (.getfield 194, 3) := by decide +kernel
theorem dX9_least_64 : decode cX9_least 64 = .ok (.iload_n 3, 1) := by decide +kernel
theorem dX9_least_65 : decode cX9_least 65 = .ok (.invokevirtual 197, 3) := by decide +kernel
theorem dX9_least_68 : decode cX9_least 68 = .ok (.ireturn, 1) := by decide +kernel
set_option maxRecDepth 20000 in
theorem ggX9_field_X9_within : GoodIn wsX9_field wsX9_within := goodIn_r _ [6] rfl (by decide +kernel)
set_option maxRecDepth 20000 in
theorem gX9_field_X9_within : GoodIn wsX9_field (va_wsS RX9 97 yX9_within wsX9_within) := goodIn_app (goodIn_of _ (by decide +kernel)) ggX9_field_X9_within
set_option maxRecDepth 20000 in
theorem ggX9_field_X0_mayBecome : GoodIn wsX9_field wsX0_mayBecome := goodIn_r _ [11, 12, 13, 4, 5, 6, 51, 52, 53, 54, 55, 56, 57, 58] rfl (by decide +kernel)
set_option maxRecDepth 20000 in
theorem gX9_field_X0_mayBecome : GoodIn wsX9_field (wsV RX9 200 RX0 yX0_mayBecome wsX0_mayBecome) := goodIn_app (goodIn_of _ (by decide +kernel)) ggX9_field_X0_mayBecome
set_option maxRecDepth 20000 in
theorem ggX9_field_X1_beginAnew : GoodIn wsX9_field wsX1_beginAnew := goodIn_r _ [18, 19, 20, 21, 22, 59, 60, 61, 62] rfl (by decide +kernel)
set_option maxRecDepth 20000 in
theorem gX9_field_X1_beginAnew : GoodIn wsX9_field (wsV RX9 204 RX1 yX1_beginAnew wsX1_beginAnew) := goodIn_app (goodIn_of _ (by decide +kernel)) ggX9_field_X1_beginAnew
set_option maxRecDepth 20000 in
theorem ggX9_field_X0_become : GoodIn wsX9_field wsX0_become := goodIn_r _ [26, 12, 27, 13, 28, 29, 30, 10, 31, 32, 33, 34, 35, 36, 5, 37, 38, 39, 40, 41, 51, 52, 53, 54, 55, 56, 57, 58] rfl (by decide +kernel)
set_option maxRecDepth 20000 in
theorem gX9_field_X0_become : GoodIn wsX9_field (wsV RX9 207 RX0 yX0_become wsX0_become) := goodIn_app (goodIn_of _ (by decide +kernel)) ggX9_field_X0_become
theorem dX9_field_0 : decode cX9_field 0 = .ok (.iload_n 1, 1) := by decide +kernel
theorem dX9_field_1 : decode cX9_field 1 = .ok (.iconst 0, 1) := by decide +kernel
theorem dX9_field_2 : decode cX9_field 2 = .ok (.iconst 2, 1) := by decide +kernel
theorem dX9_field_3 : decode cX9_field 3 = .ok (.invokestatic 97, 3) := by decide +kernel
theorem dX9_field_6 : decode cX9_field 6 = .ok (.ifCond .eq 15, 3) := by decide +kernel
theorem dX9_field_9 : decode cX9_field 9 = .ok (.aload_n 0, 1) := by decide +kernel
theorem dX9_field_10 : decode cX9_field 10 = .ok (.getfield 47, 3) := by decide +kernel
theorem dX9_field_13 : decode cX9_field 13 = .ok (.iload_n 1, 1) := by decide +kernel
theorem dX9_field_14 : decode cX9_field 14 = .ok (.iload_n 2, 1) := by decide +kernel
theorem dX9_field_15 : decode cX9_field 15 = .ok (.invokevirtual 200, 3) := by decide +kernel
theorem dX9_field_18 : decode cX9_field 18 = .ok (.ifCond .ne 5, 3) := by decide +kernel
theorem dX9_field_21 : decode cX9_field 21 = .ok (.iconst (-1), 1) := by decide +kernel
theorem dX9_field_22 : decode cX9_field 22 = .ok (.ireturn, 1) := by decide +kernel
theorem dX9_field_23 : decode cX9_field 23 = .ok (.aload_n 0, 1) := by decide +kernel
theorem dX9_field_24 : decode cX9_field 24 = .ok (.getfield 54, 3) := by decide +kernel
theorem dX9_field_27 : decode cX9_field 27 = .ok (.invokevirtual 204, 3) := by decide +kernel
theorem dX9_field_30 : decode cX9_field 30 = .ok (.aload_n 0, 1) := by decide +kernel
theorem dX9_field_31 : decode cX9_field 31 = .ok (.getfield 47, 3) := by decide +kernel
theorem dX9_field_34 : decode cX9_field 34 = .ok (.iload_n 1, 1) := by decide +kernel
theorem dX9_field_35 : decode cX9_field 35 = .ok (.iload_n 2, 1) := by decide +kernel
theorem dX9_field_36 : decode cX9_field 36 = .ok (.invokevirtual 207, 3) := by decide +kernel
theorem dX9_field_39 : decode cX9_field 39 = .ok (.ireturn, 1) := by decide +kernel
set_option maxRecDepth 20000 in
theorem ggX9_curve_X0_isNumber : GoodIn wsX9_curve wsX0_isNumber := goodIn_r _ [6, 7, 8, 9, 10, 34, 35, 36, 37, 38, 39, 40, 41] rfl (by decide +kernel)
set_option maxRecDepth 20000 in
theorem gX9_curve_X0_isNumber : GoodIn wsX9_curve (wsV RX9 210 RX0 yX0_isNumber wsX0_isNumber) := goodIn_app (goodIn_of _ (by decide +kernel)) ggX9_curve_X0_isNumber
set_option maxRecDepth 20000 in
theorem ggX9_curve_X0_draw : GoodIn wsX9_curve wsX0_draw := goodIn_r _ [14, 15, 16, 17, 18, 19, 9, 20, 21, 22, 23, 24, 34, 35, 36, 37, 38, 39, 40, 41] rfl (by decide +kernel)
set_option maxRecDepth 20000 in
theorem gX9_curve_X0_draw : GoodIn wsX9_curve (wsV RX9 216 RX0 yX0_draw wsX0_draw) := goodIn_app (goodIn_of _ (by decide +kernel)) ggX9_curve_X0_draw
theorem dX9_curve_0 : decode cX9_curve 0 = .ok (.aload_n 0, 1) := by decide +kernel
theorem dX9_curve_1 : decode cX9_curve 1 = .ok (.getfield 47, 3) := by decide +kernel
theorem dX9_curve_4 : decode cX9_curve 4 = .ok (.iload_n 1, 1) := by decide +kernel
theorem dX9_curve_5 : decode cX9_curve 5 = .ok (.invokevirtual 210, 3) := by decide +kernel
theorem dX9_curve_8 : decode cX9_curve 8 = .ok (.ifCond .eq 25, 3) := by decide +kernel
theorem dX9_curve_11 : decode cX9_curve 11 = .ok (.aload_n 0, 1) := by decide +kernel
theorem dX9_curve_12 : decode cX9_curve 12 = .ok (.getfield 47, 3) := by decide +kernel
theorem dX9_curve_15 : decode cX9_curve 15 = .ok (.iload_n 2, 1) := by decide +kernel
theorem dX9_curve_16 : decode cX9_curve 16 = .ok (.invokevirtual 210, 3) := by decide +kernel
theorem dX9_curve_19 : decode cX9_curve 19 = .ok (.ifCond .eq 14, 3) := by decide +kernel
theorem dX9_curve_22 : decode cX9_curve 22 = .ok (.aload_n 0, 1) := by decide +kernel
theorem dX9_curve_23 : decode cX9_curve 23 = .ok (.getfield 47, 3) := by decide +kernel
theorem dX9_curve_26 : decode cX9_curve 26 = .ok (.iload_n 3, 1) := by decide +kernel
theorem dX9_curve_27 : decode cX9_curve 27 = .ok (.invokevirtual 210, 3) := by decide +kernel
theorem dX9_curve_30 : decode cX9_curve 30 = .ok (.ifCond .ne 5, 3) := by decide +kernel
theorem dX9_curve_33 : decode cX9_curve 33 = .ok (.iconst (-1), 1) := by decide +kernel
theorem dX9_curve_34 : decode cX9_curve 34 = .ok (.ireturn, 1) := by decide +kernel
theorem dX9_curve_35 : decode cX9_curve 35 = .ok (.aload_n 0, 1) := by decide +kernel
theorem dX9_curve_36 : decode cX9_curve 36 = .ok (.getfield 47, 3) := by decide +kernel
theorem dX9_curve_39 : decode cX9_curve 39 = .ok (.getfield 213, 3) := by decide +kernel
theorem dX9_curve_42 : decode cX9_curve 42 = .ok (.iconst 1, 1) := by decide +kernel
theorem dX9_curve_43 : decode cX9_curve 43 = .ok (.if_icmp .ge 7, 3) := by decide +kernel
theorem dX9_curve_46 : decode cX9_curve 46 = .ok (.iload_n 2, 1) := by decide +kernel
theorem dX9_curve_47 : decode cX9_curve 47 = .ok (.ifCond .ne 18, 3) := by decide +kernel
theorem dX9_curve_50 : decode cX9_curve 50 = .ok (.aload_n 0, 1) := by decide +kernel
theorem dX9_curve_51 : decode cX9_curve 51 = .ok (.getfield 47, 3) := by decide +kernel
theorem dX9_curve_54 : decode cX9_curve 54 = .ok (.getfield 213, 3) := by decide +kernel
theorem dX9_curve_57 : decode cX9_curve 57 = .ok (.iconst 2, 1) := by decide +kernel
theorem dX9_curve_58 : decode cX9_curve 58 = .ok (.if_icmp .ge 9, 3) := by decide +kernel
theorem dX9_curve_61 : decode cX9_curve 61 = .ok (.iload_n 3, 1) := by decide +kernel
theorem dX9_curve_62 : decode cX9_curve 62 = .ok (.ifCond .eq 5, 3) := by decide +kernel
theorem dX9_curve_65 : decode cX9_curve 65 = .ok (.iconst (-1), 1) := by decide +kernel
theorem dX9_curve_66 : decode cX9_curve 66 = .ok (.ireturn, 1) := by decide +kernel
theorem dX9_curve_67 : decode cX9_curve 67 = .ok (.aload_n 0, 1) := by decide +kernel
theorem dX9_curve_68 : decode cX9_curve 68 = .ok (.getfield 47, 3) := by decide +kernel
theorem dX9_curve_71 : decode cX9_curve 71 = .ok (.iload_n 1, 1) := by decide +kernel
theorem dX9_curve_72 : decode cX9_curve 72 = .ok (.iload_n 2, 1) := by decide +kernel
theorem dX9_curve_73 : decode cX9_curve 73 = .ok (.iload_n 3, 1) := by decide +kernel
theorem dX9_curve_74 : decode cX9_curve 74 = .ok (.invokevirtual 216, 3) := by decide +kernel
theorem dX9_curve_77 : decode cX9_curve 77 = .ok (.aload_n 0, 1) := by decide +kernel
theorem dX9_curve_78 : decode cX9_curve 78 = .ok (.getfield 47, 3) := by decide +kernel
theorem dX9_curve_81 : decode cX9_curve 81 = .ok (.getfield 219, 3) := by decide +kernel
theorem dX9_curve_84 : decode cX9_curve 84 = .ok (.ireturn, 1) := by decide +kernel
set_option maxRecDepth 20000 in
theorem ggX9_point_X0_hasHand : GoodIn wsX9_point wsX0_hasHand := goodIn_r _ [6, 7, 8, 9, 10, 33, 34, 35, 36, 37, 38, 39, 40] rfl (by decide +kernel)
set_option maxRecDepth 20000 in
theorem gX9_point_X0_hasHand : GoodIn wsX9_point (wsV RX9 222 RX0 yX0_hasHand wsX0_hasHand) := goodIn_app (goodIn_of _ (by decide +kernel)) ggX9_point_X0_hasHand
set_option maxRecDepth 20000 in
theorem ggX9_point_X0_bentPoint : GoodIn wsX9_point wsX0_bentPoint := goodIn_r _ [14, 15, 16, 17, 18, 19, 20, 9, 21, 22, 23, 33, 34, 35, 36, 37, 38, 39, 40] rfl (by decide +kernel)
set_option maxRecDepth 20000 in
theorem gX9_point_X0_bentPoint : GoodIn wsX9_point (wsV RX9 225 RX0 yX0_bentPoint wsX0_bentPoint) := goodIn_app (goodIn_of _ (by decide +kernel)) ggX9_point_X0_bentPoint
theorem dX9_point_0 : decode cX9_point 0 = .ok (.aload_n 0, 1) := by decide +kernel
theorem dX9_point_1 : decode cX9_point 1 = .ok (.getfield 47, 3) := by decide +kernel
theorem dX9_point_4 : decode cX9_point 4 = .ok (.iload_n 1, 1) := by decide +kernel
theorem dX9_point_5 : decode cX9_point 5 = .ok (.invokevirtual 222, 3) := by decide +kernel
theorem dX9_point_8 : decode cX9_point 8 = .ok (.ifCond .eq 14, 3) := by decide +kernel
theorem dX9_point_11 : decode cX9_point 11 = .ok (.aload_n 0, 1) := by decide +kernel
theorem dX9_point_12 : decode cX9_point 12 = .ok (.getfield 47, 3) := by decide +kernel
theorem dX9_point_15 : decode cX9_point 15 = .ok (.iload_n 1, 1) := by decide +kernel
theorem dX9_point_16 : decode cX9_point 16 = .ok (.invokevirtual 225, 3) := by decide +kernel
theorem dX9_point_19 : decode cX9_point 19 = .ok (.goto 4, 3) := by decide +kernel
theorem dX9_point_22 : decode cX9_point 22 = .ok (.iconst (-1), 1) := by decide +kernel
theorem dX9_point_23 : decode cX9_point 23 = .ok (.ireturn, 1) := by decide +kernel
set_option maxRecDepth 20000 in
theorem ggX9_bend_X0_hasHand : GoodIn wsX9_bend wsX0_hasHand := goodIn_r _ [6, 7, 8, 9, 10, 34, 35, 36, 37, 38, 39, 40, 41] rfl (by decide +kernel)
set_option maxRecDepth 20000 in
theorem gX9_bend_X0_hasHand : GoodIn wsX9_bend (wsV RX9 222 RX0 yX0_hasHand wsX0_hasHand) := goodIn_app (goodIn_of _ (by decide +kernel)) ggX9_bend_X0_hasHand
set_option maxRecDepth 20000 in
theorem ggX9_bend_X0_isNumber : GoodIn wsX9_bend wsX0_isNumber := goodIn_r _ [14, 15, 8, 9, 10, 34, 35, 36, 37, 38, 39, 40, 41] rfl (by decide +kernel)
set_option maxRecDepth 20000 in
theorem gX9_bend_X0_isNumber : GoodIn wsX9_bend (wsV RX9 210 RX0 yX0_isNumber wsX0_isNumber) := goodIn_app (goodIn_of _ (by decide +kernel)) ggX9_bend_X0_isNumber
set_option maxRecDepth 20000 in
theorem ggX9_bend_X9_swap : GoodIn wsX9_bend wsX9_swap := goodIn_r _ [18, 19, 20, 9, 21, 22, 23, 24] rfl (by decide +kernel)
set_option maxRecDepth 20000 in
theorem gX9_bend_X9_swap : GoodIn wsX9_bend (va_wsS RX9 114 yX9_swap wsX9_swap) := goodIn_app (goodIn_of _ (by decide +kernel)) ggX9_bend_X9_swap
theorem dX9_bend_0 : decode cX9_bend 0 = .ok (.aload_n 0, 1) := by decide +kernel
theorem dX9_bend_1 : decode cX9_bend 1 = .ok (.getfield 47, 3) := by decide +kernel
theorem dX9_bend_4 : decode cX9_bend 4 = .ok (.iload_n 1, 1) := by decide +kernel
theorem dX9_bend_5 : decode cX9_bend 5 = .ok (.invokevirtual 222, 3) := by decide +kernel
theorem dX9_bend_8 : decode cX9_bend 8 = .ok (.ifCond .eq 14, 3) := by decide +kernel
theorem dX9_bend_11 : decode cX9_bend 11 = .ok (.aload_n 0, 1) := by decide +kernel
theorem dX9_bend_12 : decode cX9_bend 12 = .ok (.getfield 47, 3) := by decide +kernel
theorem dX9_bend_15 : decode cX9_bend 15 = .ok (.iload_n 2, 1) := by decide +kernel
theorem dX9_bend_16 : decode cX9_bend 16 = .ok (.invokevirtual 210, 3) := by decide +kernel
theorem dX9_bend_19 : decode cX9_bend 19 = .ok (.ifCond .ne 5, 3) := by decide +kernel
theorem dX9_bend_22 : decode cX9_bend 22 = .ok (.iconst (-1), 1) := by decide +kernel
theorem dX9_bend_23 : decode cX9_bend 23 = .ok (.ireturn, 1) := by decide +kernel
theorem dX9_bend_24 : decode cX9_bend 24 = .ok (.aload_n 0, 1) := by decide +kernel
theorem dX9_bend_25 : decode cX9_bend 25 = .ok (.getfield 47, 3) := by decide +kernel
theorem dX9_bend_28 : decode cX9_bend 28 = .ok (.getfield 228, 3) := by decide +kernel
theorem dX9_bend_31 : decode cX9_bend 31 = .ok (.iload_n 1, 1) := by decide +kernel
theorem dX9_bend_32 : decode cX9_bend 32 = .ok (.iload_n 2, 1) := by decide +kernel
theorem dX9_bend_33 : decode cX9_bend 33 = .ok (.invokestatic 114, 3) := by decide +kernel
theorem dX9_bend_36 : decode cX9_bend 36 = .ok (.ireturn, 1) := by decide +kernel
set_option maxRecDepth 20000 in
theorem ggX9_open_X0_hasSet : GoodIn wsX9_open wsX0_hasSet := goodIn_r _ [6, 7, 8, 9, 10, 64, 65, 66, 67, 68, 69, 70, 71] rfl (by decide +kernel)
set_option maxRecDepth 20000 in
theorem gX9_open_X0_hasSet : GoodIn wsX9_open (wsV RX9 231 RX0 yX0_hasSet wsX0_hasSet) := goodIn_app (goodIn_of _ (by decide +kernel)) ggX9_open_X0_hasSet
set_option maxRecDepth 20000 in
theorem ggX9_open_X9_within : GoodIn wsX9_open wsX9_within := goodIn_r _ [10] rfl (by decide +kernel)
set_option maxRecDepth 20000 in
theorem gX9_open_X9_within : GoodIn wsX9_open (va_wsS RX9 97 yX9_within wsX9_within) := goodIn_app (goodIn_of _ (by decide +kernel)) ggX9_open_X9_within
set_option maxRecDepth 20000 in
theorem ggX9_open_X0_takePoints : GoodIn wsX9_open wsX0_takePoints := goodIn_r _ [15, 7, 16, 17, 18, 19, 5, 20, 21, 22, 23, 24, 25, 26, 9, 27, 28, 29, 30, 31, 64, 65, 66, 67, 68, 69, 70, 71] rfl (by decide +kernel)
set_option maxRecDepth 20000 in
theorem gX9_open_X0_takePoints : GoodIn wsX9_open (wsV RX9 234 RX0 yX0_takePoints wsX0_takePoints) := goodIn_app (goodIn_of _ (by decide +kernel)) ggX9_open_X0_takePoints
set_option maxRecDepth 20000 in
theorem ggX9_open_X0_opened : GoodIn wsX9_open wsX0_opened := goodIn_r _ [35, 36, 37, 38, 39, 40, 41, 42, 43, 44, 45, 5, 46, 7, 16, 47, 48, 49, 50, 25, 26, 9, 27, 28, 29, 51, 52, 53, 54, 64, 65, 66, 67, 68, 69, 70, 71] rfl (by decide +kernel)
set_option maxRecDepth 20000 in
theorem gX9_open_X0_opened : GoodIn wsX9_open (wsV RX9 237 RX0 yX0_opened wsX0_opened) := goodIn_app (goodIn_of _ (by decide +kernel)) ggX9_open_X0_opened
theorem dX9_open_0 : decode cX9_open 0 = .ok (.aload_n 0, 1) := by decide +kernel
theorem dX9_open_1 : decode cX9_open 1 = .ok (.getfield 47, 3) := by decide +kernel
theorem dX9_open_4 : decode cX9_open 4 = .ok (.iload_n 1, 1) := by decide +kernel
theorem dX9_open_5 : decode cX9_open 5 = .ok (.invokevirtual 231, 3) := by decide +kernel
theorem dX9_open_8 : decode cX9_open 8 = .ok (.ifCond .eq 12, 3) := by decide +kernel
theorem dX9_open_11 : decode cX9_open 11 = .ok (.iload_n 2, 1) := by decide +kernel
theorem dX9_open_12 : decode cX9_open 12 = .ok (.iconst 0, 1) := by decide +kernel
theorem dX9_open_13 : decode cX9_open 13 = .ok (.iconst 1, 1) := by decide +kernel
theorem dX9_open_14 : decode cX9_open 14 = .ok (.invokestatic 97, 3) := by decide +kernel
theorem dX9_open_17 : decode cX9_open 17 = .ok (.ifCond .ne 5, 3) := by decide +kernel
theorem dX9_open_20 : decode cX9_open 20 = .ok (.iconst (-1), 1) := by decide +kernel
theorem dX9_open_21 : decode cX9_open 21 = .ok (.ireturn, 1) := by decide +kernel
theorem dX9_open_22 : decode cX9_open 22 = .ok (.aload_n 0, 1) := by decide +kernel
theorem dX9_open_23 : decode cX9_open 23 = .ok (.getfield 47, 3) := by decide +kernel
theorem dX9_open_26 : decode cX9_open 26 = .ok (.invokevirtual 234, 3) := by decide +kernel
theorem dX9_open_29 : decode cX9_open 29 = .ok (.aload_n 0, 1) := by decide +kernel
theorem dX9_open_30 : decode cX9_open 30 = .ok (.getfield 47, 3) := by decide +kernel
theorem dX9_open_33 : decode cX9_open 33 = .ok (.iload_n 1, 1) := by decide +kernel
theorem dX9_open_34 : decode cX9_open 34 = .ok (.aload_n 0, 1) := by decide +kernel
theorem dX9_open_35 : decode cX9_open 35 = .ok (.getfield 47, 3) := by decide +kernel
theorem dX9_open_38 : decode cX9_open 38 = .ok (.getfield 213, 3) := by decide +kernel
theorem dX9_open_41 : decode cX9_open 41 = .ok (.iload_n 2, 1) := by decide +kernel
theorem dX9_open_42 : decode cX9_open 42 = .ok (.invokevirtual 237, 3) := by decide +kernel
theorem dX9_open_45 : decode cX9_open 45 = .ok (.ireturn, 1) := by decide +kernel
set_option maxRecDepth 20000 in
theorem ggX9_product_X0_hasSet : GoodIn wsX9_product wsX0_hasSet := goodIn_r _ [6, 7, 8, 9, 10, 65, 66, 67, 68, 69, 70, 71, 72] rfl (by decide +kernel)
set_option maxRecDepth 20000 in
theorem gX9_product_X0_hasSet : GoodIn wsX9_product (wsV RX9 231 RX0 yX0_hasSet wsX0_hasSet) := goodIn_app (goodIn_of _ (by decide +kernel)) ggX9_product_X0_hasSet
set_option maxRecDepth 20000 in
theorem ggX9_product_X9_within : GoodIn wsX9_product wsX9_within := goodIn_r _ [10] rfl (by decide +kernel)
set_option maxRecDepth 20000 in
theorem gX9_product_X9_within : GoodIn wsX9_product (va_wsS RX9 97 yX9_within wsX9_within) := goodIn_app (goodIn_of _ (by decide +kernel)) ggX9_product_X9_within
set_option maxRecDepth 20000 in
theorem ggX9_product_J6_bitCount_0f7a4 : GoodIn wsX9_product wsJ6_bitCount_0f7a4 := goodIn_r _ [15, 16, 17, 18] rfl (by decide +kernel)
set_option maxRecDepth 20000 in
theorem gX9_product_J6_bitCount_0f7a4 : GoodIn wsX9_product (va_wsS RX9 241 yJ6_bitCount_0f7a4 wsJ6_bitCount_0f7a4) := goodIn_app (goodIn_of _ (by decide +kernel)) ggX9_product_J6_bitCount_0f7a4
set_option maxRecDepth 20000 in
theorem ggX9_product_X0_takeSquares : GoodIn wsX9_product wsX0_takeSquares := goodIn_r _ [22, 7, 23, 24, 25, 26, 27, 5, 28, 29, 30, 31, 32, 33, 9, 34, 35, 36, 37, 38, 65, 66, 67, 68, 69, 70, 71, 72] rfl (by decide +kernel)
set_option maxRecDepth 20000 in
theorem gX9_product_X0_takeSquares : GoodIn wsX9_product (wsV RX9 246 RX0 yX0_takeSquares wsX0_takeSquares) := goodIn_app (goodIn_of _ (by decide +kernel)) ggX9_product_X0_takeSquares
set_option maxRecDepth 20000 in
theorem ggX9_product_X0_opened : GoodIn wsX9_product wsX0_opened := goodIn_r _ [42, 43, 13, 14, 15, 16, 17, 18, 44, 45, 46, 5, 47, 7, 23, 48, 49, 50, 51, 24, 33, 9, 34, 35, 36, 52, 53, 54, 55, 65, 66, 67, 68, 69, 70, 71, 72] rfl (by decide +kernel)
set_option maxRecDepth 20000 in
theorem gX9_product_X0_opened : GoodIn wsX9_product (wsV RX9 237 RX0 yX0_opened wsX0_opened) := goodIn_app (goodIn_of _ (by decide +kernel)) ggX9_product_X0_opened
theorem dX9_product_0 : decode cX9_product 0 = .ok (.aload_n 0, 1) := by decide +kernel
theorem dX9_product_1 : decode cX9_product 1 = .ok (.getfield 47, 3) := by decide +kernel
theorem dX9_product_4 : decode cX9_product 4 = .ok (.iload_n 1, 1) := by decide +kernel
theorem dX9_product_5 : decode cX9_product 5 = .ok (.invokevirtual 231, 3) := by decide +kernel
theorem dX9_product_8 : decode cX9_product 8 = .ok (.ifCond .eq 12, 3) := by decide +kernel
theorem dX9_product_11 : decode cX9_product 11 = .ok (.iload_n 2, 1) := by decide +kernel
theorem dX9_product_12 : decode cX9_product 12 = .ok (.iconst 0, 1) := by decide +kernel
theorem dX9_product_13 : decode cX9_product 13 = .ok (.iconst 1, 1) := by decide +kernel
theorem dX9_product_14 : decode cX9_product 14 = .ok (.invokestatic 97, 3) := by decide +kernel
theorem dX9_product_17 : decode cX9_product 17 = .ok (.ifCond .ne 5, 3) := by decide +kernel
theorem dX9_product_20 : decode cX9_product 20 = .ok (.iconst (-1), 1) := by decide +kernel
theorem dX9_product_21 : decode cX9_product 21 = .ok (.ireturn, 1) := by decide +kernel
theorem dX9_product_22 : decode cX9_product 22 = .ok (.iload_n 1, 1) := by decide +kernel
theorem dX9_product_23 : decode cX9_product 23 = .ok (.invokestatic 241, 3) := by decide +kernel
theorem dX9_product_26 : decode cX9_product 26 = .ok (.iconst 2, 1) := by decide +kernel
theorem dX9_product_27 : decode cX9_product 27 = .ok (.aload_n 0, 1) := by decide +kernel
theorem dX9_product_28 : decode cX9_product 28 = .ok (.getfield 47, 3) := by decide +kernel
theorem dX9_product_31 : decode cX9_product 31 = .ok (.getfield 213, 3) := by decide +kernel
theorem dX9_product_34 : decode cX9_product 34 = .ok (.imul, 1) := by decide +kernel
theorem dX9_product_35 : decode cX9_product 35 = .ok (.if_icmp .gt 6, 3) := by decide +kernel
theorem dX9_product_38 : decode cX9_product 38 = .ok (.bipush (-2), 2) := by decide +kernel
theorem dX9_product_40 : decode cX9_product 40 = .ok (.ireturn, 1) := by decide +kernel
theorem dX9_product_41 : decode cX9_product 41 = .ok (.aload_n 0, 1) := by decide +kernel
theorem dX9_product_42 : decode cX9_product 42 = .ok (.getfield 47, 3) := by decide +kernel
theorem dX9_product_45 : decode cX9_product 45 = .ok (.invokevirtual 246, 3) := by decide +kernel
theorem dX9_product_48 : decode cX9_product 48 = .ok (.aload_n 0, 1) := by decide +kernel
theorem dX9_product_49 : decode cX9_product 49 = .ok (.getfield 47, 3) := by decide +kernel
theorem dX9_product_52 : decode cX9_product 52 = .ok (.iload_n 1, 1) := by decide +kernel
theorem dX9_product_53 : decode cX9_product 53 = .ok (.iconst 2, 1) := by decide +kernel
theorem dX9_product_54 : decode cX9_product 54 = .ok (.aload_n 0, 1) := by decide +kernel
theorem dX9_product_55 : decode cX9_product 55 = .ok (.getfield 47, 3) := by decide +kernel
theorem dX9_product_58 : decode cX9_product 58 = .ok (.getfield 213, 3) := by decide +kernel
theorem dX9_product_61 : decode cX9_product 61 = .ok (.imul, 1) := by decide +kernel
theorem dX9_product_62 : decode cX9_product 62 = .ok (.iload_n 2, 1) := by decide +kernel
theorem dX9_product_63 : decode cX9_product 63 = .ok (.invokevirtual 237, 3) := by decide +kernel
theorem dX9_product_66 : decode cX9_product 66 = .ok (.ireturn, 1) := by decide +kernel
set_option maxRecDepth 20000 in
theorem ggX9_month_X9_within : GoodIn wsX9_month wsX9_within := goodIn_r _ [5] rfl (by decide +kernel)
set_option maxRecDepth 20000 in
theorem gX9_month_X9_within : GoodIn wsX9_month (va_wsS RX9 97 yX9_within wsX9_within) := goodIn_app (goodIn_of _ (by decide +kernel)) ggX9_month_X9_within
set_option maxRecDepth 20000 in
theorem ggX9_month_X1_goOn : GoodIn wsX9_month wsX1_goOn := goodIn_r _ [10, 11, 12, 22, 23, 24, 25] rfl (by decide +kernel)
set_option maxRecDepth 20000 in
theorem gX9_month_X1_goOn : GoodIn wsX9_month (wsV RX9 252 RX1 yX1_goOn wsX1_goOn) := goodIn_app (goodIn_of _ (by decide +kernel)) ggX9_month_X1_goOn
theorem dX9_month_0 : decode cX9_month 0 = .ok (.iload_n 1, 1) := by decide +kernel
theorem dX9_month_1 : decode cX9_month 1 = .ok (.iconst 0, 1) := by decide +kernel
theorem dX9_month_2 : decode cX9_month 2 = .ok (.iconst 1, 1) := by decide +kernel
theorem dX9_month_3 : decode cX9_month 3 = .ok (.invokestatic 97, 3) := by decide +kernel
theorem dX9_month_6 : decode cX9_month 6 = .ok (.ifCond .ne 5, 3) := by decide +kernel
theorem dX9_month_9 : decode cX9_month 9 = .ok (.iconst (-1), 1) := by decide +kernel
theorem dX9_month_10 : decode cX9_month 10 = .ok (.ireturn, 1) := by decide +kernel
theorem dX9_month_11 : decode cX9_month 11 = .ok (.aload_n 0, 1) := by decide +kernel
theorem dX9_month_12 : decode cX9_month 12 = .ok (.getfield 54, 3) := by decide +kernel
theorem dX9_month_15 : decode cX9_month 15 = .ok (.getfield 249, 3) := by decide +kernel
theorem dX9_month_18 : decode cX9_month 18 = .ok (.bipush 29, 2) := by decide +kernel
theorem dX9_month_20 : decode cX9_month 20 = .ok (.if_icmp .lt 6, 3) := by decide +kernel
theorem dX9_month_23 : decode cX9_month 23 = .ok (.bipush (-3), 2) := by decide +kernel
theorem dX9_month_25 : decode cX9_month 25 = .ok (.ireturn, 1) := by decide +kernel
theorem dX9_month_26 : decode cX9_month 26 = .ok (.aload_n 0, 1) := by decide +kernel
theorem dX9_month_27 : decode cX9_month 27 = .ok (.getfield 54, 3) := by decide +kernel
theorem dX9_month_30 : decode cX9_month 30 = .ok (.iload_n 1, 1) := by decide +kernel
theorem dX9_month_31 : decode cX9_month 31 = .ok (.iconst 1, 1) := by decide +kernel
theorem dX9_month_32 : decode cX9_month 32 = .ok (.if_icmp .ne 7, 3) := by decide +kernel
theorem dX9_month_35 : decode cX9_month 35 = .ok (.iconst 1, 1) := by decide +kernel
theorem dX9_month_36 : decode cX9_month 36 = .ok (.goto 4, 3) := by decide +kernel
theorem dX9_month_39 : decode cX9_month 39 = .ok (.iconst 0, 1) := by decide +kernel
theorem dX9_month_40 : decode cX9_month 40 = .ok (.invokevirtual 252, 3) := by decide +kernel
theorem dX9_month_43 : decode cX9_month 43 = .ok (.aload_n 0, 1) := by decide +kernel
theorem dX9_month_44 : decode cX9_month 44 = .ok (.getfield 54, 3) := by decide +kernel
theorem dX9_month_47 : decode cX9_month 47 = .ok (.getfield 249, 3) := by decide +kernel
theorem dX9_month_50 : decode cX9_month 50 = .ok (.ireturn, 1) := by decide +kernel
set_option maxRecDepth 20000 in
theorem ggX9_steal_X0_hasHand : GoodIn wsX9_steal wsX0_hasHand := goodIn_r _ [7, 8, 9, 10, 11, 40, 41, 42, 43, 44, 45, 46, 47] rfl (by decide +kernel)
set_option maxRecDepth 20000 in
theorem gX9_steal_X0_hasHand : GoodIn wsX9_steal (wsV RX9 222 RX0 yX0_hasHand wsX0_hasHand) := goodIn_app (goodIn_of _ (by decide +kernel)) ggX9_steal_X0_hasHand
set_option maxRecDepth 20000 in
theorem ggX9_steal_X1_losePoint : GoodIn wsX9_steal wsX1_losePoint := goodIn_r _ [16, 17, 18, 19, 20, 21, 22, 23, 24, 25, 26, 36, 37, 38, 39] rfl (by decide +kernel)
set_option maxRecDepth 20000 in
theorem gX9_steal_X1_losePoint : GoodIn wsX9_steal (wsV RX9 259 RX1 yX1_losePoint wsX1_losePoint) := goodIn_app (goodIn_of _ (by decide +kernel)) ggX9_steal_X1_losePoint
theorem dX9_steal_0 : decode cX9_steal 0 = .ok (.aload_n 0, 1) := by decide +kernel
theorem dX9_steal_1 : decode cX9_steal 1 = .ok (.getfield 47, 3) := by decide +kernel
theorem dX9_steal_4 : decode cX9_steal 4 = .ok (.iload_n 1, 1) := by decide +kernel
theorem dX9_steal_5 : decode cX9_steal 5 = .ok (.invokevirtual 222, 3) := by decide +kernel
theorem dX9_steal_8 : decode cX9_steal 8 = .ok (.ifCond .ne 5, 3) := by decide +kernel
theorem dX9_steal_11 : decode cX9_steal 11 = .ok (.iconst (-1), 1) := by decide +kernel
theorem dX9_steal_12 : decode cX9_steal 12 = .ok (.ireturn, 1) := by decide +kernel
theorem dX9_steal_13 : decode cX9_steal 13 = .ok (.aload_n 0, 1) := by decide +kernel
theorem dX9_steal_14 : decode cX9_steal 14 = .ok (.getfield 54, 3) := by decide +kernel
theorem dX9_steal_17 : decode cX9_steal 17 = .ok (.getfield 256, 3) := by decide +kernel
theorem dX9_steal_20 : decode cX9_steal 20 = .ok (.bipush 30, 2) := by decide +kernel
theorem dX9_steal_22 : decode cX9_steal 22 = .ok (.if_icmp .lt 6, 3) := by decide +kernel
theorem dX9_steal_25 : decode cX9_steal 25 = .ok (.bipush (-3), 2) := by decide +kernel
theorem dX9_steal_27 : decode cX9_steal 27 = .ok (.ireturn, 1) := by decide +kernel
theorem dX9_steal_28 : decode cX9_steal 28 = .ok (.aload_n 0, 1) := by decide +kernel
theorem dX9_steal_29 : decode cX9_steal 29 = .ok (.getfield 54, 3) := by decide +kernel
theorem dX9_steal_32 : decode cX9_steal 32 = .ok (.iload_n 1, 1) := by decide +kernel
theorem dX9_steal_33 : decode cX9_steal 33 = .ok (.aload_n 0, 1) := by decide +kernel
theorem dX9_steal_34 : decode cX9_steal 34 = .ok (.getfield 47, 3) := by decide +kernel
theorem dX9_steal_37 : decode cX9_steal 37 = .ok (.getfield 213, 3) := by decide +kernel
theorem dX9_steal_40 : decode cX9_steal 40 = .ok (.invokevirtual 259, 3) := by decide +kernel
theorem dX9_steal_43 : decode cX9_steal 43 = .ok (.aload_n 0, 1) := by decide +kernel
theorem dX9_steal_44 : decode cX9_steal 44 = .ok (.getfield 54, 3) := by decide +kernel
theorem dX9_steal_47 : decode cX9_steal 47 = .ok (.getfield 256, 3) := by decide +kernel
theorem dX9_steal_50 : decode cX9_steal 50 = .ok (.ireturn, 1) := by decide +kernel
set_option maxRecDepth 20000 in
theorem ggX9_known_X9_within : GoodIn wsX9_known wsX9_within := goodIn_r _ [6] rfl (by decide +kernel)
set_option maxRecDepth 20000 in
theorem gX9_known_X9_within : GoodIn wsX9_known (va_wsS RX9 97 yX9_within wsX9_within) := goodIn_app (goodIn_of _ (by decide +kernel)) ggX9_known_X9_within
set_option maxRecDepth 20000 in
theorem ggX9_known_X1_safeHands : GoodIn wsX9_known wsX1_safeHands := goodIn_r _ [11, 12, 13, 14, 15, 16, 17, 18, 19, 20, 30, 31, 32, 33] rfl (by decide +kernel)
set_option maxRecDepth 20000 in
theorem gX9_known_X1_safeHands : GoodIn wsX9_known (wsV RX9 267 RX1 yX1_safeHands wsX1_safeHands) := goodIn_app (goodIn_of _ (by decide +kernel)) ggX9_known_X1_safeHands
theorem dX9_known_0 : decode cX9_known 0 = .ok (.iload_n 1, 1) := by decide +kernel
theorem dX9_known_1 : decode cX9_known 1 = .ok (.iconst 0, 1) := by decide +kernel
theorem dX9_known_2 : decode cX9_known 2 = .ok (.iconst 1, 1) := by decide +kernel
theorem dX9_known_3 : decode cX9_known 3 = .ok (.invokestatic 97, 3) := by decide +kernel
theorem dX9_known_6 : decode cX9_known 6 = .ok (.ifCond .ne 5, 3) := by decide +kernel
theorem dX9_known_9 : decode cX9_known 9 = .ok (.iconst (-1), 1) := by decide +kernel
theorem dX9_known_10 : decode cX9_known 10 = .ok (.ireturn, 1) := by decide +kernel
theorem dX9_known_11 : decode cX9_known 11 = .ok (.iload_n 1, 1) := by decide +kernel
theorem dX9_known_12 : decode cX9_known 12 = .ok (.ifCond .ne 19, 3) := by decide +kernel
theorem dX9_known_15 : decode cX9_known 15 = .ok (.aload_n 0, 1) := by decide +kernel
theorem dX9_known_16 : decode cX9_known 16 = .ok (.getfield 54, 3) := by decide +kernel
theorem dX9_known_19 : decode cX9_known 19 = .ok (.getfield 263, 3) := by decide +kernel
theorem dX9_known_22 : decode cX9_known 22 = .ok (.ifCond .eq 7, 3) := by decide +kernel
theorem dX9_known_25 : decode cX9_known 25 = .ok (.iconst 1, 1) := by decide +kernel
theorem dX9_known_26 : decode cX9_known 26 = .ok (.goto 4, 3) := by decide +kernel
theorem dX9_known_29 : decode cX9_known 29 = .ok (.iconst 0, 1) := by decide +kernel
theorem dX9_known_30 : decode cX9_known 30 = .ok (.ireturn, 1) := by decide +kernel
theorem dX9_known_31 : decode cX9_known 31 = .ok (.aload_n 0, 1) := by decide +kernel
theorem dX9_known_32 : decode cX9_known 32 = .ok (.getfield 54, 3) := by decide +kernel
theorem dX9_known_35 : decode cX9_known 35 = .ok (.aload_n 0, 1) := by decide +kernel
theorem dX9_known_36 : decode cX9_known 36 = .ok (.getfield 47, 3) := by decide +kernel
theorem dX9_known_39 : decode cX9_known 39 = .ok (.getfield 213, 3) := by decide +kernel
theorem dX9_known_42 : decode cX9_known 42 = .ok (.invokevirtual 267, 3) := by decide +kernel
theorem dX9_known_45 : decode cX9_known 45 = .ok (.ireturn, 1) := by decide +kernel
set_option maxRecDepth 20000 in
theorem ggX9_weight_X9_within : GoodIn wsX9_weight wsX9_within := goodIn_r _ [5] rfl (by decide +kernel)
set_option maxRecDepth 20000 in
theorem gX9_weight_X9_within : GoodIn wsX9_weight (va_wsS RX9 97 yX9_within wsX9_within) := goodIn_app (goodIn_of _ (by decide +kernel)) ggX9_weight_X9_within
set_option maxRecDepth 20000 in
theorem ggX9_weight_X2_has : GoodIn wsX9_weight wsX2_has := goodIn_r _ [10, 11, 73, 74, 75, 76, 77, 78] rfl (by decide +kernel)
set_option maxRecDepth 20000 in
theorem gX9_weight_X2_has : GoodIn wsX9_weight (wsV RX9 93 RX2 yX2_has wsX2_has) := goodIn_app (goodIn_of _ (by decide +kernel)) ggX9_weight_X2_has
set_option maxRecDepth 20000 in
theorem ggX9_weight_X9_shareWeight : GoodIn wsX9_weight wsX9_shareWeight := goodIn_r _ [15, 16, 58, 59, 60, 61, 62, 63, 64, 65, 66] rfl (by decide +kernel)
set_option maxRecDepth 20000 in
theorem gX9_weight_X9_shareWeight : GoodIn wsX9_weight (wsV RX9 270 RX9 yX9_shareWeight wsX9_shareWeight) := goodIn_app (goodIn_of _ (by decide +kernel)) ggX9_weight_X9_shareWeight
set_option maxRecDepth 20000 in
theorem ggX9_weight_X9_sumWeight : GoodIn wsX9_weight wsX9_sumWeight := goodIn_r _ [20, 16, 21, 1, 12, 13, 14, 4, 15, 22, 23, 24, 9, 25, 26, 27, 28, 29, 30, 31, 32, 58, 59, 60, 61, 62, 63, 64, 65, 66, 67, 68, 69, 70, 71, 72, 73, 74, 75, 76, 77, 78] rfl (by decide +kernel)
set_option maxRecDepth 20000 in
theorem gX9_weight_X9_sumWeight : GoodIn wsX9_weight (wsV RX9 273 RX9 yX9_sumWeight wsX9_sumWeight) := goodIn_app (goodIn_of _ (by decide +kernel)) ggX9_weight_X9_sumWeight
set_option maxRecDepth 20000 in
theorem ggX9_weight_X9_curveWeight : GoodIn wsX9_weight wsX9_curveWeight := goodIn_r _ [36, 16, 37, 38, 12, 13, 14, 4, 15, 58, 59, 60, 61, 62, 63, 64, 65, 66, 79, 80, 81, 82, 83, 84, 85, 86] rfl (by decide +kernel)
set_option maxRecDepth 20000 in
theorem gX9_weight_X9_curveWeight : GoodIn wsX9_weight (wsV RX9 276 RX9 yX9_curveWeight wsX9_curveWeight) := goodIn_app (goodIn_of _ (by decide +kernel)) ggX9_weight_X9_curveWeight
set_option maxRecDepth 20000 in
theorem ggX9_weight_X9_bitWeight : GoodIn wsX9_weight wsX9_bitWeight := goodIn_r _ [42, 16, 43, 1, 17, 18, 19, 4, 20, 21, 12, 13, 14, 15, 22, 23, 24, 9, 25, 26, 27, 28, 29, 30, 31, 32, 58, 59, 60, 61, 62, 63, 64, 65, 66, 67, 68, 69, 70, 71, 72, 73, 74, 75, 76, 77, 78] rfl (by decide +kernel)
set_option maxRecDepth 20000 in
theorem gX9_weight_X9_bitWeight : GoodIn wsX9_weight (wsV RX9 279 RX9 yX9_bitWeight wsX9_bitWeight) := goodIn_app (goodIn_of _ (by decide +kernel)) ggX9_weight_X9_bitWeight
set_option maxRecDepth 20000 in
theorem ggX9_weight_X9_sealedWeight : GoodIn wsX9_weight wsX9_sealedWeight := goodIn_r _ [47, 16, 48, 33, 34, 35, 4, 36, 37, 38, 12, 13, 14, 15, 58, 59, 60, 61, 62, 63, 64, 65, 66, 79, 80, 81, 82, 83, 84, 85, 86] rfl (by decide +kernel)
set_option maxRecDepth 20000 in
theorem gX9_weight_X9_sealedWeight : GoodIn wsX9_weight (wsV RX9 282 RX9 yX9_sealedWeight wsX9_sealedWeight) := goodIn_app (goodIn_of _ (by decide +kernel)) ggX9_weight_X9_sealedWeight
set_option maxRecDepth 20000 in
theorem ggX9_weight_X9_openedWeight : GoodIn wsX9_weight wsX9_openedWeight := goodIn_r _ [52, 16, 53, 1, 12, 13, 14, 4, 15, 54, 55, 56, 9, 57, 26, 27, 28, 29, 30, 31, 32, 58, 59, 60, 61, 62, 63, 64, 65, 66, 67, 68, 69, 70, 71, 72, 73, 74, 75, 76, 77, 78] rfl (by decide +kernel)
set_option maxRecDepth 20000 in
theorem gX9_weight_X9_openedWeight : GoodIn wsX9_weight (wsV RX9 285 RX9 yX9_openedWeight wsX9_openedWeight) := goodIn_app (goodIn_of _ (by decide +kernel)) ggX9_weight_X9_openedWeight
theorem dX9_weight_0 : decode cX9_weight 0 = .ok (.iload_n 1, 1) := by decide +kernel
theorem dX9_weight_1 : decode cX9_weight 1 = .ok (.iconst 0, 1) := by decide +kernel
theorem dX9_weight_2 : decode cX9_weight 2 = .ok (.iconst 5, 1) := by decide +kernel
theorem dX9_weight_3 : decode cX9_weight 3 = .ok (.invokestatic 97, 3) := by decide +kernel
theorem dX9_weight_6 : decode cX9_weight 6 = .ok (.ifCond .eq 17, 3) := by decide +kernel
theorem dX9_weight_9 : decode cX9_weight 9 = .ok (.aload_n 0, 1) := by decide +kernel
theorem dX9_weight_10 : decode cX9_weight 10 = .ok (.getfield 19, 3) := by decide +kernel
theorem dX9_weight_13 : decode cX9_weight 13 = .ok (.getfield 85, 3) := by decide +kernel
theorem dX9_weight_16 : decode cX9_weight 16 = .ok (.iload_n 2, 1) := by decide +kernel
theorem dX9_weight_17 : decode cX9_weight 17 = .ok (.invokevirtual 93, 3) := by decide +kernel
theorem dX9_weight_20 : decode cX9_weight 20 = .ok (.ifCond .ne 5, 3) := by decide +kernel
theorem dX9_weight_23 : decode cX9_weight 23 = .ok (.iconst (-1), 1) := by decide +kernel
theorem dX9_weight_24 : decode cX9_weight 24 = .ok (.ireturn, 1) := by decide +kernel
theorem dX9_weight_25 : decode cX9_weight 25 = .ok (.iload_n 1, 1) := by decide +kernel
theorem dX9_weight_26 : decode cX9_weight 26 = .ok (.tableswitch 61 0 4 #[34, 39, 45, 50, 56], 34) := by decide +kernel
theorem dX9_weight_60 : decode cX9_weight 60 = .ok (.aload_n 0, 1) := by decide +kernel
theorem dX9_weight_61 : decode cX9_weight 61 = .ok (.invokevirtual 270, 3) := by decide +kernel
theorem dX9_weight_64 : decode cX9_weight 64 = .ok (.ireturn, 1) := by decide +kernel
theorem dX9_weight_65 : decode cX9_weight 65 = .ok (.aload_n 0, 1) := by decide +kernel
theorem dX9_weight_66 : decode cX9_weight 66 = .ok (.iload_n 2, 1) := by decide +kernel
theorem dX9_weight_67 : decode cX9_weight 67 = .ok (.invokevirtual 273, 3) := by decide +kernel
theorem dX9_weight_70 : decode cX9_weight 70 = .ok (.ireturn, 1) := by decide +kernel
theorem dX9_weight_71 : decode cX9_weight 71 = .ok (.aload_n 0, 1) := by decide +kernel
theorem dX9_weight_72 : decode cX9_weight 72 = .ok (.invokevirtual 276, 3) := by decide +kernel
theorem dX9_weight_75 : decode cX9_weight 75 = .ok (.ireturn, 1) := by decide +kernel
theorem dX9_weight_76 : decode cX9_weight 76 = .ok (.aload_n 0, 1) := by decide +kernel
theorem dX9_weight_77 : decode cX9_weight 77 = .ok (.iload_n 2, 1) := by decide +kernel
theorem dX9_weight_78 : decode cX9_weight 78 = .ok (.invokevirtual 279, 3) := by decide +kernel
theorem dX9_weight_81 : decode cX9_weight 81 = .ok (.ireturn, 1) := by decide +kernel
theorem dX9_weight_82 : decode cX9_weight 82 = .ok (.aload_n 0, 1) := by decide +kernel
theorem dX9_weight_83 : decode cX9_weight 83 = .ok (.invokevirtual 282, 3) := by decide +kernel
theorem dX9_weight_86 : decode cX9_weight 86 = .ok (.ireturn, 1) := by decide +kernel
theorem dX9_weight_87 : decode cX9_weight 87 = .ok (.aload_n 0, 1) := by decide +kernel
theorem dX9_weight_88 : decode cX9_weight 88 = .ok (.iload_n 2, 1) := by decide +kernel
theorem dX9_weight_89 : decode cX9_weight 89 = .ok (.invokevirtual 285, 3) := by decide +kernel
theorem dX9_weight_92 : decode cX9_weight 92 = .ok (.ireturn, 1) := by decide +kernel
set_option maxRecDepth 20000 in
theorem ggX9_count_X2_lotsTaken : GoodIn wsX9_count wsX2_lotsTaken := goodIn_r _ [8, 9, 10, 26, 27, 28, 29, 30, 31] rfl (by decide +kernel)
set_option maxRecDepth 20000 in
theorem gX9_count_X2_lotsTaken : GoodIn wsX9_count (wsV RX9 158 RX2 yX2_lotsTaken wsX2_lotsTaken) := goodIn_app (goodIn_of _ (by decide +kernel)) ggX9_count_X2_lotsTaken
theorem dX9_count_0 : decode cX9_count 0 = .ok (.iload_n 1, 1) := by decide +kernel
theorem dX9_count_1 : decode cX9_count 1 = .ok (.tableswitch 123 0 7 #[47, 58, 69, 80, 91, 99, 107, 115], 47) := by decide +kernel
theorem dX9_count_48 : decode cX9_count 48 = .ok (.aload_n 0, 1) := by decide +kernel
theorem dX9_count_49 : decode cX9_count 49 = .ok (.getfield 19, 3) := by decide +kernel
theorem dX9_count_52 : decode cX9_count 52 = .ok (.getfield 85, 3) := by decide +kernel
theorem dX9_count_55 : decode cX9_count 55 = .ok (.getfield 88, 3) := by decide +kernel
theorem dX9_count_58 : decode cX9_count 58 = .ok (.ireturn, 1) := by decide +kernel
theorem dX9_count_59 : decode cX9_count 59 = .ok (.aload_n 0, 1) := by decide +kernel
theorem dX9_count_60 : decode cX9_count 60 = .ok (.getfield 19, 3) := by decide +kernel
theorem dX9_count_63 : decode cX9_count 63 = .ok (.getfield 85, 3) := by decide +kernel
theorem dX9_count_66 : decode cX9_count 66 = .ok (.getfield 108, 3) := by decide +kernel
theorem dX9_count_69 : decode cX9_count 69 = .ok (.ireturn, 1) := by decide +kernel
theorem dX9_count_70 : decode cX9_count 70 = .ok (.aload_n 0, 1) := by decide +kernel
theorem dX9_count_71 : decode cX9_count 71 = .ok (.getfield 19, 3) := by decide +kernel
theorem dX9_count_74 : decode cX9_count 74 = .ok (.getfield 85, 3) := by decide +kernel
theorem dX9_count_77 : decode cX9_count 77 = .ok (.getfield 194, 3) := by decide +kernel
theorem dX9_count_80 : decode cX9_count 80 = .ok (.ireturn, 1) := by decide +kernel
theorem dX9_count_81 : decode cX9_count 81 = .ok (.aload_n 0, 1) := by decide +kernel
theorem dX9_count_82 : decode cX9_count 82 = .ok (.getfield 19, 3) := by decide +kernel
theorem dX9_count_85 : decode cX9_count 85 = .ok (.getfield 85, 3) := by decide +kernel
theorem dX9_count_88 : decode cX9_count 88 = .ok (.invokevirtual 158, 3) := by decide +kernel
theorem dX9_count_91 : decode cX9_count 91 = .ok (.ireturn, 1) := by decide +kernel
theorem dX9_count_92 : decode cX9_count 92 = .ok (.aload_n 0, 1) := by decide +kernel
theorem dX9_count_93 : decode cX9_count 93 = .ok (.getfield 19, 3) := by decide +kernel
theorem dX9_count_96 : decode cX9_count 96 = .ok (.getfield 124, 3) := by decide +kernel
theorem dX9_count_99 : decode cX9_count 99 = .ok (.ireturn, 1) := by decide +kernel
theorem dX9_count_100 : decode cX9_count 100 = .ok (.aload_n 0, 1) := by decide +kernel
theorem dX9_count_101 : decode cX9_count 101 = .ok (.getfield 54, 3) := by decide +kernel
theorem dX9_count_104 : decode cX9_count 104 = .ok (.getfield 249, 3) := by decide +kernel
theorem dX9_count_107 : decode cX9_count 107 = .ok (.ireturn, 1) := by decide +kernel
theorem dX9_count_108 : decode cX9_count 108 = .ok (.aload_n 0, 1) := by decide +kernel
theorem dX9_count_109 : decode cX9_count 109 = .ok (.getfield 10, 3) := by decide +kernel
theorem dX9_count_112 : decode cX9_count 112 = .ok (.getfield 65, 3) := by decide +kernel
theorem dX9_count_115 : decode cX9_count 115 = .ok (.ireturn, 1) := by decide +kernel
theorem dX9_count_116 : decode cX9_count 116 = .ok (.aload_n 0, 1) := by decide +kernel
theorem dX9_count_117 : decode cX9_count 117 = .ok (.getfield 54, 3) := by decide +kernel
theorem dX9_count_120 : decode cX9_count 120 = .ok (.getfield 256, 3) := by decide +kernel
theorem dX9_count_123 : decode cX9_count 123 = .ok (.ireturn, 1) := by decide +kernel
theorem dX9_count_124 : decode cX9_count 124 = .ok (.iconst (-1), 1) := by decide +kernel
theorem dX9_count_125 : decode cX9_count 125 = .ok (.ireturn, 1) := by decide +kernel
theorem dX9_trace_0 : decode cX9_trace 0 = .ok (.aload_n 0, 1) := by decide +kernel
theorem dX9_trace_1 : decode cX9_trace 1 = .ok (.getfield 288, 3) := by decide +kernel
theorem dX9_trace_4 : decode cX9_trace 4 = .ok (.lreturn, 1) := by decide +kernel
theorem dX9_shareWeight_0 : decode cX9_shareWeight 0 = .ok (.aload_n 0, 1) := by decide +kernel
theorem dX9_shareWeight_1 : decode cX9_shareWeight 1 = .ok (.dup, 1) := by decide +kernel
theorem dX9_shareWeight_2 : decode cX9_shareWeight 2 = .ok (.getfield 288, 3) := by decide +kernel
theorem dX9_shareWeight_5 : decode cX9_shareWeight 5 = .ok (.lconst 1, 1) := by decide +kernel
theorem dX9_shareWeight_6 : decode cX9_shareWeight 6 = .ok (.ladd, 1) := by decide +kernel
theorem dX9_shareWeight_7 : decode cX9_shareWeight 7 = .ok (.putfield 288, 3) := by decide +kernel
theorem dX9_shareWeight_10 : decode cX9_shareWeight 10 = .ok (.iconst 3, 1) := by decide +kernel
theorem dX9_shareWeight_11 : decode cX9_shareWeight 11 = .ok (.ireturn, 1) := by decide +kernel
set_option maxRecDepth 20000 in
theorem ggX9_sumWeight_X9_shareWeight : GoodIn wsX9_sumWeight wsX9_shareWeight := goodIn_r _ [8, 1, 21, 22, 23, 24, 25, 26, 27, 28, 29] rfl (by decide +kernel)
set_option maxRecDepth 20000 in
theorem gX9_sumWeight_X9_shareWeight : GoodIn wsX9_sumWeight (wsV RX9 270 RX9 yX9_shareWeight wsX9_shareWeight) := goodIn_app (goodIn_of _ (by decide +kernel)) ggX9_sumWeight_X9_shareWeight
set_option maxRecDepth 20000 in
theorem ggX9_sumWeight_X2_lotsOf : GoodIn wsX9_sumWeight wsX2_lotsOf := goodIn_r _ [13, 14, 15, 16, 12, 17, 18, 19, 7, 20, 36, 37, 38, 39, 40, 41] rfl (by decide +kernel)
set_option maxRecDepth 20000 in
theorem gX9_sumWeight_X2_lotsOf : GoodIn wsX9_sumWeight (wsV RX9 294 RX2 yX2_lotsOf wsX2_lotsOf) := goodIn_app (goodIn_of _ (by decide +kernel)) ggX9_sumWeight_X2_lotsOf
theorem dX9_sumWeight_0 : decode cX9_sumWeight 0 = .ok (.aload_n 0, 1) := by decide +kernel
theorem dX9_sumWeight_1 : decode cX9_sumWeight 1 = .ok (.dup, 1) := by decide +kernel
theorem dX9_sumWeight_2 : decode cX9_sumWeight 2 = .ok (.getfield 288, 3) := by decide +kernel
theorem dX9_sumWeight_5 : decode cX9_sumWeight 5 = .ok (.ldc2_w 292, 3) := by decide +kernel
theorem dX9_sumWeight_8 : decode cX9_sumWeight 8 = .ok (.ladd, 1) := by decide +kernel
theorem dX9_sumWeight_9 : decode cX9_sumWeight 9 = .ok (.putfield 288, 3) := by decide +kernel
theorem dX9_sumWeight_12 : decode cX9_sumWeight 12 = .ok (.aload_n 0, 1) := by decide +kernel
theorem dX9_sumWeight_13 : decode cX9_sumWeight 13 = .ok (.invokevirtual 270, 3) := by decide +kernel
theorem dX9_sumWeight_16 : decode cX9_sumWeight 16 = .ok (.aload_n 0, 1) := by decide +kernel
theorem dX9_sumWeight_17 : decode cX9_sumWeight 17 = .ok (.getfield 19, 3) := by decide +kernel
theorem dX9_sumWeight_20 : decode cX9_sumWeight 20 = .ok (.getfield 85, 3) := by decide +kernel
theorem dX9_sumWeight_23 : decode cX9_sumWeight 23 = .ok (.iload_n 1, 1) := by decide +kernel
theorem dX9_sumWeight_24 : decode cX9_sumWeight 24 = .ok (.invokevirtual 294, 3) := by decide +kernel
theorem dX9_sumWeight_27 : decode cX9_sumWeight 27 = .ok (.iadd, 1) := by decide +kernel
theorem dX9_sumWeight_28 : decode cX9_sumWeight 28 = .ok (.ireturn, 1) := by decide +kernel
set_option maxRecDepth 20000 in
theorem ggX9_curveWeight_X9_shareWeight : GoodIn wsX9_curveWeight wsX9_shareWeight := goodIn_r _ [8, 1, 9, 10, 11, 12, 13, 14, 15, 16, 17] rfl (by decide +kernel)
set_option maxRecDepth 20000 in
theorem gX9_curveWeight_X9_shareWeight : GoodIn wsX9_curveWeight (wsV RX9 270 RX9 yX9_shareWeight wsX9_shareWeight) := goodIn_app (goodIn_of _ (by decide +kernel)) ggX9_curveWeight_X9_shareWeight
theorem dX9_curveWeight_0 : decode cX9_curveWeight 0 = .ok (.aload_n 0, 1) := by decide +kernel
theorem dX9_curveWeight_1 : decode cX9_curveWeight 1 = .ok (.dup, 1) := by decide +kernel
theorem dX9_curveWeight_2 : decode cX9_curveWeight 2 = .ok (.getfield 288, 3) := by decide +kernel
theorem dX9_curveWeight_5 : decode cX9_curveWeight 5 = .ok (.ldc2_w 297, 3) := by decide +kernel
theorem dX9_curveWeight_8 : decode cX9_curveWeight 8 = .ok (.ladd, 1) := by decide +kernel
theorem dX9_curveWeight_9 : decode cX9_curveWeight 9 = .ok (.putfield 288, 3) := by decide +kernel
theorem dX9_curveWeight_12 : decode cX9_curveWeight 12 = .ok (.aload_n 0, 1) := by decide +kernel
theorem dX9_curveWeight_13 : decode cX9_curveWeight 13 = .ok (.invokevirtual 270, 3) := by decide +kernel
theorem dX9_curveWeight_16 : decode cX9_curveWeight 16 = .ok (.aload_n 0, 1) := by decide +kernel
theorem dX9_curveWeight_17 : decode cX9_curveWeight 17 = .ok (.getfield 47, 3) := by decide +kernel
theorem dX9_curveWeight_20 : decode cX9_curveWeight 20 = .ok (.getfield 213, 3) := by decide +kernel
theorem dX9_curveWeight_23 : decode cX9_curveWeight 23 = .ok (.iadd, 1) := by decide +kernel
theorem dX9_curveWeight_24 : decode cX9_curveWeight 24 = .ok (.ireturn, 1) := by decide +kernel
set_option maxRecDepth 20000 in
theorem ggX9_bitWeight_X9_sumWeight : GoodIn wsX9_bitWeight wsX9_sumWeight := goodIn_r _ [8, 1, 9, 3, 10, 11, 12, 7, 13, 14, 15, 16, 17, 18, 19, 20, 21, 22, 23, 24, 25, 26, 27, 28, 29, 30, 31, 32, 33, 34, 35, 36, 37, 38, 39, 40, 41, 42, 43, 44, 45, 46] rfl (by decide +kernel)
set_option maxRecDepth 20000 in
theorem gX9_bitWeight_X9_sumWeight : GoodIn wsX9_bitWeight (wsV RX9 273 RX9 yX9_sumWeight wsX9_sumWeight) := goodIn_app (goodIn_of _ (by decide +kernel)) ggX9_bitWeight_X9_sumWeight
theorem dX9_bitWeight_0 : decode cX9_bitWeight 0 = .ok (.aload_n 0, 1) := by decide +kernel
theorem dX9_bitWeight_1 : decode cX9_bitWeight 1 = .ok (.dup, 1) := by decide +kernel
theorem dX9_bitWeight_2 : decode cX9_bitWeight 2 = .ok (.getfield 288, 3) := by decide +kernel
theorem dX9_bitWeight_5 : decode cX9_bitWeight 5 = .ok (.ldc2_w 299, 3) := by decide +kernel
theorem dX9_bitWeight_8 : decode cX9_bitWeight 8 = .ok (.ladd, 1) := by decide +kernel
theorem dX9_bitWeight_9 : decode cX9_bitWeight 9 = .ok (.putfield 288, 3) := by decide +kernel
theorem dX9_bitWeight_12 : decode cX9_bitWeight 12 = .ok (.aload_n 0, 1) := by decide +kernel
theorem dX9_bitWeight_13 : decode cX9_bitWeight 13 = .ok (.iload_n 1, 1) := by decide +kernel
theorem dX9_bitWeight_14 : decode cX9_bitWeight 14 = .ok (.invokevirtual 273, 3) := by decide +kernel
theorem dX9_bitWeight_17 : decode cX9_bitWeight 17 = .ok (.aload_n 0, 1) := by decide +kernel
theorem dX9_bitWeight_18 : decode cX9_bitWeight 18 = .ok (.getfield 19, 3) := by decide +kernel
theorem dX9_bitWeight_21 : decode cX9_bitWeight 21 = .ok (.getfield 105, 3) := by decide +kernel
theorem dX9_bitWeight_24 : decode cX9_bitWeight 24 = .ok (.imul, 1) := by decide +kernel
theorem dX9_bitWeight_25 : decode cX9_bitWeight 25 = .ok (.ireturn, 1) := by decide +kernel
set_option maxRecDepth 20000 in
theorem ggX9_sealedWeight_X9_curveWeight : GoodIn wsX9_sealedWeight wsX9_curveWeight := goodIn_r _ [7, 1, 8, 9, 10, 11, 12, 6, 13, 14, 15, 16, 17, 18, 19, 20, 21, 22, 23, 24, 25, 26, 27, 28, 29, 30] rfl (by decide +kernel)
set_option maxRecDepth 20000 in
theorem gX9_sealedWeight_X9_curveWeight : GoodIn wsX9_sealedWeight (wsV RX9 276 RX9 yX9_curveWeight wsX9_curveWeight) := goodIn_app (goodIn_of _ (by decide +kernel)) ggX9_sealedWeight_X9_curveWeight
theorem dX9_sealedWeight_0 : decode cX9_sealedWeight 0 = .ok (.aload_n 0, 1) := by decide +kernel
theorem dX9_sealedWeight_1 : decode cX9_sealedWeight 1 = .ok (.dup, 1) := by decide +kernel
theorem dX9_sealedWeight_2 : decode cX9_sealedWeight 2 = .ok (.getfield 288, 3) := by decide +kernel
theorem dX9_sealedWeight_5 : decode cX9_sealedWeight 5 = .ok (.ldc2_w 301, 3) := by decide +kernel
theorem dX9_sealedWeight_8 : decode cX9_sealedWeight 8 = .ok (.ladd, 1) := by decide +kernel
theorem dX9_sealedWeight_9 : decode cX9_sealedWeight 9 = .ok (.putfield 288, 3) := by decide +kernel
theorem dX9_sealedWeight_12 : decode cX9_sealedWeight 12 = .ok (.iconst 2, 1) := by decide +kernel
theorem dX9_sealedWeight_13 : decode cX9_sealedWeight 13 = .ok (.aload_n 0, 1) := by decide +kernel
theorem dX9_sealedWeight_14 : decode cX9_sealedWeight 14 = .ok (.invokevirtual 276, 3) := by decide +kernel
theorem dX9_sealedWeight_17 : decode cX9_sealedWeight 17 = .ok (.imul, 1) := by decide +kernel
theorem dX9_sealedWeight_18 : decode cX9_sealedWeight 18 = .ok (.ireturn, 1) := by decide +kernel
set_option maxRecDepth 20000 in
theorem ggX9_openedWeight_X9_shareWeight : GoodIn wsX9_openedWeight wsX9_shareWeight := goodIn_r _ [8, 1, 21, 22, 23, 24, 25, 26, 27, 28, 29] rfl (by decide +kernel)
set_option maxRecDepth 20000 in
theorem gX9_openedWeight_X9_shareWeight : GoodIn wsX9_openedWeight (wsV RX9 270 RX9 yX9_shareWeight wsX9_shareWeight) := goodIn_app (goodIn_of _ (by decide +kernel)) ggX9_openedWeight_X9_shareWeight
set_option maxRecDepth 20000 in
theorem ggX9_openedWeight_X2_seenOf : GoodIn wsX9_openedWeight wsX2_seenOf := goodIn_r _ [13, 14, 15, 16, 12, 17, 18, 19, 7, 20, 36, 37, 38, 39, 40, 41] rfl (by decide +kernel)
set_option maxRecDepth 20000 in
theorem gX9_openedWeight_X2_seenOf : GoodIn wsX9_openedWeight (wsV RX9 305 RX2 yX2_seenOf wsX2_seenOf) := goodIn_app (goodIn_of _ (by decide +kernel)) ggX9_openedWeight_X2_seenOf
theorem dX9_openedWeight_0 : decode cX9_openedWeight 0 = .ok (.aload_n 0, 1) := by decide +kernel
theorem dX9_openedWeight_1 : decode cX9_openedWeight 1 = .ok (.dup, 1) := by decide +kernel
theorem dX9_openedWeight_2 : decode cX9_openedWeight 2 = .ok (.getfield 288, 3) := by decide +kernel
theorem dX9_openedWeight_5 : decode cX9_openedWeight 5 = .ok (.ldc2_w 303, 3) := by decide +kernel
theorem dX9_openedWeight_8 : decode cX9_openedWeight 8 = .ok (.ladd, 1) := by decide +kernel
theorem dX9_openedWeight_9 : decode cX9_openedWeight 9 = .ok (.putfield 288, 3) := by decide +kernel
theorem dX9_openedWeight_12 : decode cX9_openedWeight 12 = .ok (.aload_n 0, 1) := by decide +kernel
theorem dX9_openedWeight_13 : decode cX9_openedWeight 13 = .ok (.invokevirtual 270, 3) := by decide +kernel
theorem dX9_openedWeight_16 : decode cX9_openedWeight 16 = .ok (.aload_n 0, 1) := by decide +kernel
theorem dX9_openedWeight_17 : decode cX9_openedWeight 17 = .ok (.getfield 19, 3) := by decide +kernel
theorem dX9_openedWeight_20 : decode cX9_openedWeight 20 = .ok (.getfield 85, 3) := by decide +kernel
theorem dX9_openedWeight_23 : decode cX9_openedWeight 23 = .ok (.iload_n 1, 1) := by decide +kernel
theorem dX9_openedWeight_24 : decode cX9_openedWeight 24 = .ok (.iconst 0, 1) := by decide +kernel
theorem dX9_openedWeight_25 : decode cX9_openedWeight 25 = .ok (.invokevirtual 305, 3) := by decide +kernel
theorem dX9_openedWeight_28 : decode cX9_openedWeight 28 = .ok (.iadd, 1) := by decide +kernel
theorem dX9_openedWeight_29 : decode cX9_openedWeight 29 = .ok (.ireturn, 1) := by decide +kernel
theorem dX9_within_0 : decode cX9_within 0 = .ok (.iload_n 0, 1) := by decide +kernel
theorem dX9_within_1 : decode cX9_within 1 = .ok (.iload_n 1, 1) := by decide +kernel
theorem dX9_within_2 : decode cX9_within 2 = .ok (.if_icmp .lt 12, 3) := by decide +kernel
theorem dX9_within_5 : decode cX9_within 5 = .ok (.iload_n 0, 1) := by decide +kernel
theorem dX9_within_6 : decode cX9_within 6 = .ok (.iload_n 2, 1) := by decide +kernel
theorem dX9_within_7 : decode cX9_within 7 = .ok (.if_icmp .gt 7, 3) := by decide +kernel
theorem dX9_within_10 : decode cX9_within 10 = .ok (.iconst 1, 1) := by decide +kernel
theorem dX9_within_11 : decode cX9_within 11 = .ok (.goto 4, 3) := by decide +kernel
theorem dX9_within_14 : decode cX9_within 14 = .ok (.iconst 0, 1) := by decide +kernel
theorem dX9_within_15 : decode cX9_within 15 = .ok (.ireturn, 1) := by decide +kernel
set_option maxRecDepth 20000 in
theorem ggX9_isHand_X9_within : GoodIn wsX9_isHand wsX9_within := goodIn_r _ [4] rfl (by decide +kernel)
set_option maxRecDepth 20000 in
theorem gX9_isHand_X9_within : GoodIn wsX9_isHand (va_wsS RX9 97 yX9_within wsX9_within) := goodIn_app (goodIn_of _ (by decide +kernel)) ggX9_isHand_X9_within
theorem dX9_isHand_0 : decode cX9_isHand 0 = .ok (.iload_n 0, 1) := by decide +kernel
theorem dX9_isHand_1 : decode cX9_isHand 1 = .ok (.iconst 0, 1) := by decide +kernel
theorem dX9_isHand_2 : decode cX9_isHand 2 = .ok (.iconst 2, 1) := by decide +kernel
theorem dX9_isHand_3 : decode cX9_isHand 3 = .ok (.invokestatic 97, 3) := by decide +kernel
theorem dX9_isHand_6 : decode cX9_isHand 6 = .ok (.ireturn, 1) := by decide +kernel
theorem dX9_at_0 : decode cX9_at 0 = .ok (.aload_n 0, 1) := by decide +kernel
theorem dX9_at_1 : decode cX9_at 1 = .ok (.ifnull 19, 3) := by decide +kernel
theorem dX9_at_4 : decode cX9_at 4 = .ok (.iload_n 1, 1) := by decide +kernel
theorem dX9_at_5 : decode cX9_at 5 = .ok (.ifCond .lt 15, 3) := by decide +kernel
theorem dX9_at_8 : decode cX9_at 8 = .ok (.iload_n 1, 1) := by decide +kernel
theorem dX9_at_9 : decode cX9_at 9 = .ok (.aload_n 0, 1) := by decide +kernel
theorem dX9_at_10 : decode cX9_at 10 = .ok (.arraylength, 1) := by decide +kernel
theorem dX9_at_11 : decode cX9_at 11 = .ok (.if_icmp .ge 9, 3) := by decide +kernel
theorem dX9_at_14 : decode cX9_at 14 = .ok (.aload_n 0, 1) := by decide +kernel
theorem dX9_at_15 : decode cX9_at 15 = .ok (.iload_n 1, 1) := by decide +kernel
theorem dX9_at_16 : decode cX9_at 16 = .ok (.iaload, 1) := by decide +kernel
theorem dX9_at_17 : decode cX9_at 17 = .ok (.goto 4, 3) := by decide +kernel
theorem dX9_at_20 : decode cX9_at 20 = .ok (.iconst 0, 1) := by decide +kernel
theorem dX9_at_21 : decode cX9_at 21 = .ok (.ireturn, 1) := by decide +kernel
theorem dX9_put_0 : decode cX9_put 0 = .ok (.aload_n 0, 1) := by decide +kernel
theorem dX9_put_1 : decode cX9_put 1 = .ok (.ifnull 17, 3) := by decide +kernel
theorem dX9_put_4 : decode cX9_put 4 = .ok (.iload_n 1, 1) := by decide +kernel
theorem dX9_put_5 : decode cX9_put 5 = .ok (.ifCond .lt 13, 3) := by decide +kernel
theorem dX9_put_8 : decode cX9_put 8 = .ok (.iload_n 1, 1) := by decide +kernel
theorem dX9_put_9 : decode cX9_put 9 = .ok (.aload_n 0, 1) := by decide +kernel
theorem dX9_put_10 : decode cX9_put 10 = .ok (.arraylength, 1) := by decide +kernel
theorem dX9_put_11 : decode cX9_put 11 = .ok (.if_icmp .ge 7, 3) := by decide +kernel
theorem dX9_put_14 : decode cX9_put 14 = .ok (.aload_n 0, 1) := by decide +kernel
theorem dX9_put_15 : decode cX9_put 15 = .ok (.iload_n 1, 1) := by decide +kernel
theorem dX9_put_16 : decode cX9_put 16 = .ok (.iload_n 2, 1) := by decide +kernel
theorem dX9_put_17 : decode cX9_put 17 = .ok (.iastore, 1) := by decide +kernel
theorem dX9_put_18 : decode cX9_put 18 = .ok (.return_, 1) := by decide +kernel
set_option maxRecDepth 20000 in
theorem ggX9_swap_X9_at : GoodIn wsX9_swap wsX9_at := goodIn_r _ [4] rfl (by decide +kernel)
set_option maxRecDepth 20000 in
theorem gX9_swap_X9_at : GoodIn wsX9_swap (va_wsS RX9 145 yX9_at wsX9_at) := goodIn_app (goodIn_of _ (by decide +kernel)) ggX9_swap_X9_at
set_option maxRecDepth 20000 in
theorem ggX9_swap_X9_put : GoodIn wsX9_swap wsX9_put := goodIn_r _ [7] rfl (by decide +kernel)
set_option maxRecDepth 20000 in
theorem gX9_swap_X9_put : GoodIn wsX9_swap (va_wsS RX9 308 yX9_put wsX9_put) := goodIn_app (goodIn_of _ (by decide +kernel)) ggX9_swap_X9_put
theorem dX9_swap_0 : decode cX9_swap 0 = .ok (.aload_n 0, 1) := by decide +kernel
theorem dX9_swap_1 : decode cX9_swap 1 = .ok (.iload_n 1, 1) := by decide +kernel
theorem dX9_swap_2 : decode cX9_swap 2 = .ok (.invokestatic 145, 3) := by decide +kernel
theorem dX9_swap_5 : decode cX9_swap 5 = .ok (.istore_n 3, 1) := by decide +kernel
theorem dX9_swap_6 : decode cX9_swap 6 = .ok (.aload_n 0, 1) := by decide +kernel
theorem dX9_swap_7 : decode cX9_swap 7 = .ok (.iload_n 1, 1) := by decide +kernel
theorem dX9_swap_8 : decode cX9_swap 8 = .ok (.iload_n 2, 1) := by decide +kernel
theorem dX9_swap_9 : decode cX9_swap 9 = .ok (.invokestatic 308, 3) := by decide +kernel
theorem dX9_swap_12 : decode cX9_swap 12 = .ok (.iload_n 3, 1) := by decide +kernel
theorem dX9_swap_13 : decode cX9_swap 13 = .ok (.ireturn, 1) := by decide +kernel
set_option maxRecDepth 20000 in
theorem ggX9_wipe_J7_fill_53178 : GoodIn wsX9_wipe wsJ7_fill_53178 := goodIn_r _ [4] rfl (by decide +kernel)
set_option maxRecDepth 20000 in
theorem gX9_wipe_J7_fill_53178 : GoodIn wsX9_wipe (va_wsS RX9 312 yJ7_fill_53178 wsJ7_fill_53178) := goodIn_app (goodIn_of _ (by decide +kernel)) ggX9_wipe_J7_fill_53178
theorem dX9_wipe_0 : decode cX9_wipe 0 = .ok (.aload_n 0, 1) := by decide +kernel
theorem dX9_wipe_1 : decode cX9_wipe 1 = .ok (.ifnull 8, 3) := by decide +kernel
theorem dX9_wipe_4 : decode cX9_wipe 4 = .ok (.aload_n 0, 1) := by decide +kernel
theorem dX9_wipe_5 : decode cX9_wipe 5 = .ok (.iconst 0, 1) := by decide +kernel
theorem dX9_wipe_6 : decode cX9_wipe 6 = .ok (.invokestatic 312, 3) := by decide +kernel
theorem dX9_wipe_9 : decode cX9_wipe 9 = .ok (.return_, 1) := by decide +kernel
theorem dX9_mod_0 : decode cX9_mod 0 = .ok (.iload_n 1, 1) := by decide +kernel
theorem dX9_mod_1 : decode cX9_mod 1 = .ok (.iconst 1, 1) := by decide +kernel
theorem dX9_mod_2 : decode cX9_mod 2 = .ok (.if_icmp .ge 5, 3) := by decide +kernel
theorem dX9_mod_5 : decode cX9_mod 5 = .ok (.iconst 0, 1) := by decide +kernel
theorem dX9_mod_6 : decode cX9_mod 6 = .ok (.ireturn, 1) := by decide +kernel
theorem dX9_mod_7 : decode cX9_mod 7 = .ok (.iload_n 0, 1) := by decide +kernel
theorem dX9_mod_8 : decode cX9_mod 8 = .ok (.iload_n 1, 1) := by decide +kernel
theorem dX9_mod_9 : decode cX9_mod 9 = .ok (.irem, 1) := by decide +kernel
theorem dX9_mod_10 : decode cX9_mod 10 = .ok (.istore_n 2, 1) := by decide +kernel
theorem dX9_mod_11 : decode cX9_mod 11 = .ok (.iload_n 2, 1) := by decide +kernel
theorem dX9_mod_12 : decode cX9_mod 12 = .ok (.ifCond .ge 9, 3) := by decide +kernel
theorem dX9_mod_15 : decode cX9_mod 15 = .ok (.iload_n 2, 1) := by decide +kernel
theorem dX9_mod_16 : decode cX9_mod 16 = .ok (.iload_n 1, 1) := by decide +kernel
theorem dX9_mod_17 : decode cX9_mod 17 = .ok (.iadd, 1) := by decide +kernel
theorem dX9_mod_18 : decode cX9_mod 18 = .ok (.goto 4, 3) := by decide +kernel
theorem dX9_mod_21 : decode cX9_mod 21 = .ok (.iload_n 2, 1) := by decide +kernel
theorem dX9_mod_22 : decode cX9_mod 22 = .ok (.ireturn, 1) := by decide +kernel
theorem dX9_waysOf_0 : decode cX9_waysOf 0 = .ok (.iconst 1, 1) := by decide +kernel
theorem dX9_waysOf_1 : decode cX9_waysOf 1 = .ok (.istore_n 2, 1) := by decide +kernel
theorem dX9_waysOf_2 : decode cX9_waysOf 2 = .ok (.iconst 0, 1) := by decide +kernel
theorem dX9_waysOf_3 : decode cX9_waysOf 3 = .ok (.istore_n 3, 1) := by decide +kernel
theorem dX9_waysOf_4 : decode cX9_waysOf 4 = .ok (.iload_n 3, 1) := by decide +kernel
theorem dX9_waysOf_5 : decode cX9_waysOf 5 = .ok (.iload_n 1, 1) := by decide +kernel
theorem dX9_waysOf_6 : decode cX9_waysOf 6 = .ok (.if_icmp .ge 20, 3) := by decide +kernel
theorem dX9_waysOf_9 : decode cX9_waysOf 9 = .ok (.iload_n 2, 1) := by decide +kernel
theorem dX9_waysOf_10 : decode cX9_waysOf 10 = .ok (.sipush 4096, 3) := by decide +kernel
theorem dX9_waysOf_13 : decode cX9_waysOf 13 = .ok (.if_icmp .gt 13, 3) := by decide +kernel
theorem dX9_waysOf_16 : decode cX9_waysOf 16 = .ok (.iload_n 2, 1) := by decide +kernel
theorem dX9_waysOf_17 : decode cX9_waysOf 17 = .ok (.iload_n 0, 1) := by decide +kernel
theorem dX9_waysOf_18 : decode cX9_waysOf 18 = .ok (.imul, 1) := by decide +kernel
theorem dX9_waysOf_19 : decode cX9_waysOf 19 = .ok (.istore_n 2, 1) := by decide +kernel
theorem dX9_waysOf_20 : decode cX9_waysOf 20 = .ok (.iinc 3 1, 3) := by decide +kernel
theorem dX9_waysOf_23 : decode cX9_waysOf 23 = .ok (.goto (-19), 3) := by decide +kernel
theorem dX9_waysOf_26 : decode cX9_waysOf 26 = .ok (.iload_n 2, 1) := by decide +kernel
theorem dX9_waysOf_27 : decode cX9_waysOf 27 = .ok (.ireturn, 1) := by decide +kernel

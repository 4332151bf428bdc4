set_option maxRecDepth 20000 in
theorem ggX9_init_X7_init : GoodIn wsX9_init wsX7_init := goodIn_r _ [37, 38, 2, 3, 39, 40, 117, 118] rfl (by decide +kernel)
set_option maxRecDepth 20000 in
theorem gX9_init_X7_init_n9 : GoodIn wsX9_init (wsX7_init) := ggX9_init_X7_init
set_option maxRecDepth 20000 in
theorem ggX9_init_X6_init : GoodIn wsX9_init wsX6_init := goodIn_r _ [43, 44, 2, 3, 45, 46, 47, 48, 49, 50, 51, 52, 53, 54, 55, 56, 57, 58, 59, 60, 61, 62, 63, 64, 65, 66, 67, 68, 69, 70, 71, 72, 73, 74, 75, 76, 77, 78, 79, 169, 170, 171, 172, 173, 174, 128, 129, 130, 131, 132, 133] rfl (by decide +kernel)
set_option maxRecDepth 20000 in
theorem gX9_init_X6_init : GoodIn wsX9_init (wsX6_init) := ggX9_init_X6_init
set_option maxRecDepth 20000 in
theorem ggX9_init_X3_init : GoodIn wsX9_init wsX3_init := goodIn_r _ [81, 82, 2, 3, 83, 46, 47, 84, 54, 55, 56, 49, 57, 58, 169, 170, 171, 172, 173, 174, 134, 135, 136, 137, 138] rfl (by decide +kernel)
set_option maxRecDepth 20000 in
theorem gX9_init_X3_init_n25 : GoodIn wsX9_init (wsX3_init) := ggX9_init_X3_init
set_option maxRecDepth 20000 in
theorem ggX9_init_X4_init : GoodIn wsX9_init wsX4_init := goodIn_r _ [86, 87, 2, 3, 49, 88, 89, 90, 91, 92, 93, 94, 139, 140, 141, 142, 143, 144, 145, 146, 147, 148, 149, 150, 151] rfl (by decide +kernel)
set_option maxRecDepth 20000 in
theorem gX9_init_X4_init_n32 : GoodIn wsX9_init (wsX4_init) := ggX9_init_X4_init
set_option maxRecDepth 20000 in
theorem ggX9_init_X8_init : GoodIn wsX9_init wsX8_init := goodIn_r _ [96, 97, 2, 3, 49, 98, 99, 152, 153] rfl (by decide +kernel)
set_option maxRecDepth 20000 in
theorem gX9_init_X8_init_n39 : GoodIn wsX9_init (wsX8_init) := ggX9_init_X8_init
set_option maxRecDepth 20000 in
theorem ggX9_init_X0_init : GoodIn wsX9_init wsX0_init := goodIn_r _ [101, 102, 2, 3, 49, 103, 104, 105, 106, 107, 154, 155, 156, 157, 158, 159, 160, 161] rfl (by decide +kernel)
set_option maxRecDepth 20000 in
theorem gX9_init_X0_init_n46 : GoodIn wsX9_init (wsX0_init) := ggX9_init_X0_init
set_option maxRecDepth 20000 in
theorem ggX9_init_X1_init : GoodIn wsX9_init wsX1_init := goodIn_r _ [109, 110, 2, 3] rfl (by decide +kernel)
set_option maxRecDepth 20000 in
theorem gX9_init_X1_init_n53 : GoodIn wsX9_init (wsX1_init) := ggX9_init_X1_init
set_option maxRecDepth 20000 in
theorem ggX9_init_X5_init : GoodIn wsX9_init wsX5_init := goodIn_r _ [112, 113, 2, 3, 114, 115, 49, 116, 166, 167, 168] rfl (by decide +kernel)
set_option maxRecDepth 20000 in
theorem gX9_init_X5_init_n60 : GoodIn wsX9_init (wsX5_init) := ggX9_init_X5_init
theorem dX9_init_0 : decode cX9_init 0 = .ok (.aload_n 0, 1) := by decide +kernel
theorem dX9_init_1 : decode cX9_init 1 = .ok (.invokespecial 1, 3) := by decide +kernel
theorem dX9_init_4 : decode cX9_init 4 = .ok (.aload_n 0, 1) := by decide +kernel
theorem dX9_init_5 : decode cX9_init 5 = .ok (.new 7, 3) := by decide +kernel
theorem dX9_init_8 : decode cX9_init 8 = .ok (.dup, 1) := by decide +kernel
theorem dX9_init_9 : decode cX9_init 9 = .ok (.invokespecial 9, 3) := by decide +kernel
theorem dX9_init_12 : decode cX9_init 12 = .ok (.putfield 10, 3) := by decide +kernel
theorem dX9_init_15 : decode cX9_init 15 = .ok (.aload_n 0, 1) := by decide +kernel
theorem dX9_init_16 : decode cX9_init 16 = .ok (.new 16, 3) := by decide +kernel
theorem dX9_init_19 : decode cX9_init 19 = .ok (.dup, 1) := by decide +kernel
theorem dX9_init_20 : decode cX9_init 20 = .ok (.invokespecial 18, 3) := by decide +kernel
theorem dX9_init_23 : decode cX9_init 23 = .ok (.putfield 19, 3) := by decide +kernel
theorem dX9_init_26 : decode cX9_init 26 = .ok (.aload_n 0, 1) := by decide +kernel
theorem dX9_init_27 : decode cX9_init 27 = .ok (.new 23, 3) := by decide +kernel
theorem dX9_init_30 : decode cX9_init 30 = .ok (.dup, 1) := by decide +kernel
theorem dX9_init_31 : decode cX9_init 31 = .ok (.invokespecial 25, 3) := by decide +kernel
theorem dX9_init_34 : decode cX9_init 34 = .ok (.putfield 26, 3) := by decide +kernel
theorem dX9_init_37 : decode cX9_init 37 = .ok (.aload_n 0, 1) := by decide +kernel
theorem dX9_init_38 : decode cX9_init 38 = .ok (.new 30, 3) := by decide +kernel
theorem dX9_init_41 : decode cX9_init 41 = .ok (.dup, 1) := by decide +kernel
theorem dX9_init_42 : decode cX9_init 42 = .ok (.invokespecial 32, 3) := by decide +kernel
theorem dX9_init_45 : decode cX9_init 45 = .ok (.putfield 33, 3) := by decide +kernel
theorem dX9_init_48 : decode cX9_init 48 = .ok (.aload_n 0, 1) := by decide +kernel
theorem dX9_init_49 : decode cX9_init 49 = .ok (.new 37, 3) := by decide +kernel
theorem dX9_init_52 : decode cX9_init 52 = .ok (.dup, 1) := by decide +kernel
theorem dX9_init_53 : decode cX9_init 53 = .ok (.invokespecial 39, 3) := by decide +kernel
theorem dX9_init_56 : decode cX9_init 56 = .ok (.putfield 40, 3) := by decide +kernel
theorem dX9_init_59 : decode cX9_init 59 = .ok (.aload_n 0, 1) := by decide +kernel
theorem dX9_init_60 : decode cX9_init 60 = .ok (.new 44, 3) := by decide +kernel
theorem dX9_init_63 : decode cX9_init 63 = .ok (.dup, 1) := by decide +kernel
theorem dX9_init_64 : decode cX9_init 64 = .ok (.invokespecial 46, 3) := by decide +kernel
theorem dX9_init_67 : decode cX9_init 67 = .ok (.putfield 47, 3) := by decide +kernel
theorem dX9_init_70 : decode cX9_init 70 = .ok (.aload_n 0, 1) := by decide +kernel
theorem dX9_init_71 : decode cX9_init 71 = .ok (.new 51, 3) := by decide +kernel
theorem dX9_init_74 : decode cX9_init 74 = .ok (.dup, 1) := by decide +kernel
theorem dX9_init_75 : decode cX9_init 75 = .ok (.invokespecial 53, 3) := by decide +kernel
theorem dX9_init_78 : decode cX9_init 78 = .ok (.putfield 54, 3) := by decide +kernel
theorem dX9_init_81 : decode cX9_init 81 = .ok (.aload_n 0, 1) := by decide +kernel
theorem dX9_init_82 : decode cX9_init 82 = .ok (.new 58, 3) := by decide +kernel
theorem dX9_init_85 : decode cX9_init 85 = .ok (.dup, 1) := by decide +kernel
theorem dX9_init_86 : decode cX9_init 86 = .ok (.invokespecial 60, 3) := by decide +kernel
theorem dX9_init_89 : decode cX9_init 89 = .ok (.putfield 61, 3) := by decide +kernel
theorem dX9_init_92 : decode cX9_init 92 = .ok (.return_, 1) := by decide +kernel
set_option maxRecDepth 20000 in
theorem ggX9_type_X7_take : GoodIn wsX9_type wsX7_take := goodIn_r _ [6, 7, 8, 18, 19] rfl (by decide +kernel)
set_option maxRecDepth 20000 in
theorem gX9_type_X7_take : GoodIn wsX9_type (wsV RX9 69 RX7 yX7_take wsX7_take) := goodIn_app (goodIn_of _ (by decide +kernel)) ggX9_type_X7_take
theorem dX9_type_0 : decode cX9_type 0 = .ok (.iload_n 3, 1) := by decide +kernel
theorem dX9_type_1 : decode cX9_type 1 = .ok (.iconst 1, 1) := by decide +kernel
theorem dX9_type_2 : decode cX9_type 2 = .ok (.if_icmp .lt 9, 3) := by decide +kernel
theorem dX9_type_5 : decode cX9_type 5 = .ok (.iload_n 3, 1) := by decide +kernel
theorem dX9_type_6 : decode cX9_type 6 = .ok (.bipush 8, 2) := by decide +kernel
theorem dX9_type_8 : decode cX9_type 8 = .ok (.if_icmp .le 5, 3) := by decide +kernel
theorem dX9_type_11 : decode cX9_type 11 = .ok (.iconst (-1), 1) := by decide +kernel
theorem dX9_type_12 : decode cX9_type 12 = .ok (.ireturn, 1) := by decide +kernel
theorem dX9_type_13 : decode cX9_type 13 = .ok (.aload_n 0, 1) := by decide +kernel
theorem dX9_type_14 : decode cX9_type 14 = .ok (.getfield 10, 3) := by decide +kernel
theorem dX9_type_17 : decode cX9_type 17 = .ok (.getfield 65, 3) := by decide +kernel
theorem dX9_type_20 : decode cX9_type 20 = .ok (.iload_n 3, 1) := by decide +kernel
theorem dX9_type_21 : decode cX9_type 21 = .ok (.iadd, 1) := by decide +kernel
theorem dX9_type_22 : decode cX9_type 22 = .ok (.sipush 300, 3) := by decide +kernel
theorem dX9_type_25 : decode cX9_type 25 = .ok (.if_icmp .le 6, 3) := by decide +kernel
theorem dX9_type_28 : decode cX9_type 28 = .ok (.bipush (-3), 2) := by decide +kernel
theorem dX9_type_30 : decode cX9_type 30 = .ok (.ireturn, 1) := by decide +kernel
theorem dX9_type_31 : decode cX9_type 31 = .ok (.iload_n 3, 1) := by decide +kernel
theorem dX9_type_32 : decode cX9_type 32 = .ok (.iconst 1, 1) := by decide +kernel
theorem dX9_type_33 : decode cX9_type 33 = .ok (.isub, 1) := by decide +kernel
theorem dX9_type_34 : decode cX9_type 34 = .ok (.istore 4, 2) := by decide +kernel
theorem dX9_type_36 : decode cX9_type 36 = .ok (.iload 4, 2) := by decide +kernel
theorem dX9_type_38 : decode cX9_type 38 = .ok (.ifCond .lt 28, 3) := by decide +kernel
theorem dX9_type_41 : decode cX9_type 41 = .ok (.aload_n 0, 1) := by decide +kernel
theorem dX9_type_42 : decode cX9_type 42 = .ok (.getfield 10, 3) := by decide +kernel
theorem dX9_type_45 : decode cX9_type 45 = .ok (.lload_n 1, 1) := by decide +kernel
theorem dX9_type_46 : decode cX9_type 46 = .ok (.bipush 8, 2) := by decide +kernel
theorem dX9_type_48 : decode cX9_type 48 = .ok (.iload 4, 2) := by decide +kernel
theorem dX9_type_50 : decode cX9_type 50 = .ok (.imul, 1) := by decide +kernel
theorem dX9_type_51 : decode cX9_type 51 = .ok (.lushr, 1) := by decide +kernel
theorem dX9_type_52 : decode cX9_type 52 = .ok (.l2i, 1) := by decide +kernel
theorem dX9_type_53 : decode cX9_type 53 = .ok (.sipush 255, 3) := by decide +kernel
theorem dX9_type_56 : decode cX9_type 56 = .ok (.iand, 1) := by decide +kernel
theorem dX9_type_57 : decode cX9_type 57 = .ok (.invokevirtual 69, 3) := by decide +kernel
theorem dX9_type_60 : decode cX9_type 60 = .ok (.iinc 4 (-1), 3) := by decide +kernel
theorem dX9_type_63 : decode cX9_type 63 = .ok (.goto (-27), 3) := by decide +kernel
theorem dX9_type_66 : decode cX9_type 66 = .ok (.aload_n 0, 1) := by decide +kernel
theorem dX9_type_67 : decode cX9_type 67 = .ok (.getfield 10, 3) := by decide +kernel
theorem dX9_type_70 : decode cX9_type 70 = .ok (.getfield 65, 3) := by decide +kernel
theorem dX9_type_73 : decode cX9_type 73 = .ok (.ireturn, 1) := by decide +kernel
theorem dX9_clear_0 : decode cX9_clear 0 = .ok (.aload_n 0, 1) := by decide +kernel
theorem dX9_clear_1 : decode cX9_clear 1 = .ok (.getfield 10, 3) := by decide +kernel
theorem dX9_clear_4 : decode cX9_clear 4 = .ok (.getfield 65, 3) := by decide +kernel
theorem dX9_clear_7 : decode cX9_clear 7 = .ok (.istore_n 1, 1) := by decide +kernel
theorem dX9_clear_8 : decode cX9_clear 8 = .ok (.aload_n 0, 1) := by decide +kernel
theorem dX9_clear_9 : decode cX9_clear 9 = .ok (.getfield 10, 3) := by decide +kernel
theorem dX9_clear_12 : decode cX9_clear 12 = .ok (.iconst 0, 1) := by decide +kernel
theorem dX9_clear_13 : decode cX9_clear 13 = .ok (.putfield 65, 3) := by decide +kernel
theorem dX9_clear_16 : decode cX9_clear 16 = .ok (.iload_n 1, 1) := by decide +kernel
theorem dX9_clear_17 : decode cX9_clear 17 = .ok (.ireturn, 1) := by decide +kernel
set_option maxRecDepth 20000 in
theorem ggX9_program_X3_faultOf : GoodIn wsX9_program wsX3_faultOf := goodIn_r _ [8, 9, 10, 11, 12, 13, 14, 15, 16, 17, 18, 19, 20, 21, 22, 23, 24, 7, 25, 26, 27, 28, 29, 30, 31, 32, 33, 34, 35, 36, 37, 38, 39, 40, 41, 42, 43, 44, 45, 46, 47, 48, 49, 50, 51, 52, 53, 54, 55, 56, 57, 58, 59, 60, 61, 62, 63, 64, 65, 66, 67, 68, 69, 70, 71, 72, 73, 74, 75, 76, 77, 78, 79, 80, 81, 82, 83, 84, 85, 86, 87, 88, 89, 90, 91, 124, 125, 126, 127, 128, 137, 138, 139, 140, 141, 142, 129, 130] rfl (by decide +kernel)
set_option maxRecDepth 20000 in
theorem gX9_program_X3_faultOf : GoodIn wsX9_program (wsV RX9 73 RX3 yX3_faultOf wsX3_faultOf) := goodIn_app (goodIn_of _ (by decide +kernel)) ggX9_program_X3_faultOf
set_option maxRecDepth 20000 in
theorem ggX9_program_X6_begin : GoodIn wsX9_program wsX6_begin := goodIn_r _ [96, 97, 98, 99, 100, 101, 16, 102, 78, 79, 18, 19, 20, 21, 88, 42, 89, 103, 104, 105, 106, 107, 108, 109, 110, 111, 95, 112, 113, 114, 131, 132, 133, 134, 135, 136, 137, 138, 139, 140, 141, 142] rfl (by decide +kernel)
set_option maxRecDepth 20000 in
theorem gX9_program_X6_begin : GoodIn wsX9_program (wsV RX9 81 RX6 yX6_begin wsX6_begin) := goodIn_app (goodIn_of _ (by decide +kernel)) ggX9_program_X6_begin
theorem dX9_program_0 : decode cX9_program 0 = .ok (.aload_n 0, 1) := by decide +kernel
theorem dX9_program_1 : decode cX9_program 1 = .ok (.getfield 26, 3) := by decide +kernel
theorem dX9_program_4 : decode cX9_program 4 = .ok (.aload_n 0, 1) := by decide +kernel
theorem dX9_program_5 : decode cX9_program 5 = .ok (.getfield 10, 3) := by decide +kernel
theorem dX9_program_8 : decode cX9_program 8 = .ok (.invokevirtual 73, 3) := by decide +kernel
theorem dX9_program_11 : decode cX9_program 11 = .ok (.istore_n 1, 1) := by decide +kernel
theorem dX9_program_12 : decode cX9_program 12 = .ok (.iload_n 1, 1) := by decide +kernel
theorem dX9_program_13 : decode cX9_program 13 = .ok (.ifCond .lt 8, 3) := by decide +kernel
theorem dX9_program_16 : decode cX9_program 16 = .ok (.bipush (-10), 2) := by decide +kernel
theorem dX9_program_18 : decode cX9_program 18 = .ok (.iload_n 1, 1) := by decide +kernel
theorem dX9_program_19 : decode cX9_program 19 = .ok (.isub, 1) := by decide +kernel
theorem dX9_program_20 : decode cX9_program 20 = .ok (.ireturn, 1) := by decide +kernel
theorem dX9_program_21 : decode cX9_program 21 = .ok (.aload_n 0, 1) := by decide +kernel
theorem dX9_program_22 : decode cX9_program 22 = .ok (.getfield 19, 3) := by decide +kernel
theorem dX9_program_25 : decode cX9_program 25 = .ok (.aload_n 0, 1) := by decide +kernel
theorem dX9_program_26 : decode cX9_program 26 = .ok (.getfield 26, 3) := by decide +kernel
theorem dX9_program_29 : decode cX9_program 29 = .ok (.getfield 77, 3) := by decide +kernel
theorem dX9_program_32 : decode cX9_program 32 = .ok (.invokevirtual 81, 3) := by decide +kernel
theorem dX9_program_35 : decode cX9_program 35 = .ok (.aload_n 0, 1) := by decide +kernel
theorem dX9_program_36 : decode cX9_program 36 = .ok (.getfield 10, 3) := by decide +kernel
theorem dX9_program_39 : decode cX9_program 39 = .ok (.iconst 0, 1) := by decide +kernel
theorem dX9_program_40 : decode cX9_program 40 = .ok (.putfield 65, 3) := by decide +kernel
theorem dX9_program_43 : decode cX9_program 43 = .ok (.aload_n 0, 1) := by decide +kernel
theorem dX9_program_44 : decode cX9_program 44 = .ok (.getfield 19, 3) := by decide +kernel
theorem dX9_program_47 : decode cX9_program 47 = .ok (.getfield 85, 3) := by decide +kernel
theorem dX9_program_50 : decode cX9_program 50 = .ok (.getfield 88, 3) := by decide +kernel
theorem dX9_program_53 : decode cX9_program 53 = .ok (.ireturn, 1) := by decide +kernel
set_option maxRecDepth 20000 in
theorem ggX9_item_X2_has : GoodIn wsX9_item wsX2_has := goodIn_r _ [6, 7, 34, 35, 36, 37, 38, 39] rfl (by decide +kernel)
set_option maxRecDepth 20000 in
theorem gX9_item_X2_has : GoodIn wsX9_item (wsV RX9 93 RX2 yX2_has wsX2_has) := goodIn_app (goodIn_of _ (by decide +kernel)) ggX9_item_X2_has
set_option maxRecDepth 20000 in
theorem ggX9_item_X9_within : GoodIn wsX9_item wsX9_within := goodIn_r _ [11] rfl (by decide +kernel)
set_option maxRecDepth 20000 in
theorem gX9_item_X9_within : GoodIn wsX9_item (va_wsS RX9 97 yX9_within wsX9_within) := goodIn_app (goodIn_of _ (by decide +kernel)) ggX9_item_X9_within
set_option maxRecDepth 20000 in
theorem ggX9_item_X2_cell : GoodIn wsX9_item wsX2_cell := goodIn_r _ [15, 16, 17, 10, 18, 34, 35, 36, 37, 38, 39] rfl (by decide +kernel)
set_option maxRecDepth 20000 in
theorem gX9_item_X2_cell : GoodIn wsX9_item (wsV RX9 101 RX2 yX2_cell wsX2_cell) := goodIn_app (goodIn_of _ (by decide +kernel)) ggX9_item_X2_cell
theorem dX9_item_0 : decode cX9_item 0 = .ok (.aload_n 0, 1) := by decide +kernel
theorem dX9_item_1 : decode cX9_item 1 = .ok (.getfield 19, 3) := by decide +kernel
theorem dX9_item_4 : decode cX9_item 4 = .ok (.getfield 85, 3) := by decide +kernel
theorem dX9_item_7 : decode cX9_item 7 = .ok (.iload_n 1, 1) := by decide +kernel
theorem dX9_item_8 : decode cX9_item 8 = .ok (.invokevirtual 93, 3) := by decide +kernel
theorem dX9_item_11 : decode cX9_item 11 = .ok (.ifCond .eq 12, 3) := by decide +kernel
theorem dX9_item_14 : decode cX9_item 14 = .ok (.iload_n 2, 1) := by decide +kernel
theorem dX9_item_15 : decode cX9_item 15 = .ok (.iconst 0, 1) := by decide +kernel
theorem dX9_item_16 : decode cX9_item 16 = .ok (.iconst 5, 1) := by decide +kernel
theorem dX9_item_17 : decode cX9_item 17 = .ok (.invokestatic 97, 3) := by decide +kernel
theorem dX9_item_20 : decode cX9_item 20 = .ok (.ifCond .ne 5, 3) := by decide +kernel
theorem dX9_item_23 : decode cX9_item 23 = .ok (.iconst (-1), 1) := by decide +kernel
theorem dX9_item_24 : decode cX9_item 24 = .ok (.ireturn, 1) := by decide +kernel
theorem dX9_item_25 : decode cX9_item 25 = .ok (.aload_n 0, 1) := by decide +kernel
theorem dX9_item_26 : decode cX9_item 26 = .ok (.getfield 19, 3) := by decide +kernel
theorem dX9_item_29 : decode cX9_item 29 = .ok (.getfield 85, 3) := by decide +kernel
theorem dX9_item_32 : decode cX9_item 32 = .ok (.iload_n 1, 1) := by decide +kernel
theorem dX9_item_33 : decode cX9_item 33 = .ok (.iload_n 2, 1) := by decide +kernel
theorem dX9_item_34 : decode cX9_item 34 = .ok (.invokevirtual 101, 3) := by decide +kernel
theorem dX9_item_37 : decode cX9_item 37 = .ok (.ireturn, 1) := by decide +kernel
set_option maxRecDepth 20000 in
theorem ggX9_modulus_X9_within : GoodIn wsX9_modulus wsX9_within := goodIn_r _ [5] rfl (by decide +kernel)
set_option maxRecDepth 20000 in
theorem gX9_modulus_X9_within : GoodIn wsX9_modulus (va_wsS RX9 97 yX9_within wsX9_within) := goodIn_app (goodIn_of _ (by decide +kernel)) ggX9_modulus_X9_within
theorem dX9_modulus_0 : decode cX9_modulus 0 = .ok (.iload_n 1, 1) := by decide +kernel
theorem dX9_modulus_1 : decode cX9_modulus 1 = .ok (.iconst 2, 1) := by decide +kernel
theorem dX9_modulus_2 : decode cX9_modulus 2 = .ok (.bipush 16, 2) := by decide +kernel
theorem dX9_modulus_4 : decode cX9_modulus 4 = .ok (.invokestatic 97, 3) := by decide +kernel
theorem dX9_modulus_7 : decode cX9_modulus 7 = .ok (.ifCond .ne 5, 3) := by decide +kernel
theorem dX9_modulus_10 : decode cX9_modulus 10 = .ok (.iconst (-1), 1) := by decide +kernel
theorem dX9_modulus_11 : decode cX9_modulus 11 = .ok (.ireturn, 1) := by decide +kernel
theorem dX9_modulus_12 : decode cX9_modulus 12 = .ok (.aload_n 0, 1) := by decide +kernel
theorem dX9_modulus_13 : decode cX9_modulus 13 = .ok (.getfield 19, 3) := by decide +kernel
theorem dX9_modulus_16 : decode cX9_modulus 16 = .ok (.getfield 105, 3) := by decide +kernel
theorem dX9_modulus_19 : decode cX9_modulus 19 = .ok (.istore_n 2, 1) := by decide +kernel
theorem dX9_modulus_20 : decode cX9_modulus 20 = .ok (.aload_n 0, 1) := by decide +kernel
theorem dX9_modulus_21 : decode cX9_modulus 21 = .ok (.getfield 19, 3) := by decide +kernel
theorem dX9_modulus_24 : decode cX9_modulus 24 = .ok (.iload_n 1, 1) := by decide +kernel
theorem dX9_modulus_25 : decode cX9_modulus 25 = .ok (.putfield 105, 3) := by decide +kernel
theorem dX9_modulus_28 : decode cX9_modulus 28 = .ok (.iload_n 2, 1) := by decide +kernel
theorem dX9_modulus_29 : decode cX9_modulus 29 = .ok (.ireturn, 1) := by decide +kernel
set_option maxRecDepth 20000 in
theorem ggX9_input_X9_within : GoodIn wsX9_input wsX9_within := goodIn_r _ [5] rfl (by decide +kernel)
set_option maxRecDepth 20000 in
theorem gX9_input_X9_within : GoodIn wsX9_input (va_wsS RX9 97 yX9_within wsX9_within) := goodIn_app (goodIn_of _ (by decide +kernel)) ggX9_input_X9_within
set_option maxRecDepth 20000 in
theorem ggX9_input_X9_swap : GoodIn wsX9_input wsX9_swap := goodIn_r _ [8, 9, 10, 4, 11, 12, 13, 14] rfl (by decide +kernel)
set_option maxRecDepth 20000 in
theorem gX9_input_X9_swap : GoodIn wsX9_input (va_wsS RX9 114 yX9_swap wsX9_swap) := goodIn_app (goodIn_of _ (by decide +kernel)) ggX9_input_X9_swap
theorem dX9_input_0 : decode cX9_input 0 = .ok (.iload_n 1, 1) := by decide +kernel
theorem dX9_input_1 : decode cX9_input 1 = .ok (.iconst 0, 1) := by decide +kernel
theorem dX9_input_2 : decode cX9_input 2 = .ok (.aload_n 0, 1) := by decide +kernel
theorem dX9_input_3 : decode cX9_input 3 = .ok (.getfield 19, 3) := by decide +kernel
theorem dX9_input_6 : decode cX9_input 6 = .ok (.getfield 85, 3) := by decide +kernel
theorem dX9_input_9 : decode cX9_input 9 = .ok (.getfield 108, 3) := by decide +kernel
theorem dX9_input_12 : decode cX9_input 12 = .ok (.iconst 1, 1) := by decide +kernel
theorem dX9_input_13 : decode cX9_input 13 = .ok (.isub, 1) := by decide +kernel
theorem dX9_input_14 : decode cX9_input 14 = .ok (.invokestatic 97, 3) := by decide +kernel
theorem dX9_input_17 : decode cX9_input 17 = .ok (.ifCond .eq 12, 3) := by decide +kernel
theorem dX9_input_20 : decode cX9_input 20 = .ok (.iload_n 2, 1) := by decide +kernel
theorem dX9_input_21 : decode cX9_input 21 = .ok (.iconst 0, 1) := by decide +kernel
theorem dX9_input_22 : decode cX9_input 22 = .ok (.iconst 1, 1) := by decide +kernel
theorem dX9_input_23 : decode cX9_input 23 = .ok (.invokestatic 97, 3) := by decide +kernel
theorem dX9_input_26 : decode cX9_input 26 = .ok (.ifCond .ne 5, 3) := by decide +kernel
theorem dX9_input_29 : decode cX9_input 29 = .ok (.iconst (-1), 1) := by decide +kernel
theorem dX9_input_30 : decode cX9_input 30 = .ok (.ireturn, 1) := by decide +kernel
theorem dX9_input_31 : decode cX9_input 31 = .ok (.iload_n 3, 1) := by decide +kernel
theorem dX9_input_32 : decode cX9_input 32 = .ok (.iconst 0, 1) := by decide +kernel
theorem dX9_input_33 : decode cX9_input 33 = .ok (.bipush 15, 2) := by decide +kernel
theorem dX9_input_35 : decode cX9_input 35 = .ok (.invokestatic 97, 3) := by decide +kernel
theorem dX9_input_38 : decode cX9_input 38 = .ok (.ifCond .ne 5, 3) := by decide +kernel
theorem dX9_input_41 : decode cX9_input 41 = .ok (.iconst (-1), 1) := by decide +kernel
theorem dX9_input_42 : decode cX9_input 42 = .ok (.ireturn, 1) := by decide +kernel
theorem dX9_input_43 : decode cX9_input 43 = .ok (.aload_n 0, 1) := by decide +kernel
theorem dX9_input_44 : decode cX9_input 44 = .ok (.getfield 19, 3) := by decide +kernel
theorem dX9_input_47 : decode cX9_input 47 = .ok (.getfield 111, 3) := by decide +kernel
theorem dX9_input_50 : decode cX9_input 50 = .ok (.iload_n 2, 1) := by decide +kernel
theorem dX9_input_51 : decode cX9_input 51 = .ok (.iconst 4, 1) := by decide +kernel
theorem dX9_input_52 : decode cX9_input 52 = .ok (.imul, 1) := by decide +kernel
theorem dX9_input_53 : decode cX9_input 53 = .ok (.iload_n 1, 1) := by decide +kernel
theorem dX9_input_54 : decode cX9_input 54 = .ok (.iadd, 1) := by decide +kernel
theorem dX9_input_55 : decode cX9_input 55 = .ok (.iload_n 3, 1) := by decide +kernel
theorem dX9_input_56 : decode cX9_input 56 = .ok (.invokestatic 114, 3) := by decide +kernel
theorem dX9_input_59 : decode cX9_input 59 = .ok (.ireturn, 1) := by decide +kernel
set_option maxRecDepth 20000 in
theorem ggX9_lot_X9_within : GoodIn wsX9_lot wsX9_within := goodIn_r _ [5] rfl (by decide +kernel)
set_option maxRecDepth 20000 in
theorem gX9_lot_X9_within : GoodIn wsX9_lot (va_wsS RX9 97 yX9_within wsX9_within) := goodIn_app (goodIn_of _ (by decide +kernel)) ggX9_lot_X9_within
set_option maxRecDepth 20000 in
theorem ggX9_lot_X9_swap : GoodIn wsX9_lot wsX9_swap := goodIn_r _ [8, 9, 10, 4, 11, 12, 13, 14] rfl (by decide +kernel)
set_option maxRecDepth 20000 in
theorem gX9_lot_X9_swap : GoodIn wsX9_lot (va_wsS RX9 114 yX9_swap wsX9_swap) := goodIn_app (goodIn_of _ (by decide +kernel)) ggX9_lot_X9_swap
theorem dX9_lot_0 : decode cX9_lot 0 = .ok (.iload_n 1, 1) := by decide +kernel
theorem dX9_lot_1 : decode cX9_lot 1 = .ok (.iconst 0, 1) := by decide +kernel
theorem dX9_lot_2 : decode cX9_lot 2 = .ok (.bipush 39, 2) := by decide +kernel
theorem dX9_lot_4 : decode cX9_lot 4 = .ok (.invokestatic 97, 3) := by decide +kernel
theorem dX9_lot_7 : decode cX9_lot 7 = .ok (.ifCond .eq 13, 3) := by decide +kernel
theorem dX9_lot_10 : decode cX9_lot 10 = .ok (.iload_n 2, 1) := by decide +kernel
theorem dX9_lot_11 : decode cX9_lot 11 = .ok (.iconst 0, 1) := by decide +kernel
theorem dX9_lot_12 : decode cX9_lot 12 = .ok (.bipush 15, 2) := by decide +kernel
theorem dX9_lot_14 : decode cX9_lot 14 = .ok (.invokestatic 97, 3) := by decide +kernel
theorem dX9_lot_17 : decode cX9_lot 17 = .ok (.ifCond .ne 5, 3) := by decide +kernel
theorem dX9_lot_20 : decode cX9_lot 20 = .ok (.iconst (-1), 1) := by decide +kernel
theorem dX9_lot_21 : decode cX9_lot 21 = .ok (.ireturn, 1) := by decide +kernel
theorem dX9_lot_22 : decode cX9_lot 22 = .ok (.aload_n 0, 1) := by decide +kernel
theorem dX9_lot_23 : decode cX9_lot 23 = .ok (.getfield 19, 3) := by decide +kernel
theorem dX9_lot_26 : decode cX9_lot 26 = .ok (.getfield 118, 3) := by decide +kernel
theorem dX9_lot_29 : decode cX9_lot 29 = .ok (.iload_n 1, 1) := by decide +kernel
theorem dX9_lot_30 : decode cX9_lot 30 = .ok (.iload_n 2, 1) := by decide +kernel
theorem dX9_lot_31 : decode cX9_lot 31 = .ok (.invokestatic 114, 3) := by decide +kernel
theorem dX9_lot_34 : decode cX9_lot 34 = .ok (.ireturn, 1) := by decide +kernel
set_option maxRecDepth 20000 in
theorem ggX9_lie_X2_has : GoodIn wsX9_lie wsX2_has := goodIn_r _ [6, 7, 46, 47, 48, 49, 50, 51] rfl (by decide +kernel)
set_option maxRecDepth 20000 in
theorem gX9_lie_X2_has : GoodIn wsX9_lie (wsV RX9 93 RX2 yX2_has wsX2_has) := goodIn_app (goodIn_of _ (by decide +kernel)) ggX9_lie_X2_has
set_option maxRecDepth 20000 in
theorem ggX9_lie_X9_isHand : GoodIn wsX9_lie wsX9_isHand := goodIn_r _ [11, 12, 13, 10, 14] rfl (by decide +kernel)
set_option maxRecDepth 20000 in
theorem gX9_lie_X9_isHand : GoodIn wsX9_lie (va_wsS RX9 121 yX9_isHand wsX9_isHand) := goodIn_app (goodIn_of _ (by decide +kernel)) ggX9_lie_X9_isHand
set_option maxRecDepth 20000 in
theorem ggX9_lie_X9_within : GoodIn wsX9_lie wsX9_within := goodIn_r _ [14] rfl (by decide +kernel)
set_option maxRecDepth 20000 in
theorem gX9_lie_X9_within : GoodIn wsX9_lie (va_wsS RX9 97 yX9_within wsX9_within) := goodIn_app (goodIn_of _ (by decide +kernel)) ggX9_lie_X9_within
set_option maxRecDepth 20000 in
theorem ggX9_lie_X2_cell : GoodIn wsX9_lie wsX2_cell := goodIn_r _ [18, 19, 20, 10, 21, 46, 47, 48, 49, 50, 51] rfl (by decide +kernel)
set_option maxRecDepth 20000 in
theorem gX9_lie_X2_cell : GoodIn wsX9_lie (wsV RX9 101 RX2 yX2_cell wsX2_cell) := goodIn_app (goodIn_of _ (by decide +kernel)) ggX9_lie_X2_cell
set_option maxRecDepth 20000 in
theorem ggX9_lie_X6_addLie : GoodIn wsX9_lie wsX6_addLie := goodIn_r _ [26, 27, 28, 20, 10, 21, 29, 30, 40, 41, 42, 43, 44, 45] rfl (by decide +kernel)
set_option maxRecDepth 20000 in
theorem gX9_lie_X6_addLie : GoodIn wsX9_lie (wsV RX9 127 RX6 yX6_addLie wsX6_addLie) := goodIn_app (goodIn_of _ (by decide +kernel)) ggX9_lie_X6_addLie
theorem dX9_lie_0 : decode cX9_lie 0 = .ok (.aload_n 0, 1) := by decide +kernel
theorem dX9_lie_1 : decode cX9_lie 1 = .ok (.getfield 19, 3) := by decide +kernel
theorem dX9_lie_4 : decode cX9_lie 4 = .ok (.getfield 85, 3) := by decide +kernel
theorem dX9_lie_7 : decode cX9_lie 7 = .ok (.iload_n 1, 1) := by decide +kernel
theorem dX9_lie_8 : decode cX9_lie 8 = .ok (.invokevirtual 93, 3) := by decide +kernel
theorem dX9_lie_11 : decode cX9_lie 11 = .ok (.ifCond .eq 20, 3) := by decide +kernel
theorem dX9_lie_14 : decode cX9_lie 14 = .ok (.iload_n 2, 1) := by decide +kernel
theorem dX9_lie_15 : decode cX9_lie 15 = .ok (.invokestatic 121, 3) := by decide +kernel
theorem dX9_lie_18 : decode cX9_lie 18 = .ok (.ifCond .eq 13, 3) := by decide +kernel
theorem dX9_lie_21 : decode cX9_lie 21 = .ok (.iload_n 3, 1) := by decide +kernel
theorem dX9_lie_22 : decode cX9_lie 22 = .ok (.iconst 1, 1) := by decide +kernel
theorem dX9_lie_23 : decode cX9_lie 23 = .ok (.bipush 15, 2) := by decide +kernel
theorem dX9_lie_25 : decode cX9_lie 25 = .ok (.invokestatic 97, 3) := by decide +kernel
theorem dX9_lie_28 : decode cX9_lie 28 = .ok (.ifCond .ne 5, 3) := by decide +kernel
theorem dX9_lie_31 : decode cX9_lie 31 = .ok (.iconst (-1), 1) := by decide +kernel
theorem dX9_lie_32 : decode cX9_lie 32 = .ok (.ireturn, 1) := by decide +kernel
theorem dX9_lie_33 : decode cX9_lie 33 = .ok (.aload_n 0, 1) := by decide +kernel
theorem dX9_lie_34 : decode cX9_lie 34 = .ok (.getfield 19, 3) := by decide +kernel
theorem dX9_lie_37 : decode cX9_lie 37 = .ok (.getfield 85, 3) := by decide +kernel
theorem dX9_lie_40 : decode cX9_lie 40 = .ok (.iload_n 1, 1) := by decide +kernel
theorem dX9_lie_41 : decode cX9_lie 41 = .ok (.iconst 0, 1) := by decide +kernel
theorem dX9_lie_42 : decode cX9_lie 42 = .ok (.invokevirtual 101, 3) := by decide +kernel
theorem dX9_lie_45 : decode cX9_lie 45 = .ok (.istore 4, 2) := by decide +kernel
theorem dX9_lie_47 : decode cX9_lie 47 = .ok (.iload 4, 2) := by decide +kernel
theorem dX9_lie_49 : decode cX9_lie 49 = .ok (.iconst 4, 1) := by decide +kernel
theorem dX9_lie_50 : decode cX9_lie 50 = .ok (.if_icmp .eq 11, 3) := by decide +kernel
theorem dX9_lie_53 : decode cX9_lie 53 = .ok (.iload 4, 2) := by decide +kernel
theorem dX9_lie_55 : decode cX9_lie 55 = .ok (.iconst 5, 1) := by decide +kernel
theorem dX9_lie_56 : decode cX9_lie 56 = .ok (.if_icmp .eq 5, 3) := by decide +kernel
theorem dX9_lie_59 : decode cX9_lie 59 = .ok (.iconst (-1), 1) := by decide +kernel
theorem dX9_lie_60 : decode cX9_lie 60 = .ok (.ireturn, 1) := by decide +kernel
theorem dX9_lie_61 : decode cX9_lie 61 = .ok (.aload_n 0, 1) := by decide +kernel
theorem dX9_lie_62 : decode cX9_lie 62 = .ok (.getfield 19, 3) := by decide +kernel
theorem dX9_lie_65 : decode cX9_lie 65 = .ok (.getfield 124, 3) := by decide +kernel
theorem dX9_lie_68 : decode cX9_lie 68 = .ok (.bipush 6, 2) := by decide +kernel
theorem dX9_lie_70 : decode cX9_lie 70 = .ok (.if_icmp .lt 6, 3) := by decide +kernel
theorem dX9_lie_73 : decode cX9_lie 73 = .ok (.bipush (-3), 2) := by decide +kernel
theorem dX9_lie_75 : decode cX9_lie 75 = .ok (.ireturn, 1) := by decide +kernel
theorem dX9_lie_76 : decode cX9_lie 76 = .ok (.aload_n 0, 1) := by decide +kernel
theorem dX9_lie_77 : decode cX9_lie 77 = .ok (.getfield 19, 3) := by decide +kernel
theorem dX9_lie_80 : decode cX9_lie 80 = .ok (.iload_n 1, 1) := by decide +kernel
theorem dX9_lie_81 : decode cX9_lie 81 = .ok (.iload_n 2, 1) := by decide +kernel
theorem dX9_lie_82 : decode cX9_lie 82 = .ok (.iload_n 3, 1) := by decide +kernel
theorem dX9_lie_83 : decode cX9_lie 83 = .ok (.invokevirtual 127, 3) := by decide +kernel
theorem dX9_lie_86 : decode cX9_lie 86 = .ok (.aload_n 0, 1) := by decide +kernel
theorem dX9_lie_87 : decode cX9_lie 87 = .ok (.getfield 19, 3) := by decide +kernel
theorem dX9_lie_90 : decode cX9_lie 90 = .ok (.getfield 124, 3) := by decide +kernel
theorem dX9_lie_93 : decode cX9_lie 93 = .ok (.ireturn, 1) := by decide +kernel
set_option maxRecDepth 20000 in
theorem ggX9_honest_X6_forgetLies : GoodIn wsX9_honest wsX6_forgetLies := goodIn_r _ [6, 7, 8, 9, 10, 11, 12, 13, 14, 15, 25, 26, 27, 28, 29, 30] rfl (by decide +kernel)
set_option maxRecDepth 20000 in
theorem gX9_honest_X6_forgetLies : GoodIn wsX9_honest (wsV RX9 131 RX6 yX6_forgetLies wsX6_forgetLies) := goodIn_app (goodIn_of _ (by decide +kernel)) ggX9_honest_X6_forgetLies
theorem dX9_honest_0 : decode cX9_honest 0 = .ok (.aload_n 0, 1) := by decide +kernel
theorem dX9_honest_1 : decode cX9_honest 1 = .ok (.getfield 19, 3) := by decide +kernel
theorem dX9_honest_4 : decode cX9_honest 4 = .ok (.getfield 124, 3) := by decide +kernel
theorem dX9_honest_7 : decode cX9_honest 7 = .ok (.istore_n 1, 1) := by decide +kernel
theorem dX9_honest_8 : decode cX9_honest 8 = .ok (.aload_n 0, 1) := by decide +kernel
theorem dX9_honest_9 : decode cX9_honest 9 = .ok (.getfield 19, 3) := by decide +kernel
theorem dX9_honest_12 : decode cX9_honest 12 = .ok (.invokevirtual 131, 3) := by decide +kernel
theorem dX9_honest_15 : decode cX9_honest 15 = .ok (.iload_n 1, 1) := by decide +kernel
theorem dX9_honest_16 : decode cX9_honest 16 = .ok (.ireturn, 1) := by decide +kernel
set_option maxRecDepth 20000 in
theorem ggX9_end_X4_go : GoodIn wsX9_end wsX4_go := goodIn_r _ [7, 8, 9, 10, 6, 11, 12, 13, 14, 15, 16, 17, 18, 19, 20, 21, 22, 23, 24, 25, 26, 27, 28, 29, 30, 31, 32, 33, 34, 35, 36, 37, 38, 39, 40, 41, 42, 43, 44, 45, 46, 47, 48, 49, 50, 51, 52, 53, 54, 55, 56, 57, 58, 59, 60, 61, 62, 63, 64, 65, 66, 67, 68, 69, 70, 71, 72, 73, 74, 75, 76, 77, 78, 79, 80, 94, 95, 96, 97, 98, 99, 100, 101, 102, 103, 104, 105, 106, 107, 108, 109, 110, 111, 112, 113, 114, 115, 116, 117, 118] rfl (by decide +kernel)
set_option maxRecDepth 20000 in
theorem gX9_end_X4_go : GoodIn wsX9_end (wsV RX9 134 RX4 yX4_go wsX4_go) := goodIn_app (goodIn_of _ (by decide +kernel)) ggX9_end_X4_go
set_option maxRecDepth 20000 in
theorem ggX9_end_X4_endShown : GoodIn wsX9_end wsX4_endShown := goodIn_r _ [84, 71, 13, 29, 30, 31, 32, 33, 100, 101, 102, 103, 104, 105, 106, 107, 108, 109, 110, 111, 112] rfl (by decide +kernel)
set_option maxRecDepth 20000 in
theorem gX9_end_X4_endShown : GoodIn wsX9_end (wsV RX9 138 RX4 yX4_endShown wsX4_endShown) := goodIn_app (goodIn_of _ (by decide +kernel)) ggX9_end_X4_endShown
theorem dX9_end_0 : decode cX9_end 0 = .ok (.aload_n 0, 1) := by decide +kernel
theorem dX9_end_1 : decode cX9_end 1 = .ok (.getfield 33, 3) := by decide +kernel
theorem dX9_end_4 : decode cX9_end 4 = .ok (.aload_n 0, 1) := by decide +kernel
theorem dX9_end_5 : decode cX9_end 5 = .ok (.getfield 19, 3) := by decide +kernel
theorem dX9_end_8 : decode cX9_end 8 = .ok (.iconst 0, 1) := by decide +kernel
theorem dX9_end_9 : decode cX9_end 9 = .ok (.invokevirtual 134, 3) := by decide +kernel
theorem dX9_end_12 : decode cX9_end 12 = .ok (.aload_n 0, 1) := by decide +kernel
theorem dX9_end_13 : decode cX9_end 13 = .ok (.getfield 33, 3) := by decide +kernel
theorem dX9_end_16 : decode cX9_end 16 = .ok (.invokevirtual 138, 3) := by decide +kernel
theorem dX9_end_19 : decode cX9_end 19 = .ok (.ireturn, 1) := by decide +kernel
set_option maxRecDepth 20000 in
theorem ggX9_share_X2_has : GoodIn wsX9_share wsX2_has := goodIn_r _ [7, 8, 131, 132, 133, 134, 135, 136] rfl (by decide +kernel)
set_option maxRecDepth 20000 in
theorem gX9_share_X2_has : GoodIn wsX9_share (wsV RX9 93 RX2 yX2_has wsX2_has) := goodIn_app (goodIn_of _ (by decide +kernel)) ggX9_share_X2_has
set_option maxRecDepth 20000 in
theorem ggX9_share_X9_isHand : GoodIn wsX9_share wsX9_isHand := goodIn_r _ [12, 13, 14, 11, 15] rfl (by decide +kernel)
set_option maxRecDepth 20000 in
theorem gX9_share_X9_isHand : GoodIn wsX9_share (va_wsS RX9 121 yX9_isHand wsX9_isHand) := goodIn_app (goodIn_of _ (by decide +kernel)) ggX9_share_X9_isHand
set_option maxRecDepth 20000 in
theorem ggX9_share_X4_go : GoodIn wsX9_share wsX4_go := goodIn_r _ [20, 21, 22, 23, 19, 24, 25, 26, 27, 28, 29, 30, 31, 32, 33, 34, 35, 36, 37, 38, 39, 40, 41, 42, 11, 43, 44, 45, 46, 47, 48, 49, 50, 51, 52, 53, 54, 55, 56, 57, 58, 59, 60, 61, 62, 63, 64, 65, 66, 67, 68, 69, 70, 71, 72, 73, 74, 75, 76, 77, 78, 79, 80, 81, 82, 83, 84, 85, 86, 87, 88, 89, 90, 91, 92, 112, 113, 114, 115, 116, 117, 118, 119, 120, 121, 122, 123, 124, 125, 126, 127, 128, 129, 130, 131, 132, 133, 134, 135, 136] rfl (by decide +kernel)
set_option maxRecDepth 20000 in
theorem gX9_share_X4_go : GoodIn wsX9_share (wsV RX9 134 RX4 yX4_go wsX4_go) := goodIn_app (goodIn_of _ (by decide +kernel)) ggX9_share_X4_go
set_option maxRecDepth 20000 in
theorem ggX9_share_X2_cell : GoodIn wsX9_share wsX2_cell := goodIn_r _ [96, 97, 42, 11, 43, 131, 132, 133, 134, 135, 136] rfl (by decide +kernel)
set_option maxRecDepth 20000 in
theorem gX9_share_X2_cell : GoodIn wsX9_share (wsV RX9 101 RX2 yX2_cell wsX2_cell) := goodIn_app (goodIn_of _ (by decide +kernel)) ggX9_share_X2_cell
set_option maxRecDepth 20000 in
theorem ggX9_share_X9_at : GoodIn wsX9_share wsX9_at := goodIn_r _ [43] rfl (by decide +kernel)
set_option maxRecDepth 20000 in
theorem gX9_share_X9_at : GoodIn wsX9_share (va_wsS RX9 145 yX9_at wsX9_at) := goodIn_app (goodIn_of _ (by decide +kernel)) ggX9_share_X9_at
set_option maxRecDepth 20000 in
theorem ggX9_share_X4_shareOf : GoodIn wsX9_share wsX4_shareOf := goodIn_r _ [102, 50, 42, 11, 43, 118, 119, 120, 121, 122, 123, 124, 125, 126, 127, 128, 129, 130] rfl (by decide +kernel)
set_option maxRecDepth 20000 in
theorem gX9_share_X4_shareOf : GoodIn wsX9_share (wsV RX9 149 RX4 yX4_shareOf wsX4_shareOf) := goodIn_app (goodIn_of _ (by decide +kernel)) ggX9_share_X4_shareOf
theorem dX9_share_0 : decode cX9_share 0 = .ok (.aload_n 0, 1) := by decide +kernel
theorem dX9_share_1 : decode cX9_share 1 = .ok (.getfield 19, 3) := by decide +kernel
theorem dX9_share_4 : decode cX9_share 4 = .ok (.getfield 85, 3) := by decide +kernel
theorem dX9_share_7 : decode cX9_share 7 = .ok (.iload_n 1, 1) := by decide +kernel
theorem dX9_share_8 : decode cX9_share 8 = .ok (.invokevirtual 93, 3) := by decide +kernel
theorem dX9_share_11 : decode cX9_share 11 = .ok (.ifCond .eq 10, 3) := by decide +kernel
theorem dX9_share_14 : decode cX9_share 14 = .ok (.iload_n 2, 1) := by decide +kernel
theorem dX9_share_15 : decode cX9_share 15 = .ok (.invokestatic 121, 3) := by decide +kernel
theorem dX9_share_18 : decode cX9_share 18 = .ok (.ifCond .ne 5, 3) := by decide +kernel
theorem dX9_share_21 : decode cX9_share 21 = .ok (.iconst (-1), 1) := by decide +kernel
theorem dX9_share_22 : decode cX9_share 22 = .ok (.ireturn, 1) := by decide +kernel
theorem dX9_share_23 : decode cX9_share 23 = .ok (.aload_n 0, 1) := by decide +kernel
theorem dX9_share_24 : decode cX9_share 24 = .ok (.getfield 33, 3) := by decide +kernel
theorem dX9_share_27 : decode cX9_share 27 = .ok (.aload_n 0, 1) := by decide +kernel
theorem dX9_share_28 : decode cX9_share 28 = .ok (.getfield 19, 3) := by decide +kernel
theorem dX9_share_31 : decode cX9_share 31 = .ok (.iconst 0, 1) := by decide +kernel
theorem dX9_share_32 : decode cX9_share 32 = .ok (.invokevirtual 134, 3) := by decide +kernel
theorem dX9_share_35 : decode cX9_share 35 = .ok (.aload_n 0, 1) := by decide +kernel
theorem dX9_share_36 : decode cX9_share 36 = .ok (.getfield 19, 3) := by decide +kernel
theorem dX9_share_39 : decode cX9_share 39 = .ok (.getfield 85, 3) := by decide +kernel
theorem dX9_share_42 : decode cX9_share 42 = .ok (.iload_n 1, 1) := by decide +kernel
theorem dX9_share_43 : decode cX9_share 43 = .ok (.iconst 0, 1) := by decide +kernel
theorem dX9_share_44 : decode cX9_share 44 = .ok (.invokevirtual 101, 3) := by decide +kernel
theorem dX9_share_47 : decode cX9_share 47 = .ok (.iconst 5, 1) := by decide +kernel
theorem dX9_share_48 : decode cX9_share 48 = .ok (.if_icmp .ne 15, 3) := by decide +kernel
theorem dX9_share_51 : decode cX9_share 51 = .ok (.aload_n 0, 1) := by decide +kernel
theorem dX9_share_52 : decode cX9_share 52 = .ok (.getfield 33, 3) := by decide +kernel
theorem dX9_share_55 : decode cX9_share 55 = .ok (.getfield 142, 3) := by decide +kernel
theorem dX9_share_58 : decode cX9_share 58 = .ok (.iload_n 2, 1) := by decide +kernel
theorem dX9_share_59 : decode cX9_share 59 = .ok (.invokestatic 145, 3) := by decide +kernel
theorem dX9_share_62 : decode cX9_share 62 = .ok (.ireturn, 1) := by decide +kernel
theorem dX9_share_63 : decode cX9_share 63 = .ok (.aload_n 0, 1) := by decide +kernel
theorem dX9_share_64 : decode cX9_share 64 = .ok (.getfield 33, 3) := by decide +kernel
theorem dX9_share_67 : decode cX9_share 67 = .ok (.aload_n 0, 1) := by decide +kernel
theorem dX9_share_68 : decode cX9_share 68 = .ok (.getfield 19, 3) := by decide +kernel
theorem dX9_share_71 : decode cX9_share 71 = .ok (.getfield 85, 3) := by decide +kernel
theorem dX9_share_74 : decode cX9_share 74 = .ok (.iload_n 1, 1) := by decide +kernel
theorem dX9_share_75 : decode cX9_share 75 = .ok (.iconst 1, 1) := by decide +kernel
theorem dX9_share_76 : decode cX9_share 76 = .ok (.invokevirtual 101, 3) := by decide +kernel
theorem dX9_share_79 : decode cX9_share 79 = .ok (.iload_n 2, 1) := by decide +kernel
theorem dX9_share_80 : decode cX9_share 80 = .ok (.invokevirtual 149, 3) := by decide +kernel
theorem dX9_share_83 : decode cX9_share 83 = .ok (.ireturn, 1) := by decide +kernel
set_option maxRecDepth 20000 in
theorem ggX9_seen_X9_isHand : GoodIn wsX9_seen wsX9_isHand := goodIn_r _ [6, 7, 8, 5, 9] rfl (by decide +kernel)
set_option maxRecDepth 20000 in
theorem gX9_seen_X9_isHand : GoodIn wsX9_seen (va_wsS RX9 121 yX9_isHand wsX9_isHand) := goodIn_app (goodIn_of _ (by decide +kernel)) ggX9_seen_X9_isHand
set_option maxRecDepth 20000 in
theorem ggX9_seen_X4_go : GoodIn wsX9_seen wsX4_go := goodIn_r _ [14, 15, 16, 17, 13, 18, 19, 20, 21, 22, 23, 24, 25, 26, 27, 28, 29, 30, 31, 32, 33, 34, 35, 36, 5, 37, 38, 39, 40, 41, 42, 43, 44, 45, 46, 47, 48, 49, 50, 51, 52, 53, 54, 55, 56, 57, 58, 59, 60, 61, 62, 63, 64, 65, 66, 67, 68, 69, 70, 71, 72, 73, 74, 75, 76, 77, 78, 79, 80, 81, 82, 83, 84, 85, 86, 110, 111, 112, 113, 114, 115, 97, 98, 99, 100, 101, 102, 103, 104, 105, 106, 107, 108, 109, 116, 117, 118, 119, 120, 121] rfl (by decide +kernel)
set_option maxRecDepth 20000 in
theorem gX9_seen_X4_go : GoodIn wsX9_seen (wsV RX9 134 RX4 yX4_go wsX4_go) := goodIn_app (goodIn_of _ (by decide +kernel)) ggX9_seen_X4_go
set_option maxRecDepth 20000 in
theorem ggX9_seen_X9_at : GoodIn wsX9_seen wsX9_at := goodIn_r _ [37] rfl (by decide +kernel)
set_option maxRecDepth 20000 in
theorem gX9_seen_X9_at : GoodIn wsX9_seen (va_wsS RX9 145 yX9_at wsX9_at) := goodIn_app (goodIn_of _ (by decide +kernel)) ggX9_seen_X9_at
theorem dX9_seen_0 : decode cX9_seen 0 = .ok (.iload_n 1, 1) := by decide +kernel
theorem dX9_seen_1 : decode cX9_seen 1 = .ok (.invokestatic 121, 3) := by decide +kernel
theorem dX9_seen_4 : decode cX9_seen 4 = .ok (.ifCond .eq 8, 3) := by decide +kernel
theorem dX9_seen_7 : decode cX9_seen 7 = .ok (.iload_n 2, 1) := by decide +kernel
theorem dX9_seen_8 : decode cX9_seen 8 = .ok (.iconst (-1), 1) := by decide +kernel
theorem dX9_seen_9 : decode cX9_seen 9 = .ok (.if_icmp .ge 5, 3) := by decide +kernel
theorem dX9_seen_12 : decode cX9_seen 12 = .ok (.iconst (-1), 1) := by decide +kernel
theorem dX9_seen_13 : decode cX9_seen 13 = .ok (.ireturn, 1) := by decide +kernel
theorem dX9_seen_14 : decode cX9_seen 14 = .ok (.aload_n 0, 1) := by decide +kernel
theorem dX9_seen_15 : decode cX9_seen 15 = .ok (.getfield 33, 3) := by decide +kernel
theorem dX9_seen_18 : decode cX9_seen 18 = .ok (.aload_n 0, 1) := by decide +kernel
theorem dX9_seen_19 : decode cX9_seen 19 = .ok (.getfield 19, 3) := by decide +kernel
theorem dX9_seen_22 : decode cX9_seen 22 = .ok (.iload_n 1, 1) := by decide +kernel
theorem dX9_seen_23 : decode cX9_seen 23 = .ok (.invokevirtual 134, 3) := by decide +kernel
theorem dX9_seen_26 : decode cX9_seen 26 = .ok (.iload_n 2, 1) := by decide +kernel
theorem dX9_seen_27 : decode cX9_seen 27 = .ok (.iconst (-1), 1) := by decide +kernel
theorem dX9_seen_28 : decode cX9_seen 28 = .ok (.if_icmp .ne 11, 3) := by decide +kernel
theorem dX9_seen_31 : decode cX9_seen 31 = .ok (.aload_n 0, 1) := by decide +kernel
theorem dX9_seen_32 : decode cX9_seen 32 = .ok (.getfield 33, 3) := by decide +kernel
theorem dX9_seen_35 : decode cX9_seen 35 = .ok (.getfield 152, 3) := by decide +kernel
theorem dX9_seen_38 : decode cX9_seen 38 = .ok (.ireturn, 1) := by decide +kernel
theorem dX9_seen_39 : decode cX9_seen 39 = .ok (.iload_n 2, 1) := by decide +kernel
theorem dX9_seen_40 : decode cX9_seen 40 = .ok (.aload_n 0, 1) := by decide +kernel
theorem dX9_seen_41 : decode cX9_seen 41 = .ok (.getfield 33, 3) := by decide +kernel
theorem dX9_seen_44 : decode cX9_seen 44 = .ok (.getfield 152, 3) := by decide +kernel
theorem dX9_seen_47 : decode cX9_seen 47 = .ok (.if_icmp .ge 17, 3) := by decide +kernel
theorem dX9_seen_50 : decode cX9_seen 50 = .ok (.aload_n 0, 1) := by decide +kernel
theorem dX9_seen_51 : decode cX9_seen 51 = .ok (.getfield 33, 3) := by decide +kernel
theorem dX9_seen_54 : decode cX9_seen 54 = .ok (.getfield 155, 3) := by decide +kernel
theorem dX9_seen_57 : decode cX9_seen 57 = .ok (.iload_n 2, 1) := by decide +kernel
theorem dX9_seen_58 : decode cX9_seen 58 = .ok (.invokestatic 145, 3) := by decide +kernel
theorem dX9_seen_61 : decode cX9_seen 61 = .ok (.goto 4, 3) := by decide +kernel
theorem dX9_seen_64 : decode cX9_seen 64 = .ok (.iconst (-1), 1) := by decide +kernel
theorem dX9_seen_65 : decode cX9_seen 65 = .ok (.ireturn, 1) := by decide +kernel
set_option maxRecDepth 20000 in
theorem ggX9_spy_X9_isHand : GoodIn wsX9_spy wsX9_isHand := goodIn_r _ [7, 8, 9, 6, 10] rfl (by decide +kernel)
set_option maxRecDepth 20000 in
theorem gX9_spy_X9_isHand : GoodIn wsX9_spy (va_wsS RX9 121 yX9_isHand wsX9_isHand) := goodIn_app (goodIn_of _ (by decide +kernel)) ggX9_spy_X9_isHand
set_option maxRecDepth 20000 in
theorem ggX9_spy_X9_within : GoodIn wsX9_spy wsX9_within := goodIn_r _ [10] rfl (by decide +kernel)
set_option maxRecDepth 20000 in
theorem gX9_spy_X9_within : GoodIn wsX9_spy (va_wsS RX9 97 yX9_within wsX9_within) := goodIn_app (goodIn_of _ (by decide +kernel)) ggX9_spy_X9_within
set_option maxRecDepth 20000 in
theorem ggX9_spy_X2_lotsTaken : GoodIn wsX9_spy wsX2_lotsTaken := goodIn_r _ [15, 16, 17, 161, 162, 163, 164, 165, 166] rfl (by decide +kernel)
set_option maxRecDepth 20000 in
theorem gX9_spy_X2_lotsTaken : GoodIn wsX9_spy (wsV RX9 158 RX2 yX2_lotsTaken wsX2_lotsTaken) := goodIn_app (goodIn_of _ (by decide +kernel)) ggX9_spy_X2_lotsTaken
set_option maxRecDepth 20000 in
theorem ggX9_spy_X9_waysOf : GoodIn wsX9_spy wsX9_waysOf := goodIn_r _ [20] rfl (by decide +kernel)
set_option maxRecDepth 20000 in
theorem gX9_spy_X9_waysOf : GoodIn wsX9_spy (va_wsS RX9 161 yX9_waysOf wsX9_waysOf) := goodIn_app (goodIn_of _ (by decide +kernel)) ggX9_spy_X9_waysOf
set_option maxRecDepth 20000 in
theorem ggX9_spy_X6_rowsAreAlike : GoodIn wsX9_spy wsX6_rowsAreAlike := goodIn_r _ [25, 26, 27, 28, 29, 24, 30, 31, 32, 33, 6, 34, 35, 36, 152, 153, 154, 155, 156, 157, 161, 162, 163, 164, 165, 166] rfl (by decide +kernel)
set_option maxRecDepth 20000 in
theorem gX9_spy_X6_rowsAreAlike : GoodIn wsX9_spy (wsV RX9 164 RX6 yX6_rowsAreAlike wsX6_rowsAreAlike) := goodIn_app (goodIn_of _ (by decide +kernel)) ggX9_spy_X6_rowsAreAlike
set_option maxRecDepth 20000 in
theorem ggX9_spy_X5_watchFirstRow : GoodIn wsX9_spy wsX5_watchFirstRow := goodIn_r _ [41, 42, 43, 44, 45, 46, 47, 48, 49, 6, 50, 51, 52, 53, 54, 55, 56, 57, 58, 59, 60, 61, 62, 63, 64, 65, 66, 67, 68, 69, 28, 29, 24, 30, 31, 32, 33, 34, 35, 36, 70, 71, 72, 73, 74, 75, 76, 77, 78, 79, 80, 81, 82, 83, 84, 85, 86, 87, 88, 89, 90, 91, 92, 93, 94, 95, 96, 97, 98, 99, 100, 101, 102, 103, 104, 105, 106, 107, 108, 109, 110, 111, 112, 113, 114, 115, 116, 117, 118, 40, 119, 120, 121, 122, 123, 124, 125, 126, 127, 128, 129, 130, 131, 132, 133, 134, 135, 136, 137, 12, 13, 14, 15, 16, 17, 158, 159, 160, 167, 168, 169, 170, 171, 172, 173, 174, 175, 176, 177, 178, 179, 152, 153, 154, 155, 156, 157, 161, 162, 163, 164, 165, 166] rfl (by decide +kernel)
set_option maxRecDepth 20000 in
theorem gX9_spy_X5_watchFirstRow : GoodIn wsX9_spy (wsV RX9 168 RX5 yX5_watchFirstRow wsX5_watchFirstRow) := goodIn_app (goodIn_of _ (by decide +kernel)) ggX9_spy_X5_watchFirstRow
set_option maxRecDepth 20000 in
theorem ggX9_spy_X5_secondRowDiffers : GoodIn wsX9_spy wsX5_secondRowDiffers := goodIn_r _ [141, 43, 142, 49, 6, 50, 51, 52, 47, 53, 54, 55, 56, 57, 58, 59, 60, 61, 62, 63, 64, 65, 66, 67, 68, 69, 28, 29, 24, 30, 31, 32, 33, 34, 35, 36, 70, 71, 72, 73, 74, 75, 76, 77, 78, 79, 80, 81, 82, 83, 84, 85, 86, 87, 88, 89, 90, 91, 92, 93, 94, 95, 96, 97, 98, 99, 100, 101, 102, 103, 104, 105, 106, 107, 108, 109, 110, 111, 112, 113, 114, 115, 116, 117, 118, 40, 119, 120, 121, 122, 123, 124, 125, 126, 127, 128, 42, 129, 130, 131, 132, 133, 134, 135, 136, 137, 12, 13, 14, 15, 16, 17, 158, 159, 160, 167, 168, 169, 170, 171, 172, 173, 174, 175, 176, 177, 178, 179, 152, 153, 154, 155, 156, 157, 161, 162, 163, 164, 165, 166] rfl (by decide +kernel)
set_option maxRecDepth 20000 in
theorem gX9_spy_X5_secondRowDiffers : GoodIn wsX9_spy (wsV RX9 175 RX5 yX5_secondRowDiffers wsX5_secondRowDiffers) := goodIn_app (goodIn_of _ (by decide +kernel)) ggX9_spy_X5_secondRowDiffers
theorem dX9_spy_0 : decode cX9_spy 0 = .ok (.iload_n 1, 1) := by decide +kernel
theorem dX9_spy_1 : decode cX9_spy 1 = .ok (.invokestatic 121, 3) := by decide +kernel
theorem dX9_spy_4 : decode cX9_spy 4 = .ok (.ifCond .eq 12, 3) := by decide +kernel
theorem dX9_spy_7 : decode cX9_spy 7 = .ok (.iload_n 2, 1) := by decide +kernel
theorem dX9_spy_8 : decode cX9_spy 8 = .ok (.iconst 0, 1) := by decide +kernel
theorem dX9_spy_9 : decode cX9_spy 9 = .ok (.iconst 1, 1) := by decide +kernel
theorem dX9_spy_10 : decode cX9_spy 10 = .ok (.invokestatic 97, 3) := by decide +kernel
theorem dX9_spy_13 : decode cX9_spy 13 = .ok (.ifCond .ne 5, 3) := by decide +kernel
theorem dX9_spy_16 : decode cX9_spy 16 = .ok (.iconst (-1), 1) := by decide +kernel
theorem dX9_spy_17 : decode cX9_spy 17 = .ok (.ireturn, 1) := by decide +kernel
theorem dX9_spy_18 : decode cX9_spy 18 = .ok (.aload_n 0, 1) := by decide +kernel
theorem dX9_spy_19 : decode cX9_spy 19 = .ok (.getfield 19, 3) := by decide +kernel
theorem dX9_spy_22 : decode cX9_spy 22 = .ok (.getfield 105, 3) := by decide +kernel
theorem dX9_spy_25 : decode cX9_spy 25 = .ok (.aload_n 0, 1) := by decide +kernel
theorem dX9_spy_26 : decode cX9_spy 26 = .ok (.getfield 19, 3) := by decide +kernel
theorem dX9_spy_29 : decode cX9_spy 29 = .ok (.getfield 85, 3) := by decide +kernel
theorem dX9_spy_32 : decode cX9_spy 32 = .ok (.invokevirtual 158, 3) := by decide +kernel
theorem dX9_spy_35 : decode cX9_spy 35 = .ok (.invokestatic 161, 3) := by decide +kernel
theorem dX9_spy_38 : decode cX9_spy 38 = .ok (.istore_n 3, 1) := by decide +kernel
theorem dX9_spy_39 : decode cX9_spy 39 = .ok (.iload_n 3, 1) := by decide +kernel
theorem dX9_spy_40 : decode cX9_spy 40 = .ok (.sipush 4096, 3) := by decide +kernel
theorem dX9_spy_43 : decode cX9_spy 43 = .ok (.if_icmp .le 6, 3) := by decide +kernel
theorem dX9_spy_46 : decode cX9_spy 46 = .ok (.bipush (-2), 2) := by decide +kernel
theorem dX9_spy_48 : decode cX9_spy 48 = .ok (.ireturn, 1) := by decide +kernel
theorem dX9_spy_49 : decode cX9_spy 49 = .ok (.iload_n 2, 1) := by decide +kernel
theorem dX9_spy_50 : decode cX9_spy 50 = .ok (.ifCond .ne 15, 3) := by decide +kernel
theorem dX9_spy_53 : decode cX9_spy 53 = .ok (.aload_n 0, 1) := by decide +kernel
theorem dX9_spy_54 : decode cX9_spy 54 = .ok (.getfield 19, 3) := by decide +kernel
theorem dX9_spy_57 : decode cX9_spy 57 = .ok (.invokevirtual 164, 3) := by decide +kernel
theorem dX9_spy_60 : decode cX9_spy 60 = .ok (.ifCond .eq 5, 3) := by decide +kernel
theorem dX9_spy_63 : decode cX9_spy 63 = .ok (.iconst 0, 1) := by decide +kernel
theorem dX9_spy_64 : decode cX9_spy 64 = .ok (.ireturn, 1) := by decide +kernel
theorem dX9_spy_65 : decode cX9_spy 65 = .ok (.aload_n 0, 1) := by decide +kernel
theorem dX9_spy_66 : decode cX9_spy 66 = .ok (.getfield 61, 3) := by decide +kernel
theorem dX9_spy_69 : decode cX9_spy 69 = .ok (.aload_n 0, 1) := by decide +kernel
theorem dX9_spy_70 : decode cX9_spy 70 = .ok (.getfield 19, 3) := by decide +kernel
theorem dX9_spy_73 : decode cX9_spy 73 = .ok (.aload_n 0, 1) := by decide +kernel
theorem dX9_spy_74 : decode cX9_spy 74 = .ok (.getfield 33, 3) := by decide +kernel
theorem dX9_spy_77 : decode cX9_spy 77 = .ok (.iload_n 1, 1) := by decide +kernel
theorem dX9_spy_78 : decode cX9_spy 78 = .ok (.iload_n 3, 1) := by decide +kernel
theorem dX9_spy_79 : decode cX9_spy 79 = .ok (.invokevirtual 168, 3) := by decide +kernel
theorem dX9_spy_82 : decode cX9_spy 82 = .ok (.iload_n 2, 1) := by decide +kernel
theorem dX9_spy_83 : decode cX9_spy 83 = .ok (.iconst 1, 1) := by decide +kernel
theorem dX9_spy_84 : decode cX9_spy 84 = .ok (.if_icmp .ne 11, 3) := by decide +kernel
theorem dX9_spy_87 : decode cX9_spy 87 = .ok (.aload_n 0, 1) := by decide +kernel
theorem dX9_spy_88 : decode cX9_spy 88 = .ok (.getfield 61, 3) := by decide +kernel
theorem dX9_spy_91 : decode cX9_spy 91 = .ok (.getfield 172, 3) := by decide +kernel
theorem dX9_spy_94 : decode cX9_spy 94 = .ok (.ireturn, 1) := by decide +kernel
theorem dX9_spy_95 : decode cX9_spy 95 = .ok (.aload_n 0, 1) := by decide +kernel
theorem dX9_spy_96 : decode cX9_spy 96 = .ok (.getfield 61, 3) := by decide +kernel
theorem dX9_spy_99 : decode cX9_spy 99 = .ok (.aload_n 0, 1) := by decide +kernel
theorem dX9_spy_100 : decode cX9_spy 100 = .ok (.getfield 19, 3) := by decide +kernel
theorem dX9_spy_103 : decode cX9_spy 103 = .ok (.aload_n 0, 1) := by decide +kernel
theorem dX9_spy_104 : decode cX9_spy 104 = .ok (.getfield 33, 3) := by decide +kernel
theorem dX9_spy_107 : decode cX9_spy 107 = .ok (.iload_n 1, 1) := by decide +kernel
theorem dX9_spy_108 : decode cX9_spy 108 = .ok (.iload_n 3, 1) := by decide +kernel
theorem dX9_spy_109 : decode cX9_spy 109 = .ok (.invokevirtual 175, 3) := by decide +kernel
theorem dX9_spy_112 : decode cX9_spy 112 = .ok (.ifCond .eq 7, 3) := by decide +kernel
theorem dX9_spy_115 : decode cX9_spy 115 = .ok (.iconst 1, 1) := by decide +kernel
theorem dX9_spy_116 : decode cX9_spy 116 = .ok (.goto 4, 3) := by decide +kernel
theorem dX9_spy_119 : decode cX9_spy 119 = .ok (.iconst 0, 1) := by decide +kernel
theorem dX9_spy_120 : decode cX9_spy 120 = .ok (.ireturn, 1) := by decide +kernel
set_option maxRecDepth 20000 in
theorem ggX9_tells_X9_isHand : GoodIn wsX9_tells wsX9_isHand := goodIn_r _ [6, 7, 8, 5, 9] rfl (by decide +kernel)
set_option maxRecDepth 20000 in
theorem gX9_tells_X9_isHand : GoodIn wsX9_tells (va_wsS RX9 121 yX9_isHand wsX9_isHand) := goodIn_app (goodIn_of _ (by decide +kernel)) ggX9_tells_X9_isHand
set_option maxRecDepth 20000 in
theorem ggX9_tells_X9_within : GoodIn wsX9_tells wsX9_within := goodIn_r _ [9] rfl (by decide +kernel)
set_option maxRecDepth 20000 in
theorem gX9_tells_X9_within : GoodIn wsX9_tells (va_wsS RX9 97 yX9_within wsX9_within) := goodIn_app (goodIn_of _ (by decide +kernel)) ggX9_tells_X9_within
set_option maxRecDepth 20000 in
theorem ggX9_tells_X2_inputsOf : GoodIn wsX9_tells wsX2_inputsOf := goodIn_r _ [14, 15, 16, 17, 18, 13, 19, 20, 21, 5, 22, 73, 74, 75, 76, 77, 78] rfl (by decide +kernel)
set_option maxRecDepth 20000 in
theorem gX9_tells_X2_inputsOf : GoodIn wsX9_tells (wsV RX9 179 RX2 yX2_inputsOf wsX2_inputsOf) := goodIn_app (goodIn_of _ (by decide +kernel)) ggX9_tells_X2_inputsOf
set_option maxRecDepth 20000 in
theorem ggX9_tells_X9_waysOf : GoodIn wsX9_tells wsX9_waysOf := goodIn_r _ [25] rfl (by decide +kernel)
set_option maxRecDepth 20000 in
theorem gX9_tells_X9_waysOf : GoodIn wsX9_tells (va_wsS RX9 161 yX9_waysOf wsX9_waysOf) := goodIn_app (goodIn_of _ (by decide +kernel)) ggX9_tells_X9_waysOf
set_option maxRecDepth 20000 in
theorem ggX9_tells_X4_sameEnds : GoodIn wsX9_tells wsX4_sameEnds := goodIn_r _ [30, 31, 32, 33, 34, 35, 36, 37, 38, 39, 21, 5, 22, 40, 41, 42, 43, 44, 45, 46, 29, 47, 48, 49, 17, 18, 13, 19, 20, 50, 51, 52, 53, 54, 55, 56, 57, 67, 68, 69, 70, 71, 72, 79, 80, 81, 82, 83, 84, 85, 86, 87, 88, 89, 90, 91, 73, 74, 75, 76, 77, 78] rfl (by decide +kernel)
set_option maxRecDepth 20000 in
theorem gX9_tells_X4_sameEnds : GoodIn wsX9_tells (wsV RX9 183 RX4 yX4_sameEnds wsX4_sameEnds) := goodIn_app (goodIn_of _ (by decide +kernel)) ggX9_tells_X4_sameEnds
theorem dX9_tells_0 : decode cX9_tells 0 = .ok (.iload_n 1, 1) := by decide +kernel
theorem dX9_tells_1 : decode cX9_tells 1 = .ok (.invokestatic 121, 3) := by decide +kernel
theorem dX9_tells_4 : decode cX9_tells 4 = .ok (.ifCond .eq 12, 3) := by decide +kernel
theorem dX9_tells_7 : decode cX9_tells 7 = .ok (.iload_n 2, 1) := by decide +kernel
theorem dX9_tells_8 : decode cX9_tells 8 = .ok (.iconst 0, 1) := by decide +kernel
theorem dX9_tells_9 : decode cX9_tells 9 = .ok (.iconst 1, 1) := by decide +kernel
theorem dX9_tells_10 : decode cX9_tells 10 = .ok (.invokestatic 97, 3) := by decide +kernel
theorem dX9_tells_13 : decode cX9_tells 13 = .ok (.ifCond .ne 5, 3) := by decide +kernel
theorem dX9_tells_16 : decode cX9_tells 16 = .ok (.iconst (-1), 1) := by decide +kernel
theorem dX9_tells_17 : decode cX9_tells 17 = .ok (.ireturn, 1) := by decide +kernel
theorem dX9_tells_18 : decode cX9_tells 18 = .ok (.aload_n 0, 1) := by decide +kernel
theorem dX9_tells_19 : decode cX9_tells 19 = .ok (.getfield 19, 3) := by decide +kernel
theorem dX9_tells_22 : decode cX9_tells 22 = .ok (.getfield 105, 3) := by decide +kernel
theorem dX9_tells_25 : decode cX9_tells 25 = .ok (.aload_n 0, 1) := by decide +kernel
theorem dX9_tells_26 : decode cX9_tells 26 = .ok (.getfield 19, 3) := by decide +kernel
theorem dX9_tells_29 : decode cX9_tells 29 = .ok (.getfield 85, 3) := by decide +kernel
theorem dX9_tells_32 : decode cX9_tells 32 = .ok (.getfield 108, 3) := by decide +kernel
theorem dX9_tells_35 : decode cX9_tells 35 = .ok (.aload_n 0, 1) := by decide +kernel
theorem dX9_tells_36 : decode cX9_tells 36 = .ok (.getfield 19, 3) := by decide +kernel
theorem dX9_tells_39 : decode cX9_tells 39 = .ok (.getfield 85, 3) := by decide +kernel
theorem dX9_tells_42 : decode cX9_tells 42 = .ok (.iload_n 1, 1) := by decide +kernel
theorem dX9_tells_43 : decode cX9_tells 43 = .ok (.invokevirtual 179, 3) := by decide +kernel
theorem dX9_tells_46 : decode cX9_tells 46 = .ok (.isub, 1) := by decide +kernel
theorem dX9_tells_47 : decode cX9_tells 47 = .ok (.invokestatic 161, 3) := by decide +kernel
theorem dX9_tells_50 : decode cX9_tells 50 = .ok (.istore_n 3, 1) := by decide +kernel
theorem dX9_tells_51 : decode cX9_tells 51 = .ok (.iload_n 3, 1) := by decide +kernel
theorem dX9_tells_52 : decode cX9_tells 52 = .ok (.sipush 4096, 3) := by decide +kernel
theorem dX9_tells_55 : decode cX9_tells 55 = .ok (.if_icmp .le 6, 3) := by decide +kernel
theorem dX9_tells_58 : decode cX9_tells 58 = .ok (.bipush (-2), 2) := by decide +kernel
theorem dX9_tells_60 : decode cX9_tells 60 = .ok (.ireturn, 1) := by decide +kernel
theorem dX9_tells_61 : decode cX9_tells 61 = .ok (.iload_n 2, 1) := by decide +kernel
theorem dX9_tells_62 : decode cX9_tells 62 = .ok (.iconst 1, 1) := by decide +kernel
theorem dX9_tells_63 : decode cX9_tells 63 = .ok (.if_icmp .ne 7, 3) := by decide +kernel
theorem dX9_tells_66 : decode cX9_tells 66 = .ok (.iload_n 3, 1) := by decide +kernel
theorem dX9_tells_67 : decode cX9_tells 67 = .ok (.goto 16, 3) := by decide +kernel
theorem dX9_tells_70 : decode cX9_tells 70 = .ok (.aload_n 0, 1) := by decide +kernel
theorem dX9_tells_71 : decode cX9_tells 71 = .ok (.getfield 33, 3) := by decide +kernel
theorem dX9_tells_74 : decode cX9_tells 74 = .ok (.aload_n 0, 1) := by decide +kernel
theorem dX9_tells_75 : decode cX9_tells 75 = .ok (.getfield 19, 3) := by decide +kernel
theorem dX9_tells_78 : decode cX9_tells 78 = .ok (.iload_n 1, 1) := by decide +kernel
theorem dX9_tells_79 : decode cX9_tells 79 = .ok (.iload_n 3, 1) := by decide +kernel
theorem dX9_tells_80 : decode cX9_tells 80 = .ok (.invokevirtual 183, 3) := by decide +kernel
theorem dX9_tells_83 : decode cX9_tells 83 = .ok (.ireturn, 1) := by decide +kernel
set_option maxRecDepth 20000 in
theorem ggX9_trade_X9_within : GoodIn wsX9_trade wsX9_within := goodIn_r _ [5] rfl (by decide +kernel)
set_option maxRecDepth 20000 in
theorem gX9_trade_X9_within : GoodIn wsX9_trade (va_wsS RX9 97 yX9_within wsX9_within) := goodIn_app (goodIn_of _ (by decide +kernel)) ggX9_trade_X9_within
set_option maxRecDepth 20000 in
theorem ggX9_trade_X9_swap : GoodIn wsX9_trade wsX9_swap := goodIn_r _ [8, 9, 10, 4, 11, 12, 13, 14] rfl (by decide +kernel)
set_option maxRecDepth 20000 in
theorem gX9_trade_X9_swap : GoodIn wsX9_trade (va_wsS RX9 114 yX9_swap wsX9_swap) := goodIn_app (goodIn_of _ (by decide +kernel)) ggX9_trade_X9_swap
theorem dX9_trade_0 : decode cX9_trade 0 = .ok (.iload_n 1, 1) := by decide +kernel
theorem dX9_trade_1 : decode cX9_trade 1 = .ok (.iconst 0, 1) := by decide +kernel
theorem dX9_trade_2 : decode cX9_trade 2 = .ok (.iconst 2, 1) := by decide +kernel
theorem dX9_trade_3 : decode cX9_trade 3 = .ok (.invokestatic 97, 3) := by decide +kernel
theorem dX9_trade_6 : decode cX9_trade 6 = .ok (.ifCond .eq 14, 3) := by decide +kernel
theorem dX9_trade_9 : decode cX9_trade 9 = .ok (.iload_n 2, 1) := by decide +kernel
theorem dX9_trade_10 : decode cX9_trade 10 = .ok (.iconst 0, 1) := by decide +kernel
theorem dX9_trade_11 : decode cX9_trade 11 = .ok (.sipush 999, 3) := by decide +kernel
theorem dX9_trade_14 : decode cX9_trade 14 = .ok (.invokestatic 97, 3) := by decide +kernel
theorem dX9_trade_17 : decode cX9_trade 17 = .ok (.ifCond .ne 5, 3) := by decide +kernel
theorem dX9_trade_20 : decode cX9_trade 20 = .ok (.iconst (-1), 1) := by decide +kernel
theorem dX9_trade_21 : decode cX9_trade 21 = .ok (.ireturn, 1) := by decide +kernel
theorem dX9_trade_22 : decode cX9_trade 22 = .ok (.aload_n 0, 1) := by decide +kernel
theorem dX9_trade_23 : decode cX9_trade 23 = .ok (.getfield 40, 3) := by decide +kernel
theorem dX9_trade_26 : decode cX9_trade 26 = .ok (.getfield 187, 3) := by decide +kernel
theorem dX9_trade_29 : decode cX9_trade 29 = .ok (.iload_n 1, 1) := by decide +kernel
theorem dX9_trade_30 : decode cX9_trade 30 = .ok (.iload_n 2, 1) := by decide +kernel
theorem dX9_trade_31 : decode cX9_trade 31 = .ok (.invokestatic 114, 3) := by decide +kernel
theorem dX9_trade_34 : decode cX9_trade 34 = .ok (.ireturn, 1) := by decide +kernel
set_option maxRecDepth 20000 in
theorem ggX9_least_X9_within : GoodIn wsX9_least wsX9_within := goodIn_r _ [6] rfl (by decide +kernel)
set_option maxRecDepth 20000 in
theorem gX9_least_X9_within : GoodIn wsX9_least (va_wsS RX9 97 yX9_within wsX9_within) := goodIn_app (goodIn_of _ (by decide +kernel)) ggX9_least_X9_within
set_option maxRecDepth 20000 in
theorem ggX9_least_X8_cheapestSet : GoodIn wsX9_least wsX8_cheapestSet := goodIn_r _ [11, 12, 13, 14, 10, 15, 16, 17, 18, 19, 20, 21, 22, 23, 24, 25, 26, 27, 5, 28, 29, 30, 31, 32, 33, 34, 35, 36, 37, 38, 39, 40, 41, 42, 59, 60, 61, 62, 63, 64, 65, 66] rfl (by decide +kernel)
set_option maxRecDepth 20000 in
theorem gX9_least_X8_cheapestSet : GoodIn wsX9_least (wsV RX9 190 RX8 yX8_cheapestSet wsX8_cheapestSet) := goodIn_app (goodIn_of _ (by decide +kernel)) ggX9_least_X8_cheapestSet
set_option maxRecDepth 20000 in
theorem ggX9_least_X8_priceOf : GoodIn wsX9_least wsX8_priceOf := goodIn_r _ [34, 35, 36, 37, 38, 39, 40, 41, 42, 27, 5, 28, 65, 66] rfl (by decide +kernel)
set_option maxRecDepth 20000 in
theorem gX9_least_X8_priceOf : GoodIn wsX9_least (wsV RX9 197 RX8 yX8_priceOf wsX8_priceOf) := goodIn_app (goodIn_of _ (by decide +kernel)) ggX9_least_X8_priceOf
theorem dX9_least_0 : decode cX9_least 0 = .ok (.iload_n 1, 1) := by decide +kernel
theorem dX9_least_1 : decode cX9_least 1 = .ok (.iconst 0, 1) := by decide +kernel
theorem dX9_least_2 : decode cX9_least 2 = .ok (.bipush 99, 2) := by decide +kernel
theorem dX9_least_4 : decode cX9_least 4 = .ok (.invokestatic 97, 3) := by decide +kernel
theorem dX9_least_7 : decode cX9_least 7 = .ok (.ifCond .eq 12, 3) := by decide +kernel
theorem dX9_least_10 : decode cX9_least 10 = .ok (.iload_n 2, 1) := by decide +kernel
theorem dX9_least_11 : decode cX9_least 11 = .ok (.iconst 0, 1) := by decide +kernel
theorem dX9_least_12 : decode cX9_least 12 = .ok (.iconst 1, 1) := by decide +kernel
theorem dX9_least_13 : decode cX9_least 13 = .ok (.invokestatic 97, 3) := by decide +kernel
theorem dX9_least_16 : decode cX9_least 16 = .ok (.ifCond .ne 5, 3) := by decide +kernel

set_option maxRecDepth 20000 in
theorem ggX3_init_X2_init : GoodIn wsX3_init wsX2_init := goodIn_r _ [9, 10, 2, 3, 11, 12, 13, 14, 15, 16, 17, 18, 19] rfl (by decide +kernel)
set_option maxRecDepth 20000 in
theorem gX3_init_X2_init_n11 : GoodIn wsX3_init (wsX2_init) := ggX3_init_X2_init
theorem dX3_init_0 : decode cX3_init 0 = .ok (.aload_n 0, 1) := by decide +kernel
theorem dX3_init_1 : decode cX3_init 1 = .ok (.invokespecial 3, 3) := by decide +kernel
theorem dX3_init_4 : decode cX3_init 4 = .ok (.aload_n 0, 1) := by decide +kernel
theorem dX3_init_5 : decode cX3_init 5 = .ok (.new 9, 3) := by decide +kernel
theorem dX3_init_8 : decode cX3_init 8 = .ok (.dup, 1) := by decide +kernel
theorem dX3_init_9 : decode cX3_init 9 = .ok (.invokespecial 11, 3) := by decide +kernel
theorem dX3_init_12 : decode cX3_init 12 = .ok (.putfield 12, 3) := by decide +kernel
theorem dX3_init_15 : decode cX3_init 15 = .ok (.return_, 1) := by decide +kernel
set_option maxRecDepth 20000 in
theorem ggX3_faultOf_X2_empty : GoodIn wsX3_faultOf wsX2_empty := goodIn_r _ [9, 10, 11, 12, 13, 90, 91, 92, 93, 94, 95] rfl (by decide +kernel)
set_option maxRecDepth 20000 in
theorem gX3_faultOf_X2_empty : GoodIn wsX3_faultOf (wsV RX3 18 RX2 yX2_empty wsX2_empty) := goodIn_app (goodIn_of _ (by decide +kernel)) ggX3_faultOf_X2_empty
set_option maxRecDepth 20000 in
theorem ggX3_faultOf_X3_readItem : GoodIn wsX3_faultOf wsX3_readItem := goodIn_r _ [18, 19, 4, 1, 20, 21, 22, 17, 23, 2, 3, 24, 25, 26, 27, 28, 29, 30, 31, 32, 33, 34, 35, 36, 37, 38, 39, 40, 41, 42, 43, 44, 45, 46, 47, 48, 49, 50, 51, 52, 53, 54, 55, 56, 57, 8, 58, 10, 59, 60, 61, 62, 63, 64, 65, 66, 67, 68, 69, 70, 11, 71, 72, 12, 13, 73, 74, 75, 76, 77, 78, 79, 80, 81, 82, 83, 84, 85, 86, 87, 88, 89, 96, 97, 90, 91, 92, 93, 94, 95] rfl (by decide +kernel)
set_option maxRecDepth 20000 in
theorem gX3_faultOf_X3_readItem : GoodIn wsX3_faultOf (wsV RX3 25 RX3 yX3_readItem wsX3_readItem) := goodIn_app (goodIn_of _ (by decide +kernel)) ggX3_faultOf_X3_readItem
set_option maxRecDepth 20000 in
theorem ggX3_faultOf_X3_step : GoodIn wsX3_faultOf wsX3_step := goodIn_r _ [23, 2, 3, 19, 4, 24, 25, 26, 27, 28, 29, 30, 31, 32, 17, 33, 34, 35, 36, 37, 38, 39, 40, 41, 42, 43, 44, 45, 46, 47, 48, 49, 50, 85, 86, 87, 88, 89, 96, 97] rfl (by decide +kernel)
set_option maxRecDepth 20000 in
theorem gX3_faultOf_X3_step : GoodIn wsX3_faultOf (wsV RX3 32 RX3 yX3_step wsX3_step) := goodIn_app (goodIn_of _ (by decide +kernel)) ggX3_faultOf_X3_step
theorem dX3_faultOf_0 : decode cX3_faultOf 0 = .ok (.aload_n 0, 1) := by decide +kernel
theorem dX3_faultOf_1 : decode cX3_faultOf 1 = .ok (.getfield 12, 3) := by decide +kernel
theorem dX3_faultOf_4 : decode cX3_faultOf 4 = .ok (.invokevirtual 18, 3) := by decide +kernel
theorem dX3_faultOf_7 : decode cX3_faultOf 7 = .ok (.aload_n 0, 1) := by decide +kernel
theorem dX3_faultOf_8 : decode cX3_faultOf 8 = .ok (.iconst 0, 1) := by decide +kernel
theorem dX3_faultOf_9 : decode cX3_faultOf 9 = .ok (.putfield 21, 3) := by decide +kernel
theorem dX3_faultOf_12 : decode cX3_faultOf 12 = .ok (.iconst 0, 1) := by decide +kernel
theorem dX3_faultOf_13 : decode cX3_faultOf 13 = .ok (.istore_n 2, 1) := by decide +kernel
theorem dX3_faultOf_14 : decode cX3_faultOf 14 = .ok (.iload_n 2, 1) := by decide +kernel
theorem dX3_faultOf_15 : decode cX3_faultOf 15 = .ok (.bipush 16, 2) := by decide +kernel
theorem dX3_faultOf_17 : decode cX3_faultOf 17 = .ok (.if_icmp .ge 50, 3) := by decide +kernel
theorem dX3_faultOf_20 : decode cX3_faultOf 20 = .ok (.aload_n 0, 1) := by decide +kernel
theorem dX3_faultOf_21 : decode cX3_faultOf 21 = .ok (.aload_n 1, 1) := by decide +kernel
theorem dX3_faultOf_22 : decode cX3_faultOf 22 = .ok (.invokevirtual 25, 3) := by decide +kernel
theorem dX3_faultOf_25 : decode cX3_faultOf 25 = .ok (.istore_n 3, 1) := by decide +kernel
theorem dX3_faultOf_26 : decode cX3_faultOf 26 = .ok (.iload_n 3, 1) := by decide +kernel
theorem dX3_faultOf_27 : decode cX3_faultOf 27 = .ok (.ifCond .ge 8, 3) := by decide +kernel
theorem dX3_faultOf_30 : decode cX3_faultOf 30 = .ok (.aload_n 0, 1) := by decide +kernel
theorem dX3_faultOf_31 : decode cX3_faultOf 31 = .ok (.getfield 29, 3) := by decide +kernel
theorem dX3_faultOf_34 : decode cX3_faultOf 34 = .ok (.ireturn, 1) := by decide +kernel
theorem dX3_faultOf_35 : decode cX3_faultOf 35 = .ok (.iload_n 3, 1) := by decide +kernel
theorem dX3_faultOf_36 : decode cX3_faultOf 36 = .ok (.iconst 5, 1) := by decide +kernel
theorem dX3_faultOf_37 : decode cX3_faultOf 37 = .ok (.if_icmp .ne 24, 3) := by decide +kernel
theorem dX3_faultOf_40 : decode cX3_faultOf 40 = .ok (.aload_n 0, 1) := by decide +kernel
theorem dX3_faultOf_41 : decode cX3_faultOf 41 = .ok (.aload_n 1, 1) := by decide +kernel
theorem dX3_faultOf_42 : decode cX3_faultOf 42 = .ok (.invokevirtual 32, 3) := by decide +kernel
theorem dX3_faultOf_45 : decode cX3_faultOf 45 = .ok (.aload_n 0, 1) := by decide +kernel
theorem dX3_faultOf_46 : decode cX3_faultOf 46 = .ok (.getfield 36, 3) := by decide +kernel
theorem dX3_faultOf_49 : decode cX3_faultOf 49 = .ok (.ifCond .ne 7, 3) := by decide +kernel
theorem dX3_faultOf_52 : decode cX3_faultOf 52 = .ok (.iconst (-1), 1) := by decide +kernel
theorem dX3_faultOf_53 : decode cX3_faultOf 53 = .ok (.goto 7, 3) := by decide +kernel
theorem dX3_faultOf_56 : decode cX3_faultOf 56 = .ok (.aload_n 0, 1) := by decide +kernel
theorem dX3_faultOf_57 : decode cX3_faultOf 57 = .ok (.getfield 29, 3) := by decide +kernel
theorem dX3_faultOf_60 : decode cX3_faultOf 60 = .ok (.ireturn, 1) := by decide +kernel
theorem dX3_faultOf_61 : decode cX3_faultOf 61 = .ok (.iinc 2 1, 3) := by decide +kernel
theorem dX3_faultOf_64 : decode cX3_faultOf 64 = .ok (.goto (-50), 3) := by decide +kernel
theorem dX3_faultOf_67 : decode cX3_faultOf 67 = .ok (.aload_n 0, 1) := by decide +kernel
theorem dX3_faultOf_68 : decode cX3_faultOf 68 = .ok (.getfield 29, 3) := by decide +kernel
theorem dX3_faultOf_71 : decode cX3_faultOf 71 = .ok (.ireturn, 1) := by decide +kernel
set_option maxRecDepth 20000 in
theorem ggX3_readItem_X3_step : GoodIn wsX3_readItem wsX3_step := goodIn_r _ [8, 9, 10, 1, 2, 11, 12, 13, 14, 15, 16, 17, 18, 19, 7, 20, 21, 22, 23, 24, 25, 26, 27, 28, 29, 30, 31, 32, 33, 34, 35, 36, 37, 77, 78, 79, 80, 81, 82, 83] rfl (by decide +kernel)
set_option maxRecDepth 20000 in
theorem gX3_readItem_X3_step : GoodIn wsX3_readItem (wsV RX3 32 RX3 yX3_step wsX3_step) := goodIn_app (goodIn_of _ (by decide +kernel)) ggX3_readItem_X3_step
set_option maxRecDepth 20000 in
theorem ggX3_readItem_X3_mayBegin : GoodIn wsX3_readItem wsX3_mayBegin := goodIn_r _ [41, 3, 77, 78, 79, 80, 81, 84, 85, 86, 87, 88, 89] rfl (by decide +kernel)
set_option maxRecDepth 20000 in
theorem gX3_readItem_X3_mayBegin : GoodIn wsX3_readItem (wsV RX3 42 RX3 yX3_mayBegin wsX3_mayBegin) := goodIn_app (goodIn_of _ (by decide +kernel)) ggX3_readItem_X3_mayBegin
set_option maxRecDepth 20000 in
theorem ggX3_readItem_X2_hasBecome : GoodIn wsX3_readItem wsX2_hasBecome := goodIn_r _ [46, 47, 84, 85, 86, 87, 88, 89] rfl (by decide +kernel)
set_option maxRecDepth 20000 in
theorem gX3_readItem_X2_hasBecome : GoodIn wsX3_readItem (wsV RX3 46 RX2 yX2_hasBecome wsX2_hasBecome) := goodIn_app (goodIn_of _ (by decide +kernel)) ggX3_readItem_X2_hasBecome
set_option maxRecDepth 20000 in
theorem ggX3_readItem_X3_readNumber : GoodIn wsX3_readItem wsX3_readNumber := goodIn_r _ [51, 2, 1, 4, 5, 6, 7, 8, 9, 10, 11, 12, 13, 14, 15, 16, 17, 18, 19, 20, 21, 22, 23, 24, 25, 26, 27, 28, 29, 30, 31, 32, 33, 34, 35, 36, 37, 77, 78, 79, 80, 81, 82, 83] rfl (by decide +kernel)
set_option maxRecDepth 20000 in
theorem gX3_readItem_X3_readNumber : GoodIn wsX3_readItem (wsV RX3 49 RX3 yX3_readNumber wsX3_readNumber) := goodIn_app (goodIn_of _ (by decide +kernel)) ggX3_readItem_X3_readNumber
set_option maxRecDepth 20000 in
theorem ggX3_readItem_X3_readUsed : GoodIn wsX3_readItem wsX3_readUsed := goodIn_r _ [55, 2, 3, 1, 4, 5, 6, 7, 8, 9, 10, 11, 12, 13, 14, 15, 16, 17, 18, 19, 20, 21, 22, 23, 24, 25, 26, 27, 28, 29, 30, 31, 32, 33, 34, 35, 36, 37, 42, 43, 44, 45, 46, 47, 77, 78, 79, 80, 81, 82, 83, 84, 85, 86, 87, 88, 89] rfl (by decide +kernel)
set_option maxRecDepth 20000 in
theorem gX3_readItem_X3_readUsed : GoodIn wsX3_readItem (wsV RX3 53 RX3 yX3_readUsed wsX3_readUsed) := goodIn_app (goodIn_of _ (by decide +kernel)) ggX3_readItem_X3_readUsed
set_option maxRecDepth 20000 in
theorem ggX3_readItem_X2_take : GoodIn wsX3_readItem wsX2_take := goodIn_r _ [59, 60, 61, 62, 47, 63, 64, 65, 66, 67, 45, 68, 69, 70, 71, 72, 73, 22, 74, 75, 76, 84, 85, 86, 87, 88, 89] rfl (by decide +kernel)
set_option maxRecDepth 20000 in
theorem gX3_readItem_X2_take : GoodIn wsX3_readItem (wsV RX3 56 RX2 yX2_take wsX2_take) := goodIn_app (goodIn_of _ (by decide +kernel)) ggX3_readItem_X2_take
theorem dX3_readItem_0 : decode cX3_readItem 0 = .ok (.aload_n 0, 1) := by decide +kernel
theorem dX3_readItem_1 : decode cX3_readItem 1 = .ok (.aload_n 1, 1) := by decide +kernel
theorem dX3_readItem_2 : decode cX3_readItem 2 = .ok (.invokevirtual 32, 3) := by decide +kernel
theorem dX3_readItem_5 : decode cX3_readItem 5 = .ok (.aload_n 0, 1) := by decide +kernel
theorem dX3_readItem_6 : decode cX3_readItem 6 = .ok (.getfield 39, 3) := by decide +kernel
theorem dX3_readItem_9 : decode cX3_readItem 9 = .ok (.istore_n 2, 1) := by decide +kernel
theorem dX3_readItem_10 : decode cX3_readItem 10 = .ok (.aload_n 0, 1) := by decide +kernel
theorem dX3_readItem_11 : decode cX3_readItem 11 = .ok (.getfield 36, 3) := by decide +kernel
theorem dX3_readItem_14 : decode cX3_readItem 14 = .ok (.iconst 1, 1) := by decide +kernel
theorem dX3_readItem_15 : decode cX3_readItem 15 = .ok (.if_icmp .ne 11, 3) := by decide +kernel
theorem dX3_readItem_18 : decode cX3_readItem 18 = .ok (.aload_n 0, 1) := by decide +kernel
theorem dX3_readItem_19 : decode cX3_readItem 19 = .ok (.iload_n 2, 1) := by decide +kernel
theorem dX3_readItem_20 : decode cX3_readItem 20 = .ok (.invokevirtual 42, 3) := by decide +kernel
theorem dX3_readItem_23 : decode cX3_readItem 23 = .ok (.ifCond .ne 5, 3) := by decide +kernel
theorem dX3_readItem_26 : decode cX3_readItem 26 = .ok (.iconst (-1), 1) := by decide +kernel
theorem dX3_readItem_27 : decode cX3_readItem 27 = .ok (.ireturn, 1) := by decide +kernel
theorem dX3_readItem_28 : decode cX3_readItem 28 = .ok (.aload_n 0, 1) := by decide +kernel
theorem dX3_readItem_29 : decode cX3_readItem 29 = .ok (.aload_n 1, 1) := by decide +kernel
theorem dX3_readItem_30 : decode cX3_readItem 30 = .ok (.invokevirtual 32, 3) := by decide +kernel
theorem dX3_readItem_33 : decode cX3_readItem 33 = .ok (.aload_n 0, 1) := by decide +kernel
theorem dX3_readItem_34 : decode cX3_readItem 34 = .ok (.getfield 39, 3) := by decide +kernel
theorem dX3_readItem_37 : decode cX3_readItem 37 = .ok (.istore_n 3, 1) := by decide +kernel
theorem dX3_readItem_38 : decode cX3_readItem 38 = .ok (.aload_n 0, 1) := by decide +kernel
theorem dX3_readItem_39 : decode cX3_readItem 39 = .ok (.getfield 36, 3) := by decide +kernel
theorem dX3_readItem_42 : decode cX3_readItem 42 = .ok (.iconst 2, 1) := by decide +kernel
theorem dX3_readItem_43 : decode cX3_readItem 43 = .ok (.if_icmp .ne 24, 3) := by decide +kernel
theorem dX3_readItem_46 : decode cX3_readItem 46 = .ok (.aload_n 0, 1) := by decide +kernel
theorem dX3_readItem_47 : decode cX3_readItem 47 = .ok (.getfield 12, 3) := by decide +kernel
theorem dX3_readItem_50 : decode cX3_readItem 50 = .ok (.iload_n 3, 1) := by decide +kernel
theorem dX3_readItem_51 : decode cX3_readItem 51 = .ok (.invokevirtual 46, 3) := by decide +kernel
theorem dX3_readItem_54 : decode cX3_readItem 54 = .ok (.iload_n 2, 1) := by decide +kernel
theorem dX3_readItem_55 : decode cX3_readItem 55 = .ok (.iconst 5, 1) := by decide +kernel
theorem dX3_readItem_56 : decode cX3_readItem 56 = .ok (.if_icmp .ne 7, 3) := by decide +kernel
theorem dX3_readItem_59 : decode cX3_readItem 59 = .ok (.iconst 1, 1) := by decide +kernel
theorem dX3_readItem_60 : decode cX3_readItem 60 = .ok (.goto 4, 3) := by decide +kernel
theorem dX3_readItem_63 : decode cX3_readItem 63 = .ok (.iconst 0, 1) := by decide +kernel
theorem dX3_readItem_64 : decode cX3_readItem 64 = .ok (.if_icmp .eq 5, 3) := by decide +kernel
theorem dX3_readItem_67 : decode cX3_readItem 67 = .ok (.iconst (-1), 1) := by decide +kernel
theorem dX3_readItem_68 : decode cX3_readItem 68 = .ok (.ireturn, 1) := by decide +kernel
theorem dX3_readItem_69 : decode cX3_readItem 69 = .ok (.bipush (-9), 2) := by decide +kernel
theorem dX3_readItem_71 : decode cX3_readItem 71 = .ok (.istore 4, 2) := by decide +kernel
theorem dX3_readItem_73 : decode cX3_readItem 73 = .ok (.bipush (-9), 2) := by decide +kernel
theorem dX3_readItem_75 : decode cX3_readItem 75 = .ok (.istore 5, 2) := by decide +kernel
theorem dX3_readItem_77 : decode cX3_readItem 77 = .ok (.bipush (-9), 2) := by decide +kernel
theorem dX3_readItem_79 : decode cX3_readItem 79 = .ok (.istore 6, 2) := by decide +kernel
theorem dX3_readItem_81 : decode cX3_readItem 81 = .ok (.iload_n 2, 1) := by decide +kernel
theorem dX3_readItem_82 : decode cX3_readItem 82 = .ok (.ifCond .eq 8, 3) := by decide +kernel
theorem dX3_readItem_85 : decode cX3_readItem 85 = .ok (.iload_n 2, 1) := by decide +kernel
theorem dX3_readItem_86 : decode cX3_readItem 86 = .ok (.iconst 1, 1) := by decide +kernel
theorem dX3_readItem_87 : decode cX3_readItem 87 = .ok (.if_icmp .ne 27, 3) := by decide +kernel
theorem dX3_readItem_90 : decode cX3_readItem 90 = .ok (.aload_n 0, 1) := by decide +kernel
theorem dX3_readItem_91 : decode cX3_readItem 91 = .ok (.aload_n 1, 1) := by decide +kernel
theorem dX3_readItem_92 : decode cX3_readItem 92 = .ok (.iload_n 2, 1) := by decide +kernel
theorem dX3_readItem_93 : decode cX3_readItem 93 = .ok (.ifCond .ne 7, 3) := by decide +kernel
theorem dX3_readItem_96 : decode cX3_readItem 96 = .ok (.iconst 2, 1) := by decide +kernel
theorem dX3_readItem_97 : decode cX3_readItem 97 = .ok (.goto 5, 3) := by decide +kernel
theorem dX3_readItem_100 : decode cX3_readItem 100 = .ok (.bipush 15, 2) := by decide +kernel
theorem dX3_readItem_102 : decode cX3_readItem 102 = .ok (.invokevirtual 49, 3) := by decide +kernel
theorem dX3_readItem_105 : decode cX3_readItem 105 = .ok (.istore 6, 2) := by decide +kernel
theorem dX3_readItem_107 : decode cX3_readItem 107 = .ok (.iload 6, 2) := by decide +kernel
theorem dX3_readItem_109 : decode cX3_readItem 109 = .ok (.ifCond .ge 38, 3) := by decide +kernel
theorem dX3_readItem_112 : decode cX3_readItem 112 = .ok (.iconst (-1), 1) := by decide +kernel
theorem dX3_readItem_113 : decode cX3_readItem 113 = .ok (.ireturn, 1) := by decide +kernel
theorem dX3_readItem_114 : decode cX3_readItem 114 = .ok (.iload_n 2, 1) := by decide +kernel
theorem dX3_readItem_115 : decode cX3_readItem 115 = .ok (.iconst 5, 1) := by decide +kernel
theorem dX3_readItem_116 : decode cX3_readItem 116 = .ok (.if_icmp .eq 31, 3) := by decide +kernel
theorem dX3_readItem_119 : decode cX3_readItem 119 = .ok (.aload_n 0, 1) := by decide +kernel
theorem dX3_readItem_120 : decode cX3_readItem 120 = .ok (.aload_n 1, 1) := by decide +kernel
theorem dX3_readItem_121 : decode cX3_readItem 121 = .ok (.invokevirtual 53, 3) := by decide +kernel
theorem dX3_readItem_124 : decode cX3_readItem 124 = .ok (.istore 4, 2) := by decide +kernel
theorem dX3_readItem_126 : decode cX3_readItem 126 = .ok (.iload 4, 2) := by decide +kernel
theorem dX3_readItem_128 : decode cX3_readItem 128 = .ok (.ifCond .ge 5, 3) := by decide +kernel
theorem dX3_readItem_131 : decode cX3_readItem 131 = .ok (.iconst (-1), 1) := by decide +kernel
theorem dX3_readItem_132 : decode cX3_readItem 132 = .ok (.ireturn, 1) := by decide +kernel
theorem dX3_readItem_133 : decode cX3_readItem 133 = .ok (.aload_n 0, 1) := by decide +kernel
theorem dX3_readItem_134 : decode cX3_readItem 134 = .ok (.aload_n 1, 1) := by decide +kernel
theorem dX3_readItem_135 : decode cX3_readItem 135 = .ok (.invokevirtual 53, 3) := by decide +kernel
theorem dX3_readItem_138 : decode cX3_readItem 138 = .ok (.istore 5, 2) := by decide +kernel
theorem dX3_readItem_140 : decode cX3_readItem 140 = .ok (.iload 5, 2) := by decide +kernel
theorem dX3_readItem_142 : decode cX3_readItem 142 = .ok (.ifCond .ge 5, 3) := by decide +kernel
theorem dX3_readItem_145 : decode cX3_readItem 145 = .ok (.iconst (-1), 1) := by decide +kernel
theorem dX3_readItem_146 : decode cX3_readItem 146 = .ok (.ireturn, 1) := by decide +kernel
theorem dX3_readItem_147 : decode cX3_readItem 147 = .ok (.aload_n 0, 1) := by decide +kernel
theorem dX3_readItem_148 : decode cX3_readItem 148 = .ok (.aload_n 1, 1) := by decide +kernel
theorem dX3_readItem_149 : decode cX3_readItem 149 = .ok (.invokevirtual 32, 3) := by decide +kernel
theorem dX3_readItem_152 : decode cX3_readItem 152 = .ok (.aload_n 0, 1) := by decide +kernel
theorem dX3_readItem_153 : decode cX3_readItem 153 = .ok (.getfield 36, 3) := by decide +kernel
theorem dX3_readItem_156 : decode cX3_readItem 156 = .ok (.iconst 4, 1) := by decide +kernel
theorem dX3_readItem_157 : decode cX3_readItem 157 = .ok (.if_icmp .eq 5, 3) := by decide +kernel
theorem dX3_readItem_160 : decode cX3_readItem 160 = .ok (.iconst (-1), 1) := by decide +kernel
theorem dX3_readItem_161 : decode cX3_readItem 161 = .ok (.ireturn, 1) := by decide +kernel
theorem dX3_readItem_162 : decode cX3_readItem 162 = .ok (.aload_n 0, 1) := by decide +kernel
theorem dX3_readItem_163 : decode cX3_readItem 163 = .ok (.getfield 12, 3) := by decide +kernel
theorem dX3_readItem_166 : decode cX3_readItem 166 = .ok (.iload_n 2, 1) := by decide +kernel
theorem dX3_readItem_167 : decode cX3_readItem 167 = .ok (.iload_n 3, 1) := by decide +kernel
theorem dX3_readItem_168 : decode cX3_readItem 168 = .ok (.iload 4, 2) := by decide +kernel
theorem dX3_readItem_170 : decode cX3_readItem 170 = .ok (.iload 5, 2) := by decide +kernel
theorem dX3_readItem_172 : decode cX3_readItem 172 = .ok (.iload 6, 2) := by decide +kernel
theorem dX3_readItem_174 : decode cX3_readItem 174 = .ok (.invokevirtual 56, 3) := by decide +kernel
theorem dX3_readItem_177 : decode cX3_readItem 177 = .ok (.iload_n 2, 1) := by decide +kernel
theorem dX3_readItem_178 : decode cX3_readItem 178 = .ok (.ireturn, 1) := by decide +kernel
theorem dX3_mayBegin_0 : decode cX3_mayBegin 0 = .ok (.iload_n 1, 1) := by decide +kernel
theorem dX3_mayBegin_1 : decode cX3_mayBegin 1 = .ok (.iconst 5, 1) := by decide +kernel
theorem dX3_mayBegin_2 : decode cX3_mayBegin 2 = .ok (.if_icmp .ne 5, 3) := by decide +kernel
theorem dX3_mayBegin_5 : decode cX3_mayBegin 5 = .ok (.iconst 1, 1) := by decide +kernel
theorem dX3_mayBegin_6 : decode cX3_mayBegin 6 = .ok (.ireturn, 1) := by decide +kernel
theorem dX3_mayBegin_7 : decode cX3_mayBegin 7 = .ok (.aload_n 0, 1) := by decide +kernel
theorem dX3_mayBegin_8 : decode cX3_mayBegin 8 = .ok (.getfield 12, 3) := by decide +kernel
theorem dX3_mayBegin_11 : decode cX3_mayBegin 11 = .ok (.getfield 60, 3) := by decide +kernel
theorem dX3_mayBegin_14 : decode cX3_mayBegin 14 = .ok (.bipush 15, 2) := by decide +kernel
theorem dX3_mayBegin_16 : decode cX3_mayBegin 16 = .ok (.if_icmp .lt 5, 3) := by decide +kernel
theorem dX3_mayBegin_19 : decode cX3_mayBegin 19 = .ok (.iconst 0, 1) := by decide +kernel
theorem dX3_mayBegin_20 : decode cX3_mayBegin 20 = .ok (.ireturn, 1) := by decide +kernel
theorem dX3_mayBegin_21 : decode cX3_mayBegin 21 = .ok (.iload_n 1, 1) := by decide +kernel
theorem dX3_mayBegin_22 : decode cX3_mayBegin 22 = .ok (.ifCond .ne 20, 3) := by decide +kernel
theorem dX3_mayBegin_25 : decode cX3_mayBegin 25 = .ok (.aload_n 0, 1) := by decide +kernel
theorem dX3_mayBegin_26 : decode cX3_mayBegin 26 = .ok (.getfield 12, 3) := by decide +kernel
theorem dX3_mayBegin_29 : decode cX3_mayBegin 29 = .ok (.getfield 63, 3) := by decide +kernel
theorem dX3_mayBegin_32 : decode cX3_mayBegin 32 = .ok (.iconst 4, 1) := by decide +kernel
theorem dX3_mayBegin_33 : decode cX3_mayBegin 33 = .ok (.if_icmp .ge 7, 3) := by decide +kernel
theorem dX3_mayBegin_36 : decode cX3_mayBegin 36 = .ok (.iconst 1, 1) := by decide +kernel
theorem dX3_mayBegin_37 : decode cX3_mayBegin 37 = .ok (.goto 4, 3) := by decide +kernel
theorem dX3_mayBegin_40 : decode cX3_mayBegin 40 = .ok (.iconst 0, 1) := by decide +kernel
theorem dX3_mayBegin_41 : decode cX3_mayBegin 41 = .ok (.ireturn, 1) := by decide +kernel
theorem dX3_mayBegin_42 : decode cX3_mayBegin 42 = .ok (.iload_n 1, 1) := by decide +kernel
theorem dX3_mayBegin_43 : decode cX3_mayBegin 43 = .ok (.iconst 4, 1) := by decide +kernel
theorem dX3_mayBegin_44 : decode cX3_mayBegin 44 = .ok (.if_icmp .ne 14, 3) := by decide +kernel
theorem dX3_mayBegin_47 : decode cX3_mayBegin 47 = .ok (.aload_n 0, 1) := by decide +kernel
theorem dX3_mayBegin_48 : decode cX3_mayBegin 48 = .ok (.getfield 12, 3) := by decide +kernel
theorem dX3_mayBegin_51 : decode cX3_mayBegin 51 = .ok (.getfield 66, 3) := by decide +kernel
theorem dX3_mayBegin_54 : decode cX3_mayBegin 54 = .ok (.iconst 4, 1) := by decide +kernel
theorem dX3_mayBegin_55 : decode cX3_mayBegin 55 = .ok (.if_icmp .ge 7, 3) := by decide +kernel
theorem dX3_mayBegin_58 : decode cX3_mayBegin 58 = .ok (.iconst 1, 1) := by decide +kernel
theorem dX3_mayBegin_59 : decode cX3_mayBegin 59 = .ok (.goto 4, 3) := by decide +kernel
theorem dX3_mayBegin_62 : decode cX3_mayBegin 62 = .ok (.iconst 0, 1) := by decide +kernel
theorem dX3_mayBegin_63 : decode cX3_mayBegin 63 = .ok (.ireturn, 1) := by decide +kernel
set_option maxRecDepth 20000 in
theorem ggX3_readUsed_X3_step : GoodIn wsX3_readUsed wsX3_step := goodIn_r _ [8, 9, 10, 3, 1, 11, 12, 13, 14, 15, 16, 17, 18, 19, 7, 20, 21, 22, 23, 24, 25, 26, 27, 28, 29, 30, 31, 32, 33, 34, 35, 36, 37, 44, 45, 46, 47, 48, 49, 50] rfl (by decide +kernel)
set_option maxRecDepth 20000 in
theorem gX3_readUsed_X3_step : GoodIn wsX3_readUsed (wsV RX3 32 RX3 yX3_step wsX3_step) := goodIn_app (goodIn_of _ (by decide +kernel)) ggX3_readUsed_X3_step
set_option maxRecDepth 20000 in
theorem ggX3_readUsed_X2_hasBecome : GoodIn wsX3_readUsed wsX2_hasBecome := goodIn_r _ [42, 43, 51, 52, 53, 54, 55, 56] rfl (by decide +kernel)
set_option maxRecDepth 20000 in
theorem gX3_readUsed_X2_hasBecome : GoodIn wsX3_readUsed (wsV RX3 46 RX2 yX2_hasBecome wsX2_hasBecome) := goodIn_app (goodIn_of _ (by decide +kernel)) ggX3_readUsed_X2_hasBecome
theorem dX3_readUsed_0 : decode cX3_readUsed 0 = .ok (.aload_n 0, 1) := by decide +kernel
theorem dX3_readUsed_1 : decode cX3_readUsed 1 = .ok (.aload_n 1, 1) := by decide +kernel
theorem dX3_readUsed_2 : decode cX3_readUsed 2 = .ok (.invokevirtual 32, 3) := by decide +kernel
theorem dX3_readUsed_5 : decode cX3_readUsed 5 = .ok (.aload_n 0, 1) := by decide +kernel
theorem dX3_readUsed_6 : decode cX3_readUsed 6 = .ok (.getfield 36, 3) := by decide +kernel
theorem dX3_readUsed_9 : decode cX3_readUsed 9 = .ok (.iconst 2, 1) := by decide +kernel
theorem dX3_readUsed_10 : decode cX3_readUsed 10 = .ok (.if_icmp .ne 24, 3) := by decide +kernel
theorem dX3_readUsed_13 : decode cX3_readUsed 13 = .ok (.aload_n 0, 1) := by decide +kernel
theorem dX3_readUsed_14 : decode cX3_readUsed 14 = .ok (.getfield 12, 3) := by decide +kernel
theorem dX3_readUsed_17 : decode cX3_readUsed 17 = .ok (.aload_n 0, 1) := by decide +kernel
theorem dX3_readUsed_18 : decode cX3_readUsed 18 = .ok (.getfield 39, 3) := by decide +kernel
theorem dX3_readUsed_21 : decode cX3_readUsed 21 = .ok (.invokevirtual 46, 3) := by decide +kernel
theorem dX3_readUsed_24 : decode cX3_readUsed 24 = .ok (.ifCond .eq 10, 3) := by decide +kernel
theorem dX3_readUsed_27 : decode cX3_readUsed 27 = .ok (.aload_n 0, 1) := by decide +kernel
theorem dX3_readUsed_28 : decode cX3_readUsed 28 = .ok (.getfield 39, 3) := by decide +kernel
theorem dX3_readUsed_31 : decode cX3_readUsed 31 = .ok (.goto 4, 3) := by decide +kernel
theorem dX3_readUsed_34 : decode cX3_readUsed 34 = .ok (.iconst (-1), 1) := by decide +kernel
theorem dX3_readUsed_35 : decode cX3_readUsed 35 = .ok (.ireturn, 1) := by decide +kernel
set_option maxRecDepth 20000 in
theorem ggX3_readNumber_X3_step : GoodIn wsX3_readNumber wsX3_step := goodIn_r _ [7, 8, 9, 2, 1, 10, 11, 12, 13, 14, 15, 16, 17, 18, 6, 19, 20, 21, 22, 23, 24, 25, 26, 27, 28, 29, 30, 31, 32, 33, 34, 35, 36, 37, 38, 39, 40, 41, 42, 43] rfl (by decide +kernel)
set_option maxRecDepth 20000 in
theorem gX3_readNumber_X3_step : GoodIn wsX3_readNumber (wsV RX3 32 RX3 yX3_step wsX3_step) := goodIn_app (goodIn_of _ (by decide +kernel)) ggX3_readNumber_X3_step
theorem dX3_readNumber_0 : decode cX3_readNumber 0 = .ok (.aload_n 0, 1) := by decide +kernel
theorem dX3_readNumber_1 : decode cX3_readNumber 1 = .ok (.aload_n 1, 1) := by decide +kernel
theorem dX3_readNumber_2 : decode cX3_readNumber 2 = .ok (.invokevirtual 32, 3) := by decide +kernel
theorem dX3_readNumber_5 : decode cX3_readNumber 5 = .ok (.aload_n 0, 1) := by decide +kernel
theorem dX3_readNumber_6 : decode cX3_readNumber 6 = .ok (.getfield 36, 3) := by decide +kernel
theorem dX3_readNumber_9 : decode cX3_readNumber 9 = .ok (.iconst 3, 1) := by decide +kernel
theorem dX3_readNumber_10 : decode cX3_readNumber 10 = .ok (.if_icmp .ne 18, 3) := by decide +kernel
theorem dX3_readNumber_13 : decode cX3_readNumber 13 = .ok (.aload_n 0, 1) := by decide +kernel
theorem dX3_readNumber_14 : decode cX3_readNumber 14 = .ok (.getfield 39, 3) := by decide +kernel
theorem dX3_readNumber_17 : decode cX3_readNumber 17 = .ok (.iload_n 2, 1) := by decide +kernel
theorem dX3_readNumber_18 : decode cX3_readNumber 18 = .ok (.if_icmp .gt 10, 3) := by decide +kernel
theorem dX3_readNumber_21 : decode cX3_readNumber 21 = .ok (.aload_n 0, 1) := by decide +kernel
theorem dX3_readNumber_22 : decode cX3_readNumber 22 = .ok (.getfield 39, 3) := by decide +kernel
theorem dX3_readNumber_25 : decode cX3_readNumber 25 = .ok (.goto 4, 3) := by decide +kernel
theorem dX3_readNumber_28 : decode cX3_readNumber 28 = .ok (.iconst (-1), 1) := by decide +kernel
theorem dX3_readNumber_29 : decode cX3_readNumber 29 = .ok (.ireturn, 1) := by decide +kernel
set_option maxRecDepth 20000 in
theorem ggX3_step_X7_byteAt : GoodIn wsX3_step wsX7_byteAt := goodIn_r _ [9, 10, 11, 38, 39] rfl (by decide +kernel)
set_option maxRecDepth 20000 in
theorem gX3_step_X7_byteAt : GoodIn wsX3_step (wsV RX3 74 RX7 yX7_byteAt wsX7_byteAt) := goodIn_app (goodIn_of _ (by decide +kernel)) ggX3_step_X7_byteAt
set_option maxRecDepth 20000 in
theorem ggX3_step_X3_isSmall : GoodIn wsX3_step wsX3_isSmall := goodIn_r _ [15, 16, 17, 18] rfl (by decide +kernel)
set_option maxRecDepth 20000 in
theorem gX3_step_X3_isSmall : GoodIn wsX3_step (va_wsS RX3 78 yX3_isSmall wsX3_isSmall) := goodIn_app (goodIn_of _ (by decide +kernel)) ggX3_step_X3_isSmall
set_option maxRecDepth 20000 in
theorem ggX3_step_X3_readWord : GoodIn wsX3_step wsX3_readWord := goodIn_r _ [22, 1, 2, 3, 4, 5, 6, 7, 8, 9, 10, 11, 12, 13, 14, 15, 16, 17, 18, 23, 24, 25, 33, 34, 35, 36, 37, 38, 39] rfl (by decide +kernel)
set_option maxRecDepth 20000 in
theorem gX3_step_X3_readWord : GoodIn wsX3_step (wsV RX3 81 RX3 yX3_readWord wsX3_readWord) := goodIn_app (goodIn_of _ (by decide +kernel)) ggX3_step_X3_readWord
set_option maxRecDepth 20000 in
theorem ggX3_step_X3_isDigit : GoodIn wsX3_step wsX3_isDigit := goodIn_r _ [28, 16, 17, 18] rfl (by decide +kernel)
set_option maxRecDepth 20000 in
theorem gX3_step_X3_isDigit : GoodIn wsX3_step (va_wsS RX3 84 yX3_isDigit wsX3_isDigit) := goodIn_app (goodIn_of _ (by decide +kernel)) ggX3_step_X3_isDigit
set_option maxRecDepth 20000 in
theorem ggX3_step_X3_readDigits : GoodIn wsX3_step wsX3_readDigits := goodIn_r _ [32, 2, 1, 3, 4, 5, 6, 7, 8, 9, 10, 11, 26, 27, 14, 28, 16, 17, 18, 33, 34, 35, 36, 37, 38, 39] rfl (by decide +kernel)
set_option maxRecDepth 20000 in
theorem gX3_step_X3_readDigits : GoodIn wsX3_step (wsV RX3 87 RX3 yX3_readDigits wsX3_readDigits) := goodIn_app (goodIn_of _ (by decide +kernel)) ggX3_step_X3_readDigits
set_option maxRecDepth 20000 in
theorem ggX3_step_X9_within : GoodIn wsX3_step wsX9_within := goodIn_r _ [18] rfl (by decide +kernel)
set_option maxRecDepth 20000 in
theorem gX3_step_X9_within_n90 : GoodIn wsX3_step (wsX9_within) := ggX3_step_X9_within
theorem dX3_step_0 : decode cX3_step 0 = .ok (.aload_n 0, 1) := by decide +kernel
theorem dX3_step_1 : decode cX3_step 1 = .ok (.getfield 21, 3) := by decide +kernel
theorem dX3_step_4 : decode cX3_step 4 = .ok (.aload_n 1, 1) := by decide +kernel
theorem dX3_step_5 : decode cX3_step 5 = .ok (.getfield 69, 3) := by decide +kernel
theorem dX3_step_8 : decode cX3_step 8 = .ok (.if_icmp .ge 29, 3) := by decide +kernel
theorem dX3_step_11 : decode cX3_step 11 = .ok (.aload_n 1, 1) := by decide +kernel
theorem dX3_step_12 : decode cX3_step 12 = .ok (.aload_n 0, 1) := by decide +kernel
theorem dX3_step_13 : decode cX3_step 13 = .ok (.getfield 21, 3) := by decide +kernel
theorem dX3_step_16 : decode cX3_step 16 = .ok (.invokevirtual 74, 3) := by decide +kernel
theorem dX3_step_19 : decode cX3_step 19 = .ok (.bipush 32, 2) := by decide +kernel
theorem dX3_step_21 : decode cX3_step 21 = .ok (.if_icmp .ne 16, 3) := by decide +kernel
theorem dX3_step_24 : decode cX3_step 24 = .ok (.aload_n 0, 1) := by decide +kernel
theorem dX3_step_25 : decode cX3_step 25 = .ok (.dup, 1) := by decide +kernel
theorem dX3_step_26 : decode cX3_step 26 = .ok (.getfield 21, 3) := by decide +kernel
theorem dX3_step_29 : decode cX3_step 29 = .ok (.iconst 1, 1) := by decide +kernel
theorem dX3_step_30 : decode cX3_step 30 = .ok (.iadd, 1) := by decide +kernel
theorem dX3_step_31 : decode cX3_step 31 = .ok (.putfield 21, 3) := by decide +kernel
theorem dX3_step_34 : decode cX3_step 34 = .ok (.goto (-34), 3) := by decide +kernel
theorem dX3_step_37 : decode cX3_step 37 = .ok (.aload_n 0, 1) := by decide +kernel
theorem dX3_step_38 : decode cX3_step 38 = .ok (.aload_n 0, 1) := by decide +kernel
theorem dX3_step_39 : decode cX3_step 39 = .ok (.getfield 21, 3) := by decide +kernel
theorem dX3_step_42 : decode cX3_step 42 = .ok (.putfield 29, 3) := by decide +kernel
theorem dX3_step_45 : decode cX3_step 45 = .ok (.aload_n 0, 1) := by decide +kernel
theorem dX3_step_46 : decode cX3_step 46 = .ok (.iconst 0, 1) := by decide +kernel
theorem dX3_step_47 : decode cX3_step 47 = .ok (.putfield 39, 3) := by decide +kernel
theorem dX3_step_50 : decode cX3_step 50 = .ok (.aload_n 1, 1) := by decide +kernel
theorem dX3_step_51 : decode cX3_step 51 = .ok (.aload_n 0, 1) := by decide +kernel
theorem dX3_step_52 : decode cX3_step 52 = .ok (.getfield 21, 3) := by decide +kernel
theorem dX3_step_55 : decode cX3_step 55 = .ok (.invokevirtual 74, 3) := by decide +kernel
theorem dX3_step_58 : decode cX3_step 58 = .ok (.istore_n 2, 1) := by decide +kernel
theorem dX3_step_59 : decode cX3_step 59 = .ok (.iload_n 2, 1) := by decide +kernel
theorem dX3_step_60 : decode cX3_step 60 = .ok (.ifCond .ge 11, 3) := by decide +kernel
theorem dX3_step_63 : decode cX3_step 63 = .ok (.aload_n 0, 1) := by decide +kernel
theorem dX3_step_64 : decode cX3_step 64 = .ok (.iconst 0, 1) := by decide +kernel
theorem dX3_step_65 : decode cX3_step 65 = .ok (.putfield 36, 3) := by decide +kernel
theorem dX3_step_68 : decode cX3_step 68 = .ok (.goto 83, 3) := by decide +kernel
theorem dX3_step_71 : decode cX3_step 71 = .ok (.iload_n 2, 1) := by decide +kernel
theorem dX3_step_72 : decode cX3_step 72 = .ok (.invokestatic 78, 3) := by decide +kernel
theorem dX3_step_75 : decode cX3_step 75 = .ok (.ifCond .eq 11, 3) := by decide +kernel
theorem dX3_step_78 : decode cX3_step 78 = .ok (.aload_n 0, 1) := by decide +kernel
theorem dX3_step_79 : decode cX3_step 79 = .ok (.aload_n 1, 1) := by decide +kernel
theorem dX3_step_80 : decode cX3_step 80 = .ok (.invokevirtual 81, 3) := by decide +kernel
theorem dX3_step_83 : decode cX3_step 83 = .ok (.goto 68, 3) := by decide +kernel
theorem dX3_step_86 : decode cX3_step 86 = .ok (.iload_n 2, 1) := by decide +kernel
theorem dX3_step_87 : decode cX3_step 87 = .ok (.invokestatic 84, 3) := by decide +kernel
theorem dX3_step_90 : decode cX3_step 90 = .ok (.ifCond .eq 11, 3) := by decide +kernel
theorem dX3_step_93 : decode cX3_step 93 = .ok (.aload_n 0, 1) := by decide +kernel
theorem dX3_step_94 : decode cX3_step 94 = .ok (.aload_n 1, 1) := by decide +kernel
theorem dX3_step_95 : decode cX3_step 95 = .ok (.invokevirtual 87, 3) := by decide +kernel
theorem dX3_step_98 : decode cX3_step 98 = .ok (.goto 53, 3) := by decide +kernel
theorem dX3_step_101 : decode cX3_step 101 = .ok (.aload_n 0, 1) := by decide +kernel
theorem dX3_step_102 : decode cX3_step 102 = .ok (.dup, 1) := by decide +kernel
theorem dX3_step_103 : decode cX3_step 103 = .ok (.getfield 21, 3) := by decide +kernel
theorem dX3_step_106 : decode cX3_step 106 = .ok (.iconst 1, 1) := by decide +kernel
theorem dX3_step_107 : decode cX3_step 107 = .ok (.iadd, 1) := by decide +kernel
theorem dX3_step_108 : decode cX3_step 108 = .ok (.putfield 21, 3) := by decide +kernel
theorem dX3_step_111 : decode cX3_step 111 = .ok (.aload_n 0, 1) := by decide +kernel
theorem dX3_step_112 : decode cX3_step 112 = .ok (.iload_n 2, 1) := by decide +kernel
theorem dX3_step_113 : decode cX3_step 113 = .ok (.bipush 65, 2) := by decide +kernel
theorem dX3_step_115 : decode cX3_step 115 = .ok (.isub, 1) := by decide +kernel
theorem dX3_step_116 : decode cX3_step 116 = .ok (.putfield 39, 3) := by decide +kernel
theorem dX3_step_119 : decode cX3_step 119 = .ok (.aload_n 0, 1) := by decide +kernel
theorem dX3_step_120 : decode cX3_step 120 = .ok (.iload_n 2, 1) := by decide +kernel
theorem dX3_step_121 : decode cX3_step 121 = .ok (.bipush 59, 2) := by decide +kernel
theorem dX3_step_123 : decode cX3_step 123 = .ok (.if_icmp .ne 7, 3) := by decide +kernel
theorem dX3_step_126 : decode cX3_step 126 = .ok (.iconst 4, 1) := by decide +kernel
theorem dX3_step_127 : decode cX3_step 127 = .ok (.goto 21, 3) := by decide +kernel
theorem dX3_step_130 : decode cX3_step 130 = .ok (.aload_n 0, 1) := by decide +kernel
theorem dX3_step_131 : decode cX3_step 131 = .ok (.getfield 39, 3) := by decide +kernel
theorem dX3_step_134 : decode cX3_step 134 = .ok (.iconst 0, 1) := by decide +kernel
theorem dX3_step_135 : decode cX3_step 135 = .ok (.bipush 15, 2) := by decide +kernel
theorem dX3_step_137 : decode cX3_step 137 = .ok (.invokestatic 90, 3) := by decide +kernel
theorem dX3_step_140 : decode cX3_step 140 = .ok (.ifCond .eq 7, 3) := by decide +kernel
theorem dX3_step_143 : decode cX3_step 143 = .ok (.iconst 2, 1) := by decide +kernel
theorem dX3_step_144 : decode cX3_step 144 = .ok (.goto 4, 3) := by decide +kernel
theorem dX3_step_147 : decode cX3_step 147 = .ok (.iconst 5, 1) := by decide +kernel
theorem dX3_step_148 : decode cX3_step 148 = .ok (.putfield 36, 3) := by decide +kernel
theorem dX3_step_151 : decode cX3_step 151 = .ok (.return_, 1) := by decide +kernel
set_option maxRecDepth 20000 in
theorem ggX3_readWord_X7_byteAt : GoodIn wsX3_readWord wsX7_byteAt := goodIn_r _ [9, 10, 11, 27, 28] rfl (by decide +kernel)
set_option maxRecDepth 20000 in
theorem gX3_readWord_X7_byteAt : GoodIn wsX3_readWord (wsV RX3 74 RX7 yX7_byteAt wsX7_byteAt) := goodIn_app (goodIn_of _ (by decide +kernel)) ggX3_readWord_X7_byteAt
set_option maxRecDepth 20000 in
theorem ggX3_readWord_X3_isSmall : GoodIn wsX3_readWord wsX3_isSmall := goodIn_r _ [15, 16, 17, 18] rfl (by decide +kernel)
set_option maxRecDepth 20000 in
theorem gX3_readWord_X3_isSmall : GoodIn wsX3_readWord (va_wsS RX3 78 yX3_isSmall wsX3_isSmall) := goodIn_app (goodIn_of _ (by decide +kernel)) ggX3_readWord_X3_isSmall
set_option maxRecDepth 20000 in
theorem ggX3_readWord_X3_whatOf : GoodIn wsX3_readWord wsX3_whatOf := goodIn_r _ [21] rfl (by decide +kernel)
set_option maxRecDepth 20000 in
theorem gX3_readWord_X3_whatOf : GoodIn wsX3_readWord (va_wsS RX3 94 yX3_whatOf wsX3_whatOf) := goodIn_app (goodIn_of _ (by decide +kernel)) ggX3_readWord_X3_whatOf
theorem dX3_readWord_0 : decode cX3_readWord 0 = .ok (.iconst 0, 1) := by decide +kernel
theorem dX3_readWord_1 : decode cX3_readWord 1 = .ok (.istore_n 2, 1) := by decide +kernel
theorem dX3_readWord_2 : decode cX3_readWord 2 = .ok (.aload_n 0, 1) := by decide +kernel
theorem dX3_readWord_3 : decode cX3_readWord 3 = .ok (.getfield 21, 3) := by decide +kernel
theorem dX3_readWord_6 : decode cX3_readWord 6 = .ok (.aload_n 1, 1) := by decide +kernel
theorem dX3_readWord_7 : decode cX3_readWord 7 = .ok (.getfield 69, 3) := by decide +kernel
theorem dX3_readWord_10 : decode cX3_readWord 10 = .ok (.if_icmp .ge 61, 3) := by decide +kernel
theorem dX3_readWord_13 : decode cX3_readWord 13 = .ok (.aload_n 1, 1) := by decide +kernel
theorem dX3_readWord_14 : decode cX3_readWord 14 = .ok (.aload_n 0, 1) := by decide +kernel
theorem dX3_readWord_15 : decode cX3_readWord 15 = .ok (.getfield 21, 3) := by decide +kernel
theorem dX3_readWord_18 : decode cX3_readWord 18 = .ok (.invokevirtual 74, 3) := by decide +kernel
theorem dX3_readWord_21 : decode cX3_readWord 21 = .ok (.invokestatic 78, 3) := by decide +kernel
theorem dX3_readWord_24 : decode cX3_readWord 24 = .ok (.ifCond .eq 47, 3) := by decide +kernel
theorem dX3_readWord_27 : decode cX3_readWord 27 = .ok (.aload_n 0, 1) := by decide +kernel
theorem dX3_readWord_28 : decode cX3_readWord 28 = .ok (.getfield 21, 3) := by decide +kernel
theorem dX3_readWord_31 : decode cX3_readWord 31 = .ok (.aload_n 0, 1) := by decide +kernel
theorem dX3_readWord_32 : decode cX3_readWord 32 = .ok (.getfield 29, 3) := by decide +kernel
theorem dX3_readWord_35 : decode cX3_readWord 35 = .ok (.isub, 1) := by decide +kernel
theorem dX3_readWord_36 : decode cX3_readWord 36 = .ok (.iconst 3, 1) := by decide +kernel
theorem dX3_readWord_37 : decode cX3_readWord 37 = .ok (.if_icmp .ge 19, 3) := by decide +kernel
theorem dX3_readWord_40 : decode cX3_readWord 40 = .ok (.iload_n 2, 1) := by decide +kernel
theorem dX3_readWord_41 : decode cX3_readWord 41 = .ok (.bipush 8, 2) := by decide +kernel
theorem dX3_readWord_43 : decode cX3_readWord 43 = .ok (.ishl, 1) := by decide +kernel
theorem dX3_readWord_44 : decode cX3_readWord 44 = .ok (.aload_n 1, 1) := by decide +kernel
theorem dX3_readWord_45 : decode cX3_readWord 45 = .ok (.aload_n 0, 1) := by decide +kernel
theorem dX3_readWord_46 : decode cX3_readWord 46 = .ok (.getfield 21, 3) := by decide +kernel
theorem dX3_readWord_49 : decode cX3_readWord 49 = .ok (.invokevirtual 74, 3) := by decide +kernel
theorem dX3_readWord_52 : decode cX3_readWord 52 = .ok (.ior, 1) := by decide +kernel
theorem dX3_readWord_53 : decode cX3_readWord 53 = .ok (.goto 4, 3) := by decide +kernel
theorem dX3_readWord_56 : decode cX3_readWord 56 = .ok (.iconst 0, 1) := by decide +kernel
theorem dX3_readWord_57 : decode cX3_readWord 57 = .ok (.istore_n 2, 1) := by decide +kernel
theorem dX3_readWord_58 : decode cX3_readWord 58 = .ok (.aload_n 0, 1) := by decide +kernel
theorem dX3_readWord_59 : decode cX3_readWord 59 = .ok (.dup, 1) := by decide +kernel
theorem dX3_readWord_60 : decode cX3_readWord 60 = .ok (.getfield 21, 3) := by decide +kernel
theorem dX3_readWord_63 : decode cX3_readWord 63 = .ok (.iconst 1, 1) := by decide +kernel
theorem dX3_readWord_64 : decode cX3_readWord 64 = .ok (.iadd, 1) := by decide +kernel
theorem dX3_readWord_65 : decode cX3_readWord 65 = .ok (.putfield 21, 3) := by decide +kernel
theorem dX3_readWord_68 : decode cX3_readWord 68 = .ok (.goto (-66), 3) := by decide +kernel
theorem dX3_readWord_71 : decode cX3_readWord 71 = .ok (.aload_n 0, 1) := by decide +kernel
theorem dX3_readWord_72 : decode cX3_readWord 72 = .ok (.iload_n 2, 1) := by decide +kernel
theorem dX3_readWord_73 : decode cX3_readWord 73 = .ok (.invokestatic 94, 3) := by decide +kernel
theorem dX3_readWord_76 : decode cX3_readWord 76 = .ok (.putfield 39, 3) := by decide +kernel
theorem dX3_readWord_79 : decode cX3_readWord 79 = .ok (.aload_n 0, 1) := by decide +kernel
theorem dX3_readWord_80 : decode cX3_readWord 80 = .ok (.aload_n 0, 1) := by decide +kernel
theorem dX3_readWord_81 : decode cX3_readWord 81 = .ok (.getfield 39, 3) := by decide +kernel
theorem dX3_readWord_84 : decode cX3_readWord 84 = .ok (.ifCond .ge 7, 3) := by decide +kernel
theorem dX3_readWord_87 : decode cX3_readWord 87 = .ok (.iconst 5, 1) := by decide +kernel
theorem dX3_readWord_88 : decode cX3_readWord 88 = .ok (.goto 4, 3) := by decide +kernel
theorem dX3_readWord_91 : decode cX3_readWord 91 = .ok (.iconst 1, 1) := by decide +kernel
theorem dX3_readWord_92 : decode cX3_readWord 92 = .ok (.putfield 36, 3) := by decide +kernel
theorem dX3_readWord_95 : decode cX3_readWord 95 = .ok (.return_, 1) := by decide +kernel
theorem dX3_whatOf_0 : decode cX3_whatOf 0 = .ok (.iload_n 0, 1) := by decide +kernel
theorem dX3_whatOf_1 : decode cX3_whatOf 1 = .ok (.lookupswitch 71 #[(26990, 59), (6382692, 63), (6516590, 61), (7173484, 67), (7304564, 69), (7566690, 65)], 59) := by decide +kernel
theorem dX3_whatOf_60 : decode cX3_whatOf 60 = .ok (.iconst 0, 1) := by decide +kernel
theorem dX3_whatOf_61 : decode cX3_whatOf 61 = .ok (.ireturn, 1) := by decide +kernel
theorem dX3_whatOf_62 : decode cX3_whatOf 62 = .ok (.iconst 1, 1) := by decide +kernel
theorem dX3_whatOf_63 : decode cX3_whatOf 63 = .ok (.ireturn, 1) := by decide +kernel
theorem dX3_whatOf_64 : decode cX3_whatOf 64 = .ok (.iconst 2, 1) := by decide +kernel
theorem dX3_whatOf_65 : decode cX3_whatOf 65 = .ok (.ireturn, 1) := by decide +kernel
theorem dX3_whatOf_66 : decode cX3_whatOf 66 = .ok (.iconst 3, 1) := by decide +kernel
theorem dX3_whatOf_67 : decode cX3_whatOf 67 = .ok (.ireturn, 1) := by decide +kernel
theorem dX3_whatOf_68 : decode cX3_whatOf 68 = .ok (.iconst 4, 1) := by decide +kernel
theorem dX3_whatOf_69 : decode cX3_whatOf 69 = .ok (.ireturn, 1) := by decide +kernel
theorem dX3_whatOf_70 : decode cX3_whatOf 70 = .ok (.iconst 5, 1) := by decide +kernel
theorem dX3_whatOf_71 : decode cX3_whatOf 71 = .ok (.ireturn, 1) := by decide +kernel
theorem dX3_whatOf_72 : decode cX3_whatOf 72 = .ok (.iconst (-1), 1) := by decide +kernel
theorem dX3_whatOf_73 : decode cX3_whatOf 73 = .ok (.ireturn, 1) := by decide +kernel
set_option maxRecDepth 20000 in
theorem ggX3_readDigits_X7_byteAt : GoodIn wsX3_readDigits wsX7_byteAt := goodIn_r _ [9, 10, 11, 24, 25] rfl (by decide +kernel)
set_option maxRecDepth 20000 in
theorem gX3_readDigits_X7_byteAt : GoodIn wsX3_readDigits (wsV RX3 74 RX7 yX7_byteAt wsX7_byteAt) := goodIn_app (goodIn_of _ (by decide +kernel)) ggX3_readDigits_X7_byteAt
set_option maxRecDepth 20000 in
theorem ggX3_readDigits_X3_isDigit : GoodIn wsX3_readDigits wsX3_isDigit := goodIn_r _ [15, 16, 17, 18] rfl (by decide +kernel)
set_option maxRecDepth 20000 in
theorem gX3_readDigits_X3_isDigit : GoodIn wsX3_readDigits (va_wsS RX3 84 yX3_isDigit wsX3_isDigit) := goodIn_app (goodIn_of _ (by decide +kernel)) ggX3_readDigits_X3_isDigit
theorem dX3_readDigits_0 : decode cX3_readDigits 0 = .ok (.aload_n 1, 1) := by decide +kernel
theorem dX3_readDigits_1 : decode cX3_readDigits 1 = .ok (.aload_n 0, 1) := by decide +kernel
theorem dX3_readDigits_2 : decode cX3_readDigits 2 = .ok (.getfield 29, 3) := by decide +kernel
theorem dX3_readDigits_5 : decode cX3_readDigits 5 = .ok (.invokevirtual 74, 3) := by decide +kernel
theorem dX3_readDigits_8 : decode cX3_readDigits 8 = .ok (.bipush 48, 2) := by decide +kernel
theorem dX3_readDigits_10 : decode cX3_readDigits 10 = .ok (.if_icmp .ne 7, 3) := by decide +kernel
theorem dX3_readDigits_13 : decode cX3_readDigits 13 = .ok (.iconst 1, 1) := by decide +kernel
theorem dX3_readDigits_14 : decode cX3_readDigits 14 = .ok (.goto 4, 3) := by decide +kernel
theorem dX3_readDigits_17 : decode cX3_readDigits 17 = .ok (.iconst 0, 1) := by decide +kernel
theorem dX3_readDigits_18 : decode cX3_readDigits 18 = .ok (.istore_n 2, 1) := by decide +kernel
theorem dX3_readDigits_19 : decode cX3_readDigits 19 = .ok (.aload_n 0, 1) := by decide +kernel
theorem dX3_readDigits_20 : decode cX3_readDigits 20 = .ok (.getfield 21, 3) := by decide +kernel
theorem dX3_readDigits_23 : decode cX3_readDigits 23 = .ok (.aload_n 1, 1) := by decide +kernel
theorem dX3_readDigits_24 : decode cX3_readDigits 24 = .ok (.getfield 69, 3) := by decide +kernel
theorem dX3_readDigits_27 : decode cX3_readDigits 27 = .ok (.if_icmp .ge 66, 3) := by decide +kernel
theorem dX3_readDigits_30 : decode cX3_readDigits 30 = .ok (.aload_n 1, 1) := by decide +kernel
theorem dX3_readDigits_31 : decode cX3_readDigits 31 = .ok (.aload_n 0, 1) := by decide +kernel
theorem dX3_readDigits_32 : decode cX3_readDigits 32 = .ok (.getfield 21, 3) := by decide +kernel
theorem dX3_readDigits_35 : decode cX3_readDigits 35 = .ok (.invokevirtual 74, 3) := by decide +kernel
theorem dX3_readDigits_38 : decode cX3_readDigits 38 = .ok (.invokestatic 84, 3) := by decide +kernel
theorem dX3_readDigits_41 : decode cX3_readDigits 41 = .ok (.ifCond .eq 52, 3) := by decide +kernel
theorem dX3_readDigits_44 : decode cX3_readDigits 44 = .ok (.aload_n 0, 1) := by decide +kernel
theorem dX3_readDigits_45 : decode cX3_readDigits 45 = .ok (.getfield 21, 3) := by decide +kernel
theorem dX3_readDigits_48 : decode cX3_readDigits 48 = .ok (.aload_n 0, 1) := by decide +kernel
theorem dX3_readDigits_49 : decode cX3_readDigits 49 = .ok (.getfield 29, 3) := by decide +kernel
theorem dX3_readDigits_52 : decode cX3_readDigits 52 = .ok (.isub, 1) := by decide +kernel
theorem dX3_readDigits_53 : decode cX3_readDigits 53 = .ok (.iconst 2, 1) := by decide +kernel
theorem dX3_readDigits_54 : decode cX3_readDigits 54 = .ok (.if_icmp .ge 26, 3) := by decide +kernel
theorem dX3_readDigits_57 : decode cX3_readDigits 57 = .ok (.aload_n 0, 1) := by decide +kernel
theorem dX3_readDigits_58 : decode cX3_readDigits 58 = .ok (.aload_n 0, 1) := by decide +kernel
theorem dX3_readDigits_59 : decode cX3_readDigits 59 = .ok (.getfield 39, 3) := by decide +kernel
theorem dX3_readDigits_62 : decode cX3_readDigits 62 = .ok (.bipush 10, 2) := by decide +kernel
theorem dX3_readDigits_64 : decode cX3_readDigits 64 = .ok (.imul, 1) := by decide +kernel
theorem dX3_readDigits_65 : decode cX3_readDigits 65 = .ok (.aload_n 1, 1) := by decide +kernel
theorem dX3_readDigits_66 : decode cX3_readDigits 66 = .ok (.aload_n 0, 1) := by decide +kernel
theorem dX3_readDigits_67 : decode cX3_readDigits 67 = .ok (.getfield 21, 3) := by decide +kernel
theorem dX3_readDigits_70 : decode cX3_readDigits 70 = .ok (.invokevirtual 74, 3) := by decide +kernel
theorem dX3_readDigits_73 : decode cX3_readDigits 73 = .ok (.iadd, 1) := by decide +kernel
theorem dX3_readDigits_74 : decode cX3_readDigits 74 = .ok (.bipush 48, 2) := by decide +kernel
theorem dX3_readDigits_76 : decode cX3_readDigits 76 = .ok (.isub, 1) := by decide +kernel
theorem dX3_readDigits_77 : decode cX3_readDigits 77 = .ok (.putfield 39, 3) := by decide +kernel
theorem dX3_readDigits_80 : decode cX3_readDigits 80 = .ok (.aload_n 0, 1) := by decide +kernel
theorem dX3_readDigits_81 : decode cX3_readDigits 81 = .ok (.dup, 1) := by decide +kernel
theorem dX3_readDigits_82 : decode cX3_readDigits 82 = .ok (.getfield 21, 3) := by decide +kernel
theorem dX3_readDigits_85 : decode cX3_readDigits 85 = .ok (.iconst 1, 1) := by decide +kernel
theorem dX3_readDigits_86 : decode cX3_readDigits 86 = .ok (.iadd, 1) := by decide +kernel
theorem dX3_readDigits_87 : decode cX3_readDigits 87 = .ok (.putfield 21, 3) := by decide +kernel
theorem dX3_readDigits_90 : decode cX3_readDigits 90 = .ok (.goto (-71), 3) := by decide +kernel
theorem dX3_readDigits_93 : decode cX3_readDigits 93 = .ok (.aload_n 0, 1) := by decide +kernel
theorem dX3_readDigits_94 : decode cX3_readDigits 94 = .ok (.getfield 21, 3) := by decide +kernel
theorem dX3_readDigits_97 : decode cX3_readDigits 97 = .ok (.aload_n 0, 1) := by decide +kernel
theorem dX3_readDigits_98 : decode cX3_readDigits 98 = .ok (.getfield 29, 3) := by decide +kernel
theorem dX3_readDigits_101 : decode cX3_readDigits 101 = .ok (.isub, 1) := by decide +kernel
theorem dX3_readDigits_102 : decode cX3_readDigits 102 = .ok (.istore_n 3, 1) := by decide +kernel
theorem dX3_readDigits_103 : decode cX3_readDigits 103 = .ok (.aload_n 0, 1) := by decide +kernel
theorem dX3_readDigits_104 : decode cX3_readDigits 104 = .ok (.iload_n 3, 1) := by decide +kernel
theorem dX3_readDigits_105 : decode cX3_readDigits 105 = .ok (.iconst 2, 1) := by decide +kernel
theorem dX3_readDigits_106 : decode cX3_readDigits 106 = .ok (.if_icmp .gt 12, 3) := by decide +kernel
theorem dX3_readDigits_109 : decode cX3_readDigits 109 = .ok (.iload_n 3, 1) := by decide +kernel
theorem dX3_readDigits_110 : decode cX3_readDigits 110 = .ok (.iconst 2, 1) := by decide +kernel
theorem dX3_readDigits_111 : decode cX3_readDigits 111 = .ok (.if_icmp .ne 11, 3) := by decide +kernel
theorem dX3_readDigits_114 : decode cX3_readDigits 114 = .ok (.iload_n 2, 1) := by decide +kernel
theorem dX3_readDigits_115 : decode cX3_readDigits 115 = .ok (.ifCond .eq 7, 3) := by decide +kernel
theorem dX3_readDigits_118 : decode cX3_readDigits 118 = .ok (.iconst 5, 1) := by decide +kernel
theorem dX3_readDigits_119 : decode cX3_readDigits 119 = .ok (.goto 4, 3) := by decide +kernel
theorem dX3_readDigits_122 : decode cX3_readDigits 122 = .ok (.iconst 3, 1) := by decide +kernel
theorem dX3_readDigits_123 : decode cX3_readDigits 123 = .ok (.putfield 36, 3) := by decide +kernel
theorem dX3_readDigits_126 : decode cX3_readDigits 126 = .ok (.return_, 1) := by decide +kernel
set_option maxRecDepth 20000 in
theorem ggX3_isSmall_X9_within : GoodIn wsX3_isSmall wsX9_within := goodIn_r _ [3] rfl (by decide +kernel)
set_option maxRecDepth 20000 in
theorem gX3_isSmall_X9_within_n90 : GoodIn wsX3_isSmall (wsX9_within) := ggX3_isSmall_X9_within
theorem dX3_isSmall_0 : decode cX3_isSmall 0 = .ok (.iload_n 0, 1) := by decide +kernel
theorem dX3_isSmall_1 : decode cX3_isSmall 1 = .ok (.bipush 97, 2) := by decide +kernel
theorem dX3_isSmall_3 : decode cX3_isSmall 3 = .ok (.bipush 122, 2) := by decide +kernel
theorem dX3_isSmall_5 : decode cX3_isSmall 5 = .ok (.invokestatic 90, 3) := by decide +kernel
theorem dX3_isSmall_8 : decode cX3_isSmall 8 = .ok (.ireturn, 1) := by decide +kernel
set_option maxRecDepth 20000 in
theorem ggX3_isDigit_X9_within : GoodIn wsX3_isDigit wsX9_within := goodIn_r _ [3] rfl (by decide +kernel)
set_option maxRecDepth 20000 in
theorem gX3_isDigit_X9_within_n90 : GoodIn wsX3_isDigit (wsX9_within) := ggX3_isDigit_X9_within
theorem dX3_isDigit_0 : decode cX3_isDigit 0 = .ok (.iload_n 0, 1) := by decide +kernel
theorem dX3_isDigit_1 : decode cX3_isDigit 1 = .ok (.bipush 48, 2) := by decide +kernel
theorem dX3_isDigit_3 : decode cX3_isDigit 3 = .ok (.bipush 57, 2) := by decide +kernel
theorem dX3_isDigit_5 : decode cX3_isDigit 5 = .ok (.invokestatic 90, 3) := by decide +kernel
theorem dX3_isDigit_8 : decode cX3_isDigit 8 = .ok (.ireturn, 1) := by decide +kernel
theorem dX4_init_0 : decode cX4_init 0 = .ok (.aload_n 0, 1) := by decide +kernel
theorem dX4_init_1 : decode cX4_init 1 = .ok (.invokespecial 3, 3) := by decide +kernel
theorem dX4_init_4 : decode cX4_init 4 = .ok (.aload_n 0, 1) := by decide +kernel
theorem dX4_init_5 : decode cX4_init 5 = .ok (.bipush 48, 2) := by decide +kernel
theorem dX4_init_7 : decode cX4_init 7 = .ok (.newarray .int, 2) := by decide +kernel
theorem dX4_init_9 : decode cX4_init 9 = .ok (.putfield 9, 3) := by decide +kernel
theorem dX4_init_12 : decode cX4_init 12 = .ok (.aload_n 0, 1) := by decide +kernel
theorem dX4_init_13 : decode cX4_init 13 = .ok (.iconst 3, 1) := by decide +kernel
theorem dX4_init_14 : decode cX4_init 14 = .ok (.newarray .int, 2) := by decide +kernel
theorem dX4_init_16 : decode cX4_init 16 = .ok (.putfield 15, 3) := by decide +kernel
theorem dX4_init_19 : decode cX4_init 19 = .ok (.aload_n 0, 1) := by decide +kernel
theorem dX4_init_20 : decode cX4_init 20 = .ok (.iconst 3, 1) := by decide +kernel
theorem dX4_init_21 : decode cX4_init 21 = .ok (.newarray .int, 2) := by decide +kernel
theorem dX4_init_23 : decode cX4_init 23 = .ok (.putfield 18, 3) := by decide +kernel
theorem dX4_init_26 : decode cX4_init 26 = .ok (.aload_n 0, 1) := by decide +kernel
theorem dX4_init_27 : decode cX4_init 27 = .ok (.bipush 9, 2) := by decide +kernel
theorem dX4_init_29 : decode cX4_init 29 = .ok (.newarray .int, 2) := by decide +kernel
theorem dX4_init_31 : decode cX4_init 31 = .ok (.putfield 21, 3) := by decide +kernel
theorem dX4_init_34 : decode cX4_init 34 = .ok (.aload_n 0, 1) := by decide +kernel
theorem dX4_init_35 : decode cX4_init 35 = .ok (.bipush 51, 2) := by decide +kernel
theorem dX4_init_37 : decode cX4_init 37 = .ok (.newarray .int, 2) := by decide +kernel
theorem dX4_init_39 : decode cX4_init 39 = .ok (.putfield 24, 3) := by decide +kernel
theorem dX4_init_42 : decode cX4_init 42 = .ok (.aload_n 0, 1) := by decide +kernel
theorem dX4_init_43 : decode cX4_init 43 = .ok (.iconst 4, 1) := by decide +kernel
theorem dX4_init_44 : decode cX4_init 44 = .ok (.newarray .int, 2) := by decide +kernel
theorem dX4_init_46 : decode cX4_init 46 = .ok (.putfield 27, 3) := by decide +kernel
theorem dX4_init_49 : decode cX4_init 49 = .ok (.aload_n 0, 1) := by decide +kernel
theorem dX4_init_50 : decode cX4_init 50 = .ok (.bipush 16, 2) := by decide +kernel
theorem dX4_init_52 : decode cX4_init 52 = .ok (.newarray .int, 2) := by decide +kernel
theorem dX4_init_54 : decode cX4_init 54 = .ok (.putfield 30, 3) := by decide +kernel
theorem dX4_init_57 : decode cX4_init 57 = .ok (.return_, 1) := by decide +kernel
set_option maxRecDepth 20000 in
theorem ggX4_go_X4_go_ : GoodIn wsX4_go wsX4_go_ := goodIn_r _ [5, 6, 7, 8, 9, 10, 11, 12, 13, 14, 15, 16, 17, 18, 19, 20, 21, 22, 23, 24, 25, 26, 27, 28, 29, 30, 4, 31, 32, 33, 34, 35, 36, 37, 38, 39, 40, 41, 42, 43, 44, 45, 46, 47, 48, 49, 50, 51, 52, 53, 54, 55, 56, 57, 58, 59, 60, 61, 62, 63, 64, 65, 66, 67, 68, 69, 70, 71, 72, 73, 74, 81, 82, 83, 84, 85, 86, 87, 88, 89, 90, 91, 92, 93, 75, 76, 77, 78, 79, 80, 94, 95, 96, 97, 98, 99] rfl (by decide +kernel)
set_option maxRecDepth 20000 in
theorem gX4_go_X4_go_ : GoodIn wsX4_go (wsV RX4 41 RX4 yX4_go_ wsX4_go_) := goodIn_app (goodIn_of _ (by decide +kernel)) ggX4_go_X4_go_
theorem dX4_go_0 : decode cX4_go 0 = .ok (.aload_n 0, 1) := by decide +kernel
theorem dX4_go_1 : decode cX4_go 1 = .ok (.aload_n 1, 1) := by decide +kernel
theorem dX4_go_2 : decode cX4_go 2 = .ok (.iload_n 2, 1) := by decide +kernel
theorem dX4_go_3 : decode cX4_go 3 = .ok (.iconst 0, 1) := by decide +kernel
theorem dX4_go_4 : decode cX4_go 4 = .ok (.aload_n 1, 1) := by decide +kernel
theorem dX4_go_5 : decode cX4_go 5 = .ok (.getfield 33, 3) := by decide +kernel
theorem dX4_go_8 : decode cX4_go 8 = .ok (.aload_n 1, 1) := by decide +kernel
theorem dX4_go_9 : decode cX4_go 9 = .ok (.getfield 38, 3) := by decide +kernel
theorem dX4_go_12 : decode cX4_go 12 = .ok (.invokevirtual 41, 3) := by decide +kernel
theorem dX4_go_15 : decode cX4_go 15 = .ok (.return_, 1) := by decide +kernel
set_option maxRecDepth 20000 in
theorem ggX4_go__X6_inputIn : GoodIn wsX4_go_ wsX6_inputIn := goodIn_r _ [15, 16, 17, 18, 19, 20, 21, 22, 84, 85, 86, 87, 88, 89] rfl (by decide +kernel)
set_option maxRecDepth 20000 in
theorem gX4_go__X6_inputIn : GoodIn wsX4_go_ (wsV RX4 83 RX6 yX6_inputIn wsX6_inputIn) := goodIn_app (goodIn_of _ (by decide +kernel)) ggX4_go__X6_inputIn
set_option maxRecDepth 20000 in
theorem ggX4_go__X4_cut : GoodIn wsX4_go_ wsX4_cut := goodIn_r _ [27, 6, 28, 2, 1, 29, 30, 31, 26, 32, 5, 18, 19, 20, 21, 22, 33, 34, 35, 36, 37, 38, 39, 40, 4, 41, 3, 42, 43, 71, 72, 73, 74, 75, 76, 77, 78, 79, 80, 81, 82, 83] rfl (by decide +kernel)
set_option maxRecDepth 20000 in
theorem gX4_go__X4_cut : GoodIn wsX4_go_ (wsV RX4 86 RX4 yX4_cut wsX4_cut) := goodIn_app (goodIn_of _ (by decide +kernel)) ggX4_go__X4_cut
set_option maxRecDepth 20000 in
theorem ggX4_go__X4_fix : GoodIn wsX4_go_ wsX4_fix := goodIn_r _ [47, 28, 2, 33, 34, 35, 26, 36, 21, 19, 22, 71, 72, 73, 74, 75, 76, 77, 78, 79, 80, 81, 82, 83] rfl (by decide +kernel)
set_option maxRecDepth 20000 in
theorem gX4_go__X4_fix : GoodIn wsX4_go_ (wsV RX4 90 RX4 yX4_fix wsX4_fix) := goodIn_app (goodIn_of _ (by decide +kernel)) ggX4_go__X4_fix
set_option maxRecDepth 20000 in
theorem ggX4_go__X4_join : GoodIn wsX4_go_ wsX4_join := goodIn_r _ [51, 28, 2, 33, 34, 35, 26, 36, 21, 19, 22, 71, 72, 73, 74, 75, 76, 77, 78, 79, 80, 81, 82, 83] rfl (by decide +kernel)
set_option maxRecDepth 20000 in
theorem gX4_go__X4_join : GoodIn wsX4_go_ (wsV RX4 94 RX4 yX4_join wsX4_join) := goodIn_app (goodIn_of _ (by decide +kernel)) ggX4_go__X4_join
set_option maxRecDepth 20000 in
theorem ggX4_go__X4_drawTriple : GoodIn wsX4_go_ wsX4_drawTriple := goodIn_r _ [55, 56, 2, 29, 30, 31, 26, 32, 5, 18, 19, 20, 21, 22, 42, 43, 71, 72, 73, 74, 75, 76, 77, 78, 79, 80, 81, 82, 83] rfl (by decide +kernel)
set_option maxRecDepth 20000 in
theorem gX4_go__X4_drawTriple : GoodIn wsX4_go_ (wsV RX4 98 RX4 yX4_drawTriple wsX4_drawTriple) := goodIn_app (goodIn_of _ (by decide +kernel)) ggX4_go__X4_drawTriple
set_option maxRecDepth 20000 in
theorem ggX4_go__X4_showLessTriple : GoodIn wsX4_go_ wsX4_showLessTriple := goodIn_r _ [60, 61, 28, 56, 2, 62, 1, 33, 34, 35, 26, 36, 18, 19, 20, 21, 22, 37, 38, 39, 40, 4, 41, 3, 42, 43, 71, 72, 73, 74, 75, 76, 77, 78, 79, 80, 81, 82, 83] rfl (by decide +kernel)
set_option maxRecDepth 20000 in
theorem gX4_go__X4_showLessTriple : GoodIn wsX4_go_ (wsV RX4 102 RX4 yX4_showLessTriple wsX4_showLessTriple) := goodIn_app (goodIn_of _ (by decide +kernel)) ggX4_go__X4_showLessTriple
set_option maxRecDepth 20000 in
theorem ggX4_go__X4_multiply : GoodIn wsX4_go_ wsX4_multiply := goodIn_r _ [66, 61, 62, 56, 28, 2, 33, 34, 35, 26, 36, 21, 19, 22, 71, 72, 73, 74, 75, 76, 77, 78, 79, 80, 81, 82, 83] rfl (by decide +kernel)
set_option maxRecDepth 20000 in
theorem gX4_go__X4_multiply : GoodIn wsX4_go_ (wsV RX4 106 RX4 yX4_multiply wsX4_multiply) := goodIn_app (goodIn_of _ (by decide +kernel)) ggX4_go__X4_multiply
set_option maxRecDepth 20000 in
theorem ggX4_go__X4_showAll : GoodIn wsX4_go_ wsX4_showAll := goodIn_r _ [70, 61, 28, 2, 33, 34, 35, 26, 36, 18, 19, 20, 21, 22, 37, 38, 39, 40, 4, 41, 3, 42, 43, 71, 72, 73, 74, 75, 76, 77, 78, 79, 80, 81, 82, 83] rfl (by decide +kernel)
set_option maxRecDepth 20000 in
theorem gX4_go__X4_showAll : GoodIn wsX4_go_ (wsV RX4 110 RX4 yX4_showAll wsX4_showAll) := goodIn_app (goodIn_of _ (by decide +kernel)) ggX4_go__X4_showAll
theorem dX4_go__0 : decode cX4_go_ 0 = .ok (.aload_n 0, 1) := by decide +kernel
theorem dX4_go__1 : decode cX4_go_ 1 = .ok (.iload_n 2, 1) := by decide +kernel
theorem dX4_go__2 : decode cX4_go_ 2 = .ok (.putfield 45, 3) := by decide +kernel
theorem dX4_go__5 : decode cX4_go_ 5 = .ok (.aload_n 0, 1) := by decide +kernel
theorem dX4_go__6 : decode cX4_go_ 6 = .ok (.aload_n 1, 1) := by decide +kernel
theorem dX4_go__7 : decode cX4_go_ 7 = .ok (.getfield 49, 3) := by decide +kernel
theorem dX4_go__10 : decode cX4_go_ 10 = .ok (.putfield 52, 3) := by decide +kernel
theorem dX4_go__13 : decode cX4_go_ 13 = .ok (.aload_n 0, 1) := by decide +kernel
theorem dX4_go__14 : decode cX4_go_ 14 = .ok (.iconst 0, 1) := by decide +kernel
theorem dX4_go__15 : decode cX4_go_ 15 = .ok (.putfield 53, 3) := by decide +kernel
theorem dX4_go__18 : decode cX4_go_ 18 = .ok (.aload_n 0, 1) := by decide +kernel
theorem dX4_go__19 : decode cX4_go_ 19 = .ok (.iconst 0, 1) := by decide +kernel
theorem dX4_go__20 : decode cX4_go_ 20 = .ok (.putfield 56, 3) := by decide +kernel
theorem dX4_go__23 : decode cX4_go_ 23 = .ok (.aload_n 0, 1) := by decide +kernel
theorem dX4_go__24 : decode cX4_go_ 24 = .ok (.iconst 0, 1) := by decide +kernel
theorem dX4_go__25 : decode cX4_go_ 25 = .ok (.putfield 59, 3) := by decide +kernel
theorem dX4_go__28 : decode cX4_go_ 28 = .ok (.aload_n 0, 1) := by decide +kernel
theorem dX4_go__29 : decode cX4_go_ 29 = .ok (.iconst 0, 1) := by decide +kernel
theorem dX4_go__30 : decode cX4_go_ 30 = .ok (.putfield 62, 3) := by decide +kernel
theorem dX4_go__33 : decode cX4_go_ 33 = .ok (.aload_n 1, 1) := by decide +kernel
theorem dX4_go__34 : decode cX4_go_ 34 = .ok (.getfield 65, 3) := by decide +kernel
theorem dX4_go__37 : decode cX4_go_ 37 = .ok (.getfield 69, 3) := by decide +kernel
theorem dX4_go__40 : decode cX4_go_ 40 = .ok (.astore 6, 2) := by decide +kernel
theorem dX4_go__42 : decode cX4_go_ 42 = .ok (.aload_n 1, 1) := by decide +kernel
theorem dX4_go__43 : decode cX4_go_ 43 = .ok (.getfield 65, 3) := by decide +kernel
theorem dX4_go__46 : decode cX4_go_ 46 = .ok (.getfield 74, 3) := by decide +kernel
theorem dX4_go__49 : decode cX4_go_ 49 = .ok (.bipush 6, 2) := by decide +kernel
theorem dX4_go__51 : decode cX4_go_ 51 = .ok (.imul, 1) := by decide +kernel
theorem dX4_go__52 : decode cX4_go_ 52 = .ok (.aload 6, 2) := by decide +kernel
theorem dX4_go__54 : decode cX4_go_ 54 = .ok (.arraylength, 1) := by decide +kernel
theorem dX4_go__55 : decode cX4_go_ 55 = .ok (.bipush 6, 2) := by decide +kernel
theorem dX4_go__57 : decode cX4_go_ 57 = .ok (.isub, 1) := by decide +kernel
theorem dX4_go__58 : decode cX4_go_ 58 = .ok (.iconst 1, 1) := by decide +kernel
theorem dX4_go__59 : decode cX4_go_ 59 = .ok (.iadd, 1) := by decide +kernel
theorem dX4_go__60 : decode cX4_go_ 60 = .ok (.invokestatic 77, 3) := by decide +kernel
theorem dX4_go__63 : decode cX4_go_ 63 = .ok (.istore 7, 2) := by decide +kernel
theorem dX4_go__65 : decode cX4_go_ 65 = .ok (.iconst 0, 1) := by decide +kernel
theorem dX4_go__66 : decode cX4_go_ 66 = .ok (.istore 8, 2) := by decide +kernel
theorem dX4_go__68 : decode cX4_go_ 68 = .ok (.iconst 0, 1) := by decide +kernel
theorem dX4_go__69 : decode cX4_go_ 69 = .ok (.istore 9, 2) := by decide +kernel
theorem dX4_go__71 : decode cX4_go_ 71 = .ok (.iload 9, 2) := by decide +kernel
theorem dX4_go__73 : decode cX4_go_ 73 = .ok (.iload 7, 2) := by decide +kernel
theorem dX4_go__75 : decode cX4_go_ 75 = .ok (.if_icmp .ge 203, 3) := by decide +kernel
theorem dX4_go__78 : decode cX4_go_ 78 = .ok (.aload 6, 2) := by decide +kernel
theorem dX4_go__80 : decode cX4_go_ 80 = .ok (.iload 9, 2) := by decide +kernel
theorem dX4_go__82 : decode cX4_go_ 82 = .ok (.iconst 1, 1) := by decide +kernel
theorem dX4_go__83 : decode cX4_go_ 83 = .ok (.iadd, 1) := by decide +kernel
theorem dX4_go__84 : decode cX4_go_ 84 = .ok (.iaload, 1) := by decide +kernel
theorem dX4_go__85 : decode cX4_go_ 85 = .ok (.iconst 3, 1) := by decide +kernel
theorem dX4_go__86 : decode cX4_go_ 86 = .ok (.imul, 1) := by decide +kernel
theorem dX4_go__87 : decode cX4_go_ 87 = .ok (.istore 10, 2) := by decide +kernel
theorem dX4_go__89 : decode cX4_go_ 89 = .ok (.aload 6, 2) := by decide +kernel
theorem dX4_go__91 : decode cX4_go_ 91 = .ok (.iload 9, 2) := by decide +kernel
theorem dX4_go__93 : decode cX4_go_ 93 = .ok (.iconst 2, 1) := by decide +kernel
theorem dX4_go__94 : decode cX4_go_ 94 = .ok (.iadd, 1) := by decide +kernel
theorem dX4_go__95 : decode cX4_go_ 95 = .ok (.iaload, 1) := by decide +kernel
theorem dX4_go__96 : decode cX4_go_ 96 = .ok (.iconst 3, 1) := by decide +kernel
theorem dX4_go__97 : decode cX4_go_ 97 = .ok (.imul, 1) := by decide +kernel
theorem dX4_go__98 : decode cX4_go_ 98 = .ok (.istore 11, 2) := by decide +kernel
theorem dX4_go__100 : decode cX4_go_ 100 = .ok (.aload 6, 2) := by decide +kernel
theorem dX4_go__102 : decode cX4_go_ 102 = .ok (.iload 9, 2) := by decide +kernel
theorem dX4_go__104 : decode cX4_go_ 104 = .ok (.iconst 3, 1) := by decide +kernel
theorem dX4_go__105 : decode cX4_go_ 105 = .ok (.iadd, 1) := by decide +kernel
theorem dX4_go__106 : decode cX4_go_ 106 = .ok (.iaload, 1) := by decide +kernel
theorem dX4_go__107 : decode cX4_go_ 107 = .ok (.iconst 3, 1) := by decide +kernel
theorem dX4_go__108 : decode cX4_go_ 108 = .ok (.imul, 1) := by decide +kernel
theorem dX4_go__109 : decode cX4_go_ 109 = .ok (.istore 12, 2) := by decide +kernel
theorem dX4_go__111 : decode cX4_go_ 111 = .ok (.aload 6, 2) := by decide +kernel
theorem dX4_go__113 : decode cX4_go_ 113 = .ok (.iload 9, 2) := by decide +kernel
theorem dX4_go__115 : decode cX4_go_ 115 = .ok (.iconst 0, 1) := by decide +kernel
theorem dX4_go__116 : decode cX4_go_ 116 = .ok (.iadd, 1) := by decide +kernel
theorem dX4_go__117 : decode cX4_go_ 117 = .ok (.iaload, 1) := by decide +kernel
theorem dX4_go__118 : decode cX4_go_ 118 = .ok (.tableswitch 141 0 4 #[34, 70, 86, 100, 114], 34) := by decide +kernel
theorem dX4_go__152 : decode cX4_go_ 152 = .ok (.aload_n 0, 1) := by decide +kernel
theorem dX4_go__153 : decode cX4_go_ 153 = .ok (.iload 10, 2) := by decide +kernel
theorem dX4_go__155 : decode cX4_go_ 155 = .ok (.aload 6, 2) := by decide +kernel
theorem dX4_go__157 : decode cX4_go_ 157 = .ok (.iload 9, 2) := by decide +kernel
theorem dX4_go__159 : decode cX4_go_ 159 = .ok (.iconst 4, 1) := by decide +kernel
theorem dX4_go__160 : decode cX4_go_ 160 = .ok (.iadd, 1) := by decide +kernel

theorem dX10_spy_74 : decode cX10_spy 74 = .ok (.aload_n 0, 1) := by decide +kernel
theorem dX10_spy_75 : decode cX10_spy 75 = .ok (.getfield 72, 3) := by decide +kernel
theorem dX10_spy_78 : decode cX10_spy 78 = .ok (.iload 6, 2) := by decide +kernel
theorem dX10_spy_80 : decode cX10_spy 80 = .ok (.laload, 1) := by decide +kernel
theorem dX10_spy_81 : decode cX10_spy 81 = .ok (.aload_n 0, 1) := by decide +kernel
theorem dX10_spy_82 : decode cX10_spy 82 = .ok (.getfield 72, 3) := by decide +kernel
theorem dX10_spy_85 : decode cX10_spy 85 = .ok (.iload 6, 2) := by decide +kernel
theorem dX10_spy_87 : decode cX10_spy 87 = .ok (.iconst 1, 1) := by decide +kernel
theorem dX10_spy_88 : decode cX10_spy 88 = .ok (.isub, 1) := by decide +kernel
theorem dX10_spy_89 : decode cX10_spy 89 = .ok (.laload, 1) := by decide +kernel
theorem dX10_spy_90 : decode cX10_spy 90 = .ok (.lcmp, 1) := by decide +kernel
theorem dX10_spy_91 : decode cX10_spy 91 = .ok (.ifCond .eq 7, 3) := by decide +kernel
theorem dX10_spy_94 : decode cX10_spy 94 = .ok (.iconst 1, 1) := by decide +kernel
theorem dX10_spy_95 : decode cX10_spy 95 = .ok (.goto 4, 3) := by decide +kernel
theorem dX10_spy_98 : decode cX10_spy 98 = .ok (.iconst 0, 1) := by decide +kernel
theorem dX10_spy_99 : decode cX10_spy 99 = .ok (.iadd, 1) := by decide +kernel
theorem dX10_spy_100 : decode cX10_spy 100 = .ok (.istore 4, 2) := by decide +kernel
theorem dX10_spy_102 : decode cX10_spy 102 = .ok (.iload 5, 2) := by decide +kernel
theorem dX10_spy_104 : decode cX10_spy 104 = .ok (.ifCond .eq 29, 3) := by decide +kernel
theorem dX10_spy_107 : decode cX10_spy 107 = .ok (.aload_n 0, 1) := by decide +kernel
theorem dX10_spy_108 : decode cX10_spy 108 = .ok (.getfield 72, 3) := by decide +kernel
theorem dX10_spy_111 : decode cX10_spy 111 = .ok (.iload 6, 2) := by decide +kernel
theorem dX10_spy_113 : decode cX10_spy 113 = .ok (.laload, 1) := by decide +kernel
theorem dX10_spy_114 : decode cX10_spy 114 = .ok (.aload_n 0, 1) := by decide +kernel
theorem dX10_spy_115 : decode cX10_spy 115 = .ok (.getfield 72, 3) := by decide +kernel
theorem dX10_spy_118 : decode cX10_spy 118 = .ok (.sipush 4096, 3) := by decide +kernel
theorem dX10_spy_121 : decode cX10_spy 121 = .ok (.iload 6, 2) := by decide +kernel
theorem dX10_spy_123 : decode cX10_spy 123 = .ok (.iadd, 1) := by decide +kernel
theorem dX10_spy_124 : decode cX10_spy 124 = .ok (.laload, 1) := by decide +kernel
theorem dX10_spy_125 : decode cX10_spy 125 = .ok (.lcmp, 1) := by decide +kernel
theorem dX10_spy_126 : decode cX10_spy 126 = .ok (.ifCond .ne 7, 3) := by decide +kernel
theorem dX10_spy_129 : decode cX10_spy 129 = .ok (.iconst 1, 1) := by decide +kernel
theorem dX10_spy_130 : decode cX10_spy 130 = .ok (.goto 4, 3) := by decide +kernel
theorem dX10_spy_133 : decode cX10_spy 133 = .ok (.iconst 0, 1) := by decide +kernel
theorem dX10_spy_134 : decode cX10_spy 134 = .ok (.istore 5, 2) := by decide +kernel
theorem dX10_spy_136 : decode cX10_spy 136 = .ok (.iinc 6 1, 3) := by decide +kernel
theorem dX10_spy_139 : decode cX10_spy 139 = .ok (.goto (-78), 3) := by decide +kernel
theorem dX10_spy_142 : decode cX10_spy 142 = .ok (.iload_n 2, 1) := by decide +kernel
theorem dX10_spy_143 : decode cX10_spy 143 = .ok (.iconst 1, 1) := by decide +kernel
theorem dX10_spy_144 : decode cX10_spy 144 = .ok (.if_icmp .ne 8, 3) := by decide +kernel
theorem dX10_spy_147 : decode cX10_spy 147 = .ok (.iload 4, 2) := by decide +kernel
theorem dX10_spy_149 : decode cX10_spy 149 = .ok (.goto 13, 3) := by decide +kernel
theorem dX10_spy_152 : decode cX10_spy 152 = .ok (.iload 5, 2) := by decide +kernel
theorem dX10_spy_154 : decode cX10_spy 154 = .ok (.ifCond .eq 7, 3) := by decide +kernel
theorem dX10_spy_157 : decode cX10_spy 157 = .ok (.iconst 0, 1) := by decide +kernel
theorem dX10_spy_158 : decode cX10_spy 158 = .ok (.goto 4, 3) := by decide +kernel
theorem dX10_spy_161 : decode cX10_spy 161 = .ok (.iconst 1, 1) := by decide +kernel
theorem dX10_spy_162 : decode cX10_spy 162 = .ok (.ireturn, 1) := by decide +kernel
set_option maxRecDepth 20000 in
theorem ggX10_plainEnd_X10_mod : GoodIn wsX10_plainEnd wsX10_mod := goodIn_r _ [13, 14, 15, 16, 17, 18, 19, 20, 21, 22, 23, 24, 25, 26, 27, 28, 29, 30, 31, 32, 33, 34, 35, 36, 37, 38, 39, 40, 41, 42, 43, 44, 45, 46, 47, 48, 49, 50, 51, 52, 53, 54, 55, 56, 57, 58, 59, 60, 61] rfl (by decide +kernel)
set_option maxRecDepth 20000 in
theorem gX10_plainEnd_X10_mod : GoodIn wsX10_plainEnd (wsV RX10 206 RX10 yX10_mod wsX10_mod) := goodIn_app (goodIn_of _ (by decide +kernel)) ggX10_plainEnd_X10_mod
theorem dX10_plainEnd_0 : decode cX10_plainEnd 0 = .ok (.iconst 0, 1) := by decide +kernel
theorem dX10_plainEnd_1 : decode cX10_plainEnd 1 = .ok (.istore_n 1, 1) := by decide +kernel
theorem dX10_plainEnd_2 : decode cX10_plainEnd 2 = .ok (.iconst 0, 1) := by decide +kernel
theorem dX10_plainEnd_3 : decode cX10_plainEnd 3 = .ok (.istore_n 2, 1) := by decide +kernel
theorem dX10_plainEnd_4 : decode cX10_plainEnd 4 = .ok (.iconst 0, 1) := by decide +kernel
theorem dX10_plainEnd_5 : decode cX10_plainEnd 5 = .ok (.istore_n 3, 1) := by decide +kernel
theorem dX10_plainEnd_6 : decode cX10_plainEnd 6 = .ok (.iload_n 3, 1) := by decide +kernel
theorem dX10_plainEnd_7 : decode cX10_plainEnd 7 = .ok (.aload_n 0, 1) := by decide +kernel
theorem dX10_plainEnd_8 : decode cX10_plainEnd 8 = .ok (.getfield 112, 3) := by decide +kernel
theorem dX10_plainEnd_11 : decode cX10_plainEnd 11 = .ok (.if_icmp .ge 165, 3) := by decide +kernel
theorem dX10_plainEnd_14 : decode cX10_plainEnd 14 = .ok (.aload_n 0, 1) := by decide +kernel
theorem dX10_plainEnd_15 : decode cX10_plainEnd 15 = .ok (.getfield 13, 3) := by decide +kernel
theorem dX10_plainEnd_18 : decode cX10_plainEnd 18 = .ok (.iload_n 3, 1) := by decide +kernel
theorem dX10_plainEnd_19 : decode cX10_plainEnd 19 = .ok (.iaload, 1) := by decide +kernel
theorem dX10_plainEnd_20 : decode cX10_plainEnd 20 = .ok (.ifCond .ne 20, 3) := by decide +kernel
theorem dX10_plainEnd_23 : decode cX10_plainEnd 23 = .ok (.aload_n 0, 1) := by decide +kernel
theorem dX10_plainEnd_24 : decode cX10_plainEnd 24 = .ok (.aload_n 0, 1) := by decide +kernel
theorem dX10_plainEnd_25 : decode cX10_plainEnd 25 = .ok (.getfield 79, 3) := by decide +kernel
theorem dX10_plainEnd_28 : decode cX10_plainEnd 28 = .ok (.iload_n 1, 1) := by decide +kernel
theorem dX10_plainEnd_29 : decode cX10_plainEnd 29 = .ok (.iaload, 1) := by decide +kernel
theorem dX10_plainEnd_30 : decode cX10_plainEnd 30 = .ok (.invokevirtual 206, 3) := by decide +kernel
theorem dX10_plainEnd_33 : decode cX10_plainEnd 33 = .ok (.istore_n 2, 1) := by decide +kernel
theorem dX10_plainEnd_34 : decode cX10_plainEnd 34 = .ok (.iinc 1 1, 3) := by decide +kernel
theorem dX10_plainEnd_37 : decode cX10_plainEnd 37 = .ok (.goto 121, 3) := by decide +kernel
theorem dX10_plainEnd_40 : decode cX10_plainEnd 40 = .ok (.aload_n 0, 1) := by decide +kernel
theorem dX10_plainEnd_41 : decode cX10_plainEnd 41 = .ok (.getfield 13, 3) := by decide +kernel
theorem dX10_plainEnd_44 : decode cX10_plainEnd 44 = .ok (.iload_n 3, 1) := by decide +kernel
theorem dX10_plainEnd_45 : decode cX10_plainEnd 45 = .ok (.iaload, 1) := by decide +kernel
theorem dX10_plainEnd_46 : decode cX10_plainEnd 46 = .ok (.iconst 1, 1) := by decide +kernel
theorem dX10_plainEnd_47 : decode cX10_plainEnd 47 = .ok (.if_icmp .ne 17, 3) := by decide +kernel
theorem dX10_plainEnd_50 : decode cX10_plainEnd 50 = .ok (.aload_n 0, 1) := by decide +kernel
theorem dX10_plainEnd_51 : decode cX10_plainEnd 51 = .ok (.aload_n 0, 1) := by decide +kernel
theorem dX10_plainEnd_52 : decode cX10_plainEnd 52 = .ok (.getfield 26, 3) := by decide +kernel
theorem dX10_plainEnd_55 : decode cX10_plainEnd 55 = .ok (.iload_n 3, 1) := by decide +kernel
theorem dX10_plainEnd_56 : decode cX10_plainEnd 56 = .ok (.iaload, 1) := by decide +kernel
theorem dX10_plainEnd_57 : decode cX10_plainEnd 57 = .ok (.invokevirtual 206, 3) := by decide +kernel
theorem dX10_plainEnd_60 : decode cX10_plainEnd 60 = .ok (.istore_n 2, 1) := by decide +kernel
theorem dX10_plainEnd_61 : decode cX10_plainEnd 61 = .ok (.goto 97, 3) := by decide +kernel
theorem dX10_plainEnd_64 : decode cX10_plainEnd 64 = .ok (.aload_n 0, 1) := by decide +kernel
theorem dX10_plainEnd_65 : decode cX10_plainEnd 65 = .ok (.getfield 13, 3) := by decide +kernel
theorem dX10_plainEnd_68 : decode cX10_plainEnd 68 = .ok (.iload_n 3, 1) := by decide +kernel
theorem dX10_plainEnd_69 : decode cX10_plainEnd 69 = .ok (.iaload, 1) := by decide +kernel
theorem dX10_plainEnd_70 : decode cX10_plainEnd 70 = .ok (.iconst 5, 1) := by decide +kernel
theorem dX10_plainEnd_71 : decode cX10_plainEnd 71 = .ok (.if_icmp .ne 15, 3) := by decide +kernel
theorem dX10_plainEnd_74 : decode cX10_plainEnd 74 = .ok (.aload_n 0, 1) := by decide +kernel
theorem dX10_plainEnd_75 : decode cX10_plainEnd 75 = .ok (.getfield 76, 3) := by decide +kernel
theorem dX10_plainEnd_78 : decode cX10_plainEnd 78 = .ok (.aload_n 0, 1) := by decide +kernel
theorem dX10_plainEnd_79 : decode cX10_plainEnd 79 = .ok (.getfield 17, 3) := by decide +kernel
theorem dX10_plainEnd_82 : decode cX10_plainEnd 82 = .ok (.iload_n 3, 1) := by decide +kernel
theorem dX10_plainEnd_83 : decode cX10_plainEnd 83 = .ok (.iaload, 1) := by decide +kernel
theorem dX10_plainEnd_84 : decode cX10_plainEnd 84 = .ok (.iaload, 1) := by decide +kernel
theorem dX10_plainEnd_85 : decode cX10_plainEnd 85 = .ok (.ireturn, 1) := by decide +kernel
theorem dX10_plainEnd_86 : decode cX10_plainEnd 86 = .ok (.aload_n 0, 1) := by decide +kernel
theorem dX10_plainEnd_87 : decode cX10_plainEnd 87 = .ok (.getfield 76, 3) := by decide +kernel
theorem dX10_plainEnd_90 : decode cX10_plainEnd 90 = .ok (.aload_n 0, 1) := by decide +kernel
theorem dX10_plainEnd_91 : decode cX10_plainEnd 91 = .ok (.getfield 20, 3) := by decide +kernel
theorem dX10_plainEnd_94 : decode cX10_plainEnd 94 = .ok (.iload_n 3, 1) := by decide +kernel
theorem dX10_plainEnd_95 : decode cX10_plainEnd 95 = .ok (.iaload, 1) := by decide +kernel
theorem dX10_plainEnd_96 : decode cX10_plainEnd 96 = .ok (.iaload, 1) := by decide +kernel
theorem dX10_plainEnd_97 : decode cX10_plainEnd 97 = .ok (.istore 4, 2) := by decide +kernel
theorem dX10_plainEnd_99 : decode cX10_plainEnd 99 = .ok (.aload_n 0, 1) := by decide +kernel
theorem dX10_plainEnd_100 : decode cX10_plainEnd 100 = .ok (.getfield 76, 3) := by decide +kernel
theorem dX10_plainEnd_103 : decode cX10_plainEnd 103 = .ok (.aload_n 0, 1) := by decide +kernel
theorem dX10_plainEnd_104 : decode cX10_plainEnd 104 = .ok (.getfield 23, 3) := by decide +kernel
theorem dX10_plainEnd_107 : decode cX10_plainEnd 107 = .ok (.iload_n 3, 1) := by decide +kernel
theorem dX10_plainEnd_108 : decode cX10_plainEnd 108 = .ok (.iaload, 1) := by decide +kernel
theorem dX10_plainEnd_109 : decode cX10_plainEnd 109 = .ok (.iaload, 1) := by decide +kernel
theorem dX10_plainEnd_110 : decode cX10_plainEnd 110 = .ok (.istore 5, 2) := by decide +kernel
theorem dX10_plainEnd_112 : decode cX10_plainEnd 112 = .ok (.aload_n 0, 1) := by decide +kernel
theorem dX10_plainEnd_113 : decode cX10_plainEnd 113 = .ok (.aload_n 0, 1) := by decide +kernel
theorem dX10_plainEnd_114 : decode cX10_plainEnd 114 = .ok (.getfield 13, 3) := by decide +kernel
theorem dX10_plainEnd_117 : decode cX10_plainEnd 117 = .ok (.iload_n 3, 1) := by decide +kernel
theorem dX10_plainEnd_118 : decode cX10_plainEnd 118 = .ok (.iaload, 1) := by decide +kernel
theorem dX10_plainEnd_119 : decode cX10_plainEnd 119 = .ok (.iconst 2, 1) := by decide +kernel
theorem dX10_plainEnd_120 : decode cX10_plainEnd 120 = .ok (.if_icmp .ne 11, 3) := by decide +kernel
theorem dX10_plainEnd_123 : decode cX10_plainEnd 123 = .ok (.iload 4, 2) := by decide +kernel
theorem dX10_plainEnd_125 : decode cX10_plainEnd 125 = .ok (.iload 5, 2) := by decide +kernel
theorem dX10_plainEnd_127 : decode cX10_plainEnd 127 = .ok (.iadd, 1) := by decide +kernel
theorem dX10_plainEnd_128 : decode cX10_plainEnd 128 = .ok (.goto 26, 3) := by decide +kernel
theorem dX10_plainEnd_131 : decode cX10_plainEnd 131 = .ok (.aload_n 0, 1) := by decide +kernel
theorem dX10_plainEnd_132 : decode cX10_plainEnd 132 = .ok (.getfield 13, 3) := by decide +kernel
theorem dX10_plainEnd_135 : decode cX10_plainEnd 135 = .ok (.iload_n 3, 1) := by decide +kernel
theorem dX10_plainEnd_136 : decode cX10_plainEnd 136 = .ok (.iaload, 1) := by decide +kernel
theorem dX10_plainEnd_137 : decode cX10_plainEnd 137 = .ok (.iconst 3, 1) := by decide +kernel
theorem dX10_plainEnd_138 : decode cX10_plainEnd 138 = .ok (.if_icmp .ne 11, 3) := by decide +kernel
theorem dX10_plainEnd_141 : decode cX10_plainEnd 141 = .ok (.iload 4, 2) := by decide +kernel
theorem dX10_plainEnd_143 : decode cX10_plainEnd 143 = .ok (.iload 5, 2) := by decide +kernel
theorem dX10_plainEnd_145 : decode cX10_plainEnd 145 = .ok (.isub, 1) := by decide +kernel
theorem dX10_plainEnd_146 : decode cX10_plainEnd 146 = .ok (.goto 8, 3) := by decide +kernel
theorem dX10_plainEnd_149 : decode cX10_plainEnd 149 = .ok (.iload 4, 2) := by decide +kernel
theorem dX10_plainEnd_151 : decode cX10_plainEnd 151 = .ok (.iload 5, 2) := by decide +kernel
theorem dX10_plainEnd_153 : decode cX10_plainEnd 153 = .ok (.imul, 1) := by decide +kernel
theorem dX10_plainEnd_154 : decode cX10_plainEnd 154 = .ok (.invokevirtual 206, 3) := by decide +kernel
theorem dX10_plainEnd_157 : decode cX10_plainEnd 157 = .ok (.istore_n 2, 1) := by decide +kernel
theorem dX10_plainEnd_158 : decode cX10_plainEnd 158 = .ok (.aload_n 0, 1) := by decide +kernel
theorem dX10_plainEnd_159 : decode cX10_plainEnd 159 = .ok (.getfield 76, 3) := by decide +kernel
theorem dX10_plainEnd_162 : decode cX10_plainEnd 162 = .ok (.aload_n 0, 1) := by decide +kernel
theorem dX10_plainEnd_163 : decode cX10_plainEnd 163 = .ok (.getfield 17, 3) := by decide +kernel
theorem dX10_plainEnd_166 : decode cX10_plainEnd 166 = .ok (.iload_n 3, 1) := by decide +kernel
theorem dX10_plainEnd_167 : decode cX10_plainEnd 167 = .ok (.iaload, 1) := by decide +kernel
theorem dX10_plainEnd_168 : decode cX10_plainEnd 168 = .ok (.iload_n 2, 1) := by decide +kernel
theorem dX10_plainEnd_169 : decode cX10_plainEnd 169 = .ok (.iastore, 1) := by decide +kernel
theorem dX10_plainEnd_170 : decode cX10_plainEnd 170 = .ok (.iinc 3 1, 3) := by decide +kernel
theorem dX10_plainEnd_173 : decode cX10_plainEnd 173 = .ok (.goto (-167), 3) := by decide +kernel
theorem dX10_plainEnd_176 : decode cX10_plainEnd 176 = .ok (.iconst 0, 1) := by decide +kernel
theorem dX10_plainEnd_177 : decode cX10_plainEnd 177 = .ok (.ireturn, 1) := by decide +kernel
set_option maxRecDepth 20000 in
theorem ggX10_tells_X10_isHand : GoodIn wsX10_tells wsX10_isHand := goodIn_r _ [10, 11, 12, 13, 9, 14] rfl (by decide +kernel)
set_option maxRecDepth 20000 in
theorem gX10_tells_X10_isHand : GoodIn wsX10_tells (va_wsS RX10 200 yX10_isHand wsX10_isHand) := goodIn_app (goodIn_of _ (by decide +kernel)) ggX10_tells_X10_isHand
set_option maxRecDepth 20000 in
theorem ggX10_tells_X10_in : GoodIn wsX10_tells wsX10_in := goodIn_r _ [14] rfl (by decide +kernel)
set_option maxRecDepth 20000 in
theorem gX10_tells_X10_in : GoodIn wsX10_tells (va_wsS RX10 117 yX10_in wsX10_in) := goodIn_app (goodIn_of _ (by decide +kernel)) ggX10_tells_X10_in
set_option maxRecDepth 20000 in
theorem ggX10_tells_X10_power : GoodIn wsX10_tells wsX10_power := goodIn_r _ [18, 6, 31, 32, 33, 34, 35, 36, 37, 38, 39, 40, 41, 42, 43, 44, 45, 46, 47, 48, 49, 50, 51, 52, 53, 54, 55, 56, 57, 58, 59, 60, 61, 62, 63, 64, 65, 66, 67, 68, 69, 70, 71, 72, 73, 74, 75, 76, 77] rfl (by decide +kernel)
set_option maxRecDepth 20000 in
theorem gX10_tells_X10_power : GoodIn wsX10_tells (wsV RX10 237 RX10 yX10_power wsX10_power) := goodIn_app (goodIn_of _ (by decide +kernel)) ggX10_tells_X10_power
set_option maxRecDepth 20000 in
theorem ggX10_tells_X10_plainEnd : GoodIn wsX10_tells wsX10_plainEnd := goodIn_r _ [22, 1, 2, 3, 5, 23, 24, 25, 26, 27, 28, 29, 9, 30, 6, 31, 32, 33, 34, 35, 36, 37, 38, 39, 40, 41, 42, 43, 44, 45, 46, 47, 48, 49, 50, 51, 52, 53, 54, 55, 56, 57, 58, 59, 60, 61, 62, 63, 64, 65, 66, 67, 68, 69, 70, 71, 72, 73, 74, 75, 76, 77] rfl (by decide +kernel)
set_option maxRecDepth 20000 in
theorem gX10_tells_X10_plainEnd : GoodIn wsX10_tells (wsV RX10 244 RX10 yX10_plainEnd wsX10_plainEnd) := goodIn_app (goodIn_of _ (by decide +kernel)) ggX10_tells_X10_plainEnd
theorem dX10_tells_0 : decode cX10_tells 0 = .ok (.iload_n 1, 1) := by decide +kernel
theorem dX10_tells_1 : decode cX10_tells 1 = .ok (.invokestatic 200, 3) := by decide +kernel
theorem dX10_tells_4 : decode cX10_tells 4 = .ok (.ifCond .eq 13, 3) := by decide +kernel
theorem dX10_tells_7 : decode cX10_tells 7 = .ok (.iload_n 2, 1) := by decide +kernel
theorem dX10_tells_8 : decode cX10_tells 8 = .ok (.i2l, 1) := by decide +kernel
theorem dX10_tells_9 : decode cX10_tells 9 = .ok (.lconst 0, 1) := by decide +kernel
theorem dX10_tells_10 : decode cX10_tells 10 = .ok (.lconst 1, 1) := by decide +kernel
theorem dX10_tells_11 : decode cX10_tells 11 = .ok (.invokestatic 117, 3) := by decide +kernel
theorem dX10_tells_14 : decode cX10_tells 14 = .ok (.ifCond .ne 5, 3) := by decide +kernel
theorem dX10_tells_17 : decode cX10_tells 17 = .ok (.iconst (-1), 1) := by decide +kernel
theorem dX10_tells_18 : decode cX10_tells 18 = .ok (.ireturn, 1) := by decide +kernel
theorem dX10_tells_19 : decode cX10_tells 19 = .ok (.iconst 0, 1) := by decide +kernel
theorem dX10_tells_20 : decode cX10_tells 20 = .ok (.istore_n 3, 1) := by decide +kernel
theorem dX10_tells_21 : decode cX10_tells 21 = .ok (.iconst 0, 1) := by decide +kernel
theorem dX10_tells_22 : decode cX10_tells 22 = .ok (.istore 4, 2) := by decide +kernel
theorem dX10_tells_24 : decode cX10_tells 24 = .ok (.iconst 0, 1) := by decide +kernel
theorem dX10_tells_25 : decode cX10_tells 25 = .ok (.istore 5, 2) := by decide +kernel
theorem dX10_tells_27 : decode cX10_tells 27 = .ok (.iconst 0, 1) := by decide +kernel
theorem dX10_tells_28 : decode cX10_tells 28 = .ok (.istore 6, 2) := by decide +kernel
theorem dX10_tells_30 : decode cX10_tells 30 = .ok (.iload 6, 2) := by decide +kernel
theorem dX10_tells_32 : decode cX10_tells 32 = .ok (.aload_n 0, 1) := by decide +kernel
theorem dX10_tells_33 : decode cX10_tells 33 = .ok (.getfield 112, 3) := by decide +kernel
theorem dX10_tells_36 : decode cX10_tells 36 = .ok (.if_icmp .ge 79, 3) := by decide +kernel
theorem dX10_tells_39 : decode cX10_tells 39 = .ok (.aload_n 0, 1) := by decide +kernel
theorem dX10_tells_40 : decode cX10_tells 40 = .ok (.getfield 13, 3) := by decide +kernel
theorem dX10_tells_43 : decode cX10_tells 43 = .ok (.iload 6, 2) := by decide +kernel
theorem dX10_tells_45 : decode cX10_tells 45 = .ok (.iaload, 1) := by decide +kernel
theorem dX10_tells_46 : decode cX10_tells 46 = .ok (.ifCond .ne 63, 3) := by decide +kernel
theorem dX10_tells_49 : decode cX10_tells 49 = .ok (.aload_n 0, 1) := by decide +kernel
theorem dX10_tells_50 : decode cX10_tells 50 = .ok (.getfield 79, 3) := by decide +kernel
theorem dX10_tells_53 : decode cX10_tells 53 = .ok (.iload 5, 2) := by decide +kernel
theorem dX10_tells_55 : decode cX10_tells 55 = .ok (.aload_n 0, 1) := by decide +kernel
theorem dX10_tells_56 : decode cX10_tells 56 = .ok (.getfield 39, 3) := by decide +kernel
theorem dX10_tells_59 : decode cX10_tells 59 = .ok (.iload 5, 2) := by decide +kernel
theorem dX10_tells_61 : decode cX10_tells 61 = .ok (.iaload, 1) := by decide +kernel
theorem dX10_tells_62 : decode cX10_tells 62 = .ok (.iastore, 1) := by decide +kernel
theorem dX10_tells_63 : decode cX10_tells 63 = .ok (.iload_n 3, 1) := by decide +kernel
theorem dX10_tells_64 : decode cX10_tells 64 = .ok (.aload_n 0, 1) := by decide +kernel
theorem dX10_tells_65 : decode cX10_tells 65 = .ok (.getfield 26, 3) := by decide +kernel
theorem dX10_tells_68 : decode cX10_tells 68 = .ok (.iload 6, 2) := by decide +kernel
theorem dX10_tells_70 : decode cX10_tells 70 = .ok (.iaload, 1) := by decide +kernel
theorem dX10_tells_71 : decode cX10_tells 71 = .ok (.iload_n 1, 1) := by decide +kernel
theorem dX10_tells_72 : decode cX10_tells 72 = .ok (.if_icmp .ne 7, 3) := by decide +kernel
theorem dX10_tells_75 : decode cX10_tells 75 = .ok (.iconst 0, 1) := by decide +kernel
theorem dX10_tells_76 : decode cX10_tells 76 = .ok (.goto 7, 3) := by decide +kernel
theorem dX10_tells_79 : decode cX10_tells 79 = .ok (.iconst 1, 1) := by decide +kernel
theorem dX10_tells_80 : decode cX10_tells 80 = .ok (.iload 5, 2) := by decide +kernel
theorem dX10_tells_82 : decode cX10_tells 82 = .ok (.ishl, 1) := by decide +kernel
theorem dX10_tells_83 : decode cX10_tells 83 = .ok (.ior, 1) := by decide +kernel
theorem dX10_tells_84 : decode cX10_tells 84 = .ok (.istore_n 3, 1) := by decide +kernel
theorem dX10_tells_85 : decode cX10_tells 85 = .ok (.iload 4, 2) := by decide +kernel
theorem dX10_tells_87 : decode cX10_tells 87 = .ok (.aload_n 0, 1) := by decide +kernel
theorem dX10_tells_88 : decode cX10_tells 88 = .ok (.getfield 26, 3) := by decide +kernel
theorem dX10_tells_91 : decode cX10_tells 91 = .ok (.iload 6, 2) := by decide +kernel
theorem dX10_tells_93 : decode cX10_tells 93 = .ok (.iaload, 1) := by decide +kernel
theorem dX10_tells_94 : decode cX10_tells 94 = .ok (.iload_n 1, 1) := by decide +kernel
theorem dX10_tells_95 : decode cX10_tells 95 = .ok (.if_icmp .ne 7, 3) := by decide +kernel
theorem dX10_tells_98 : decode cX10_tells 98 = .ok (.iconst 0, 1) := by decide +kernel
theorem dX10_tells_99 : decode cX10_tells 99 = .ok (.goto 4, 3) := by decide +kernel
theorem dX10_tells_102 : decode cX10_tells 102 = .ok (.iconst 1, 1) := by decide +kernel
theorem dX10_tells_103 : decode cX10_tells 103 = .ok (.iadd, 1) := by decide +kernel
theorem dX10_tells_104 : decode cX10_tells 104 = .ok (.istore 4, 2) := by decide +kernel
theorem dX10_tells_106 : decode cX10_tells 106 = .ok (.iinc 5 1, 3) := by decide +kernel
theorem dX10_tells_109 : decode cX10_tells 109 = .ok (.iinc 6 1, 3) := by decide +kernel
theorem dX10_tells_112 : decode cX10_tells 112 = .ok (.goto (-82), 3) := by decide +kernel
theorem dX10_tells_115 : decode cX10_tells 115 = .ok (.aload_n 0, 1) := by decide +kernel
theorem dX10_tells_116 : decode cX10_tells 116 = .ok (.iload 4, 2) := by decide +kernel
theorem dX10_tells_118 : decode cX10_tells 118 = .ok (.invokevirtual 237, 3) := by decide +kernel
theorem dX10_tells_121 : decode cX10_tells 121 = .ok (.istore 6, 2) := by decide +kernel
theorem dX10_tells_123 : decode cX10_tells 123 = .ok (.iload 6, 2) := by decide +kernel
theorem dX10_tells_125 : decode cX10_tells 125 = .ok (.sipush 4096, 3) := by decide +kernel
theorem dX10_tells_128 : decode cX10_tells 128 = .ok (.if_icmp .le 6, 3) := by decide +kernel
theorem dX10_tells_131 : decode cX10_tells 131 = .ok (.bipush (-2), 2) := by decide +kernel
theorem dX10_tells_133 : decode cX10_tells 133 = .ok (.ireturn, 1) := by decide +kernel
theorem dX10_tells_134 : decode cX10_tells 134 = .ok (.aload_n 0, 1) := by decide +kernel
theorem dX10_tells_135 : decode cX10_tells 135 = .ok (.invokevirtual 244, 3) := by decide +kernel
theorem dX10_tells_138 : decode cX10_tells 138 = .ok (.istore 7, 2) := by decide +kernel
theorem dX10_tells_140 : decode cX10_tells 140 = .ok (.iconst 0, 1) := by decide +kernel
theorem dX10_tells_141 : decode cX10_tells 141 = .ok (.istore 8, 2) := by decide +kernel
theorem dX10_tells_143 : decode cX10_tells 143 = .ok (.iconst 0, 1) := by decide +kernel
theorem dX10_tells_144 : decode cX10_tells 144 = .ok (.istore 9, 2) := by decide +kernel
theorem dX10_tells_146 : decode cX10_tells 146 = .ok (.iload 9, 2) := by decide +kernel
theorem dX10_tells_148 : decode cX10_tells 148 = .ok (.iload 6, 2) := by decide +kernel
theorem dX10_tells_150 : decode cX10_tells 150 = .ok (.if_icmp .ge 81, 3) := by decide +kernel
theorem dX10_tells_153 : decode cX10_tells 153 = .ok (.iload 9, 2) := by decide +kernel
theorem dX10_tells_155 : decode cX10_tells 155 = .ok (.istore 10, 2) := by decide +kernel
theorem dX10_tells_157 : decode cX10_tells 157 = .ok (.iconst 0, 1) := by decide +kernel
theorem dX10_tells_158 : decode cX10_tells 158 = .ok (.istore 11, 2) := by decide +kernel
theorem dX10_tells_160 : decode cX10_tells 160 = .ok (.iload 11, 2) := by decide +kernel
theorem dX10_tells_162 : decode cX10_tells 162 = .ok (.iload 5, 2) := by decide +kernel
theorem dX10_tells_164 : decode cX10_tells 164 = .ok (.if_icmp .ge 42, 3) := by decide +kernel
theorem dX10_tells_167 : decode cX10_tells 167 = .ok (.iload_n 3, 1) := by decide +kernel
theorem dX10_tells_168 : decode cX10_tells 168 = .ok (.iload 11, 2) := by decide +kernel
theorem dX10_tells_170 : decode cX10_tells 170 = .ok (.ishr, 1) := by decide +kernel
theorem dX10_tells_171 : decode cX10_tells 171 = .ok (.iconst 1, 1) := by decide +kernel
theorem dX10_tells_172 : decode cX10_tells 172 = .ok (.iand, 1) := by decide +kernel
theorem dX10_tells_173 : decode cX10_tells 173 = .ok (.iconst 1, 1) := by decide +kernel
theorem dX10_tells_174 : decode cX10_tells 174 = .ok (.if_icmp .ne 26, 3) := by decide +kernel
theorem dX10_tells_177 : decode cX10_tells 177 = .ok (.aload_n 0, 1) := by decide +kernel
theorem dX10_tells_178 : decode cX10_tells 178 = .ok (.getfield 79, 3) := by decide +kernel
theorem dX10_tells_181 : decode cX10_tells 181 = .ok (.iload 11, 2) := by decide +kernel
theorem dX10_tells_183 : decode cX10_tells 183 = .ok (.iload 10, 2) := by decide +kernel
theorem dX10_tells_185 : decode cX10_tells 185 = .ok (.aload_n 0, 1) := by decide +kernel
theorem dX10_tells_186 : decode cX10_tells 186 = .ok (.getfield 35, 3) := by decide +kernel
theorem dX10_tells_189 : decode cX10_tells 189 = .ok (.irem, 1) := by decide +kernel
theorem dX10_tells_190 : decode cX10_tells 190 = .ok (.iastore, 1) := by decide +kernel
theorem dX10_tells_191 : decode cX10_tells 191 = .ok (.iload 10, 2) := by decide +kernel
theorem dX10_tells_193 : decode cX10_tells 193 = .ok (.aload_n 0, 1) := by decide +kernel
theorem dX10_tells_194 : decode cX10_tells 194 = .ok (.getfield 35, 3) := by decide +kernel
theorem dX10_tells_197 : decode cX10_tells 197 = .ok (.idiv, 1) := by decide +kernel
theorem dX10_tells_198 : decode cX10_tells 198 = .ok (.istore 10, 2) := by decide +kernel
theorem dX10_tells_200 : decode cX10_tells 200 = .ok (.iinc 11 1, 3) := by decide +kernel
theorem dX10_tells_203 : decode cX10_tells 203 = .ok (.goto (-43), 3) := by decide +kernel
theorem dX10_tells_206 : decode cX10_tells 206 = .ok (.iload 8, 2) := by decide +kernel
theorem dX10_tells_208 : decode cX10_tells 208 = .ok (.aload_n 0, 1) := by decide +kernel
theorem dX10_tells_209 : decode cX10_tells 209 = .ok (.invokevirtual 244, 3) := by decide +kernel
theorem dX10_tells_212 : decode cX10_tells 212 = .ok (.iload 7, 2) := by decide +kernel
theorem dX10_tells_214 : decode cX10_tells 214 = .ok (.if_icmp .ne 7, 3) := by decide +kernel
theorem dX10_tells_217 : decode cX10_tells 217 = .ok (.iconst 1, 1) := by decide +kernel
theorem dX10_tells_218 : decode cX10_tells 218 = .ok (.goto 4, 3) := by decide +kernel
theorem dX10_tells_221 : decode cX10_tells 221 = .ok (.iconst 0, 1) := by decide +kernel
theorem dX10_tells_222 : decode cX10_tells 222 = .ok (.iadd, 1) := by decide +kernel
theorem dX10_tells_223 : decode cX10_tells 223 = .ok (.istore 8, 2) := by decide +kernel
theorem dX10_tells_225 : decode cX10_tells 225 = .ok (.iinc 9 1, 3) := by decide +kernel
theorem dX10_tells_228 : decode cX10_tells 228 = .ok (.goto (-82), 3) := by decide +kernel
theorem dX10_tells_231 : decode cX10_tells 231 = .ok (.iload_n 2, 1) := by decide +kernel
theorem dX10_tells_232 : decode cX10_tells 232 = .ok (.ifCond .ne 8, 3) := by decide +kernel
theorem dX10_tells_235 : decode cX10_tells 235 = .ok (.iload 8, 2) := by decide +kernel
theorem dX10_tells_237 : decode cX10_tells 237 = .ok (.goto 5, 3) := by decide +kernel
theorem dX10_tells_240 : decode cX10_tells 240 = .ok (.iload 6, 2) := by decide +kernel
theorem dX10_tells_242 : decode cX10_tells 242 = .ok (.ireturn, 1) := by decide +kernel
set_option maxRecDepth 20000 in
theorem ggX10_trade_X10_in : GoodIn wsX10_trade wsX10_in := goodIn_r _ [7] rfl (by decide +kernel)
set_option maxRecDepth 20000 in
theorem gX10_trade_X10_in : GoodIn wsX10_trade (va_wsS RX10 117 yX10_in wsX10_in) := goodIn_app (goodIn_of _ (by decide +kernel)) ggX10_trade_X10_in
theorem dX10_trade_0 : decode cX10_trade 0 = .ok (.iload_n 1, 1) := by decide +kernel
theorem dX10_trade_1 : decode cX10_trade 1 = .ok (.i2l, 1) := by decide +kernel
theorem dX10_trade_2 : decode cX10_trade 2 = .ok (.lconst 0, 1) := by decide +kernel
theorem dX10_trade_3 : decode cX10_trade 3 = .ok (.ldc2_w 188, 3) := by decide +kernel
theorem dX10_trade_6 : decode cX10_trade 6 = .ok (.invokestatic 117, 3) := by decide +kernel
theorem dX10_trade_9 : decode cX10_trade 9 = .ok (.ifCond .eq 15, 3) := by decide +kernel
theorem dX10_trade_12 : decode cX10_trade 12 = .ok (.iload_n 2, 1) := by decide +kernel
theorem dX10_trade_13 : decode cX10_trade 13 = .ok (.i2l, 1) := by decide +kernel
theorem dX10_trade_14 : decode cX10_trade 14 = .ok (.lconst 0, 1) := by decide +kernel
theorem dX10_trade_15 : decode cX10_trade 15 = .ok (.ldc2_w 247, 3) := by decide +kernel
theorem dX10_trade_18 : decode cX10_trade 18 = .ok (.invokestatic 117, 3) := by decide +kernel
theorem dX10_trade_21 : decode cX10_trade 21 = .ok (.ifCond .ne 5, 3) := by decide +kernel
theorem dX10_trade_24 : decode cX10_trade 24 = .ok (.iconst (-1), 1) := by decide +kernel
theorem dX10_trade_25 : decode cX10_trade 25 = .ok (.ireturn, 1) := by decide +kernel
theorem dX10_trade_26 : decode cX10_trade 26 = .ok (.aload_n 0, 1) := by decide +kernel
theorem dX10_trade_27 : decode cX10_trade 27 = .ok (.getfield 82, 3) := by decide +kernel
theorem dX10_trade_30 : decode cX10_trade 30 = .ok (.iload_n 1, 1) := by decide +kernel
theorem dX10_trade_31 : decode cX10_trade 31 = .ok (.iaload, 1) := by decide +kernel
theorem dX10_trade_32 : decode cX10_trade 32 = .ok (.istore_n 3, 1) := by decide +kernel
theorem dX10_trade_33 : decode cX10_trade 33 = .ok (.aload_n 0, 1) := by decide +kernel
theorem dX10_trade_34 : decode cX10_trade 34 = .ok (.getfield 82, 3) := by decide +kernel
theorem dX10_trade_37 : decode cX10_trade 37 = .ok (.iload_n 1, 1) := by decide +kernel
theorem dX10_trade_38 : decode cX10_trade 38 = .ok (.iload_n 2, 1) := by decide +kernel
theorem dX10_trade_39 : decode cX10_trade 39 = .ok (.iastore, 1) := by decide +kernel
theorem dX10_trade_40 : decode cX10_trade 40 = .ok (.iload_n 3, 1) := by decide +kernel
theorem dX10_trade_41 : decode cX10_trade 41 = .ok (.ireturn, 1) := by decide +kernel
theorem dX10_bitsIn_0 : decode cX10_bitsIn 0 = .ok (.iconst 0, 1) := by decide +kernel
theorem dX10_bitsIn_1 : decode cX10_bitsIn 1 = .ok (.istore_n 1, 1) := by decide +kernel
theorem dX10_bitsIn_2 : decode cX10_bitsIn 2 = .ok (.iconst 0, 1) := by decide +kernel
theorem dX10_bitsIn_3 : decode cX10_bitsIn 3 = .ok (.istore_n 2, 1) := by decide +kernel
theorem dX10_bitsIn_4 : decode cX10_bitsIn 4 = .ok (.iload_n 2, 1) := by decide +kernel
theorem dX10_bitsIn_5 : decode cX10_bitsIn 5 = .ok (.bipush 8, 2) := by decide +kernel
theorem dX10_bitsIn_7 : decode cX10_bitsIn 7 = .ok (.if_icmp .ge 17, 3) := by decide +kernel
theorem dX10_bitsIn_10 : decode cX10_bitsIn 10 = .ok (.iload_n 1, 1) := by decide +kernel
theorem dX10_bitsIn_11 : decode cX10_bitsIn 11 = .ok (.iload_n 0, 1) := by decide +kernel
theorem dX10_bitsIn_12 : decode cX10_bitsIn 12 = .ok (.iload_n 2, 1) := by decide +kernel
theorem dX10_bitsIn_13 : decode cX10_bitsIn 13 = .ok (.ishr, 1) := by decide +kernel
theorem dX10_bitsIn_14 : decode cX10_bitsIn 14 = .ok (.iconst 1, 1) := by decide +kernel
theorem dX10_bitsIn_15 : decode cX10_bitsIn 15 = .ok (.iand, 1) := by decide +kernel
theorem dX10_bitsIn_16 : decode cX10_bitsIn 16 = .ok (.iadd, 1) := by decide +kernel
theorem dX10_bitsIn_17 : decode cX10_bitsIn 17 = .ok (.istore_n 1, 1) := by decide +kernel
theorem dX10_bitsIn_18 : decode cX10_bitsIn 18 = .ok (.iinc 2 1, 3) := by decide +kernel
theorem dX10_bitsIn_21 : decode cX10_bitsIn 21 = .ok (.goto (-17), 3) := by decide +kernel
theorem dX10_bitsIn_24 : decode cX10_bitsIn 24 = .ok (.iload_n 1, 1) := by decide +kernel
theorem dX10_bitsIn_25 : decode cX10_bitsIn 25 = .ok (.ireturn, 1) := by decide +kernel
set_option maxRecDepth 20000 in
theorem ggX10_least_X10_in : GoodIn wsX10_least wsX10_in := goodIn_r _ [8] rfl (by decide +kernel)
set_option maxRecDepth 20000 in
theorem gX10_least_X10_in : GoodIn wsX10_least (va_wsS RX10 117 yX10_in wsX10_in) := goodIn_app (goodIn_of _ (by decide +kernel)) ggX10_least_X10_in
set_option maxRecDepth 20000 in
theorem ggX10_least_X10_countOf : GoodIn wsX10_least wsX10_countOf := goodIn_r _ [12, 4, 13, 25, 26, 27, 28, 29, 30, 31, 32, 33, 34, 35, 36, 37, 38, 39, 40, 41, 42, 43, 44, 45, 46, 47, 48, 49, 50, 51, 52, 53, 54, 55, 56, 57, 58, 59, 60, 61, 62, 63, 64, 65, 66, 67, 68, 69, 70, 71] rfl (by decide +kernel)
set_option maxRecDepth 20000 in
theorem gX10_least_X10_countOf : GoodIn wsX10_least (wsV RX10 192 RX10 yX10_countOf wsX10_countOf) := goodIn_app (goodIn_of _ (by decide +kernel)) ggX10_least_X10_countOf
set_option maxRecDepth 20000 in
theorem ggX10_least_X10_findDeep : GoodIn wsX10_least wsX10_findDeep := goodIn_r _ [17, 4, 13, 18, 19, 20, 21, 3, 25, 26, 27, 28, 29, 30, 31, 32, 33, 34, 35, 36, 37, 38, 39, 40, 41, 42, 43, 44, 45, 46, 47, 48, 49, 50, 51, 52, 53, 54, 55, 56, 57, 58, 59, 60, 61, 62, 63, 64, 65, 66, 67, 68, 69, 70, 71] rfl (by decide +kernel)
set_option maxRecDepth 20000 in
theorem gX10_least_X10_findDeep : GoodIn wsX10_least (wsV RX10 184 RX10 yX10_findDeep wsX10_findDeep) := goodIn_app (goodIn_of _ (by decide +kernel)) ggX10_least_X10_findDeep
set_option maxRecDepth 20000 in
theorem ggX10_least_X10_bitsIn : GoodIn wsX10_least wsX10_bitsIn := goodIn_r _ [24] rfl (by decide +kernel)
set_option maxRecDepth 20000 in
theorem gX10_least_X10_bitsIn : GoodIn wsX10_least (va_wsS RX10 251 yX10_bitsIn wsX10_bitsIn) := goodIn_app (goodIn_of _ (by decide +kernel)) ggX10_least_X10_bitsIn
theorem dX10_least_0 : decode cX10_least 0 = .ok (.iload_n 1, 1) := by decide +kernel
theorem dX10_least_1 : decode cX10_least 1 = .ok (.i2l, 1) := by decide +kernel
theorem dX10_least_2 : decode cX10_least 2 = .ok (.lconst 0, 1) := by decide +kernel
theorem dX10_least_3 : decode cX10_least 3 = .ok (.ldc2_w 249, 3) := by decide +kernel
theorem dX10_least_6 : decode cX10_least 6 = .ok (.invokestatic 117, 3) := by decide +kernel
theorem dX10_least_9 : decode cX10_least 9 = .ok (.ifCond .eq 13, 3) := by decide +kernel
theorem dX10_least_12 : decode cX10_least 12 = .ok (.iload_n 2, 1) := by decide +kernel
theorem dX10_least_13 : decode cX10_least 13 = .ok (.i2l, 1) := by decide +kernel
theorem dX10_least_14 : decode cX10_least 14 = .ok (.lconst 0, 1) := by decide +kernel
theorem dX10_least_15 : decode cX10_least 15 = .ok (.lconst 1, 1) := by decide +kernel
theorem dX10_least_16 : decode cX10_least 16 = .ok (.invokestatic 117, 3) := by decide +kernel
theorem dX10_least_19 : decode cX10_least 19 = .ok (.ifCond .ne 5, 3) := by decide +kernel
theorem dX10_least_22 : decode cX10_least 22 = .ok (.iconst (-1), 1) := by decide +kernel
theorem dX10_least_23 : decode cX10_least 23 = .ok (.ireturn, 1) := by decide +kernel
theorem dX10_least_24 : decode cX10_least 24 = .ok (.aload_n 0, 1) := by decide +kernel
theorem dX10_least_25 : decode cX10_least 25 = .ok (.iconst 4, 1) := by decide +kernel
theorem dX10_least_26 : decode cX10_least 26 = .ok (.invokevirtual 192, 3) := by decide +kernel
theorem dX10_least_29 : decode cX10_least 29 = .ok (.istore_n 3, 1) := by decide +kernel
theorem dX10_least_30 : decode cX10_least 30 = .ok (.bipush (-9), 2) := by decide +kernel
theorem dX10_least_32 : decode cX10_least 32 = .ok (.istore 4, 2) := by decide +kernel
theorem dX10_least_34 : decode cX10_least 34 = .ok (.iconst 0, 1) := by decide +kernel
theorem dX10_least_35 : decode cX10_least 35 = .ok (.istore 5, 2) := by decide +kernel
theorem dX10_least_37 : decode cX10_least 37 = .ok (.iconst 0, 1) := by decide +kernel
theorem dX10_least_38 : decode cX10_least 38 = .ok (.istore 6, 2) := by decide +kernel
theorem dX10_least_40 : decode cX10_least 40 = .ok (.iload 6, 2) := by decide +kernel
theorem dX10_least_42 : decode cX10_least 42 = .ok (.iconst 1, 1) := by decide +kernel
theorem dX10_least_43 : decode cX10_least 43 = .ok (.iload_n 3, 1) := by decide +kernel
theorem dX10_least_44 : decode cX10_least 44 = .ok (.ishl, 1) := by decide +kernel
theorem dX10_least_45 : decode cX10_least 45 = .ok (.if_icmp .ge 88, 3) := by decide +kernel
theorem dX10_least_48 : decode cX10_least 48 = .ok (.aload_n 0, 1) := by decide +kernel
theorem dX10_least_49 : decode cX10_least 49 = .ok (.iload 6, 2) := by decide +kernel
theorem dX10_least_51 : decode cX10_least 51 = .ok (.invokevirtual 184, 3) := by decide +kernel
theorem dX10_least_54 : decode cX10_least 54 = .ok (.iload 6, 2) := by decide +kernel
theorem dX10_least_56 : decode cX10_least 56 = .ok (.invokestatic 251, 3) := by decide +kernel
theorem dX10_least_59 : decode cX10_least 59 = .ok (.aload_n 0, 1) := by decide +kernel
theorem dX10_least_60 : decode cX10_least 60 = .ok (.getfield 82, 3) := by decide +kernel
theorem dX10_least_63 : decode cX10_least 63 = .ok (.iconst 2, 1) := by decide +kernel
theorem dX10_least_64 : decode cX10_least 64 = .ok (.iaload, 1) := by decide +kernel
theorem dX10_least_65 : decode cX10_least 65 = .ok (.imul, 1) := by decide +kernel
theorem dX10_least_66 : decode cX10_least 66 = .ok (.iload_n 3, 1) := by decide +kernel
theorem dX10_least_67 : decode cX10_least 67 = .ok (.iload 6, 2) := by decide +kernel
theorem dX10_least_69 : decode cX10_least 69 = .ok (.invokestatic 251, 3) := by decide +kernel
theorem dX10_least_72 : decode cX10_least 72 = .ok (.isub, 1) := by decide +kernel
theorem dX10_least_73 : decode cX10_least 73 = .ok (.aload_n 0, 1) := by decide +kernel
theorem dX10_least_74 : decode cX10_least 74 = .ok (.getfield 82, 3) := by decide +kernel
theorem dX10_least_77 : decode cX10_least 77 = .ok (.iconst 0, 1) := by decide +kernel
theorem dX10_least_78 : decode cX10_least 78 = .ok (.iaload, 1) := by decide +kernel
theorem dX10_least_79 : decode cX10_least 79 = .ok (.aload_n 0, 1) := by decide +kernel
theorem dX10_least_80 : decode cX10_least 80 = .ok (.getfield 82, 3) := by decide +kernel
theorem dX10_least_83 : decode cX10_least 83 = .ok (.iconst 1, 1) := by decide +kernel
theorem dX10_least_84 : decode cX10_least 84 = .ok (.iaload, 1) := by decide +kernel
theorem dX10_least_85 : decode cX10_least 85 = .ok (.iadd, 1) := by decide +kernel
theorem dX10_least_86 : decode cX10_least 86 = .ok (.imul, 1) := by decide +kernel
theorem dX10_least_87 : decode cX10_least 87 = .ok (.iadd, 1) := by decide +kernel
theorem dX10_least_88 : decode cX10_least 88 = .ok (.istore 7, 2) := by decide +kernel
theorem dX10_least_90 : decode cX10_least 90 = .ok (.aload_n 0, 1) := by decide +kernel
theorem dX10_least_91 : decode cX10_least 91 = .ok (.getfield 32, 3) := by decide +kernel
theorem dX10_least_94 : decode cX10_least 94 = .ok (.aload_n 0, 1) := by decide +kernel
theorem dX10_least_95 : decode cX10_least 95 = .ok (.getfield 112, 3) := by decide +kernel
theorem dX10_least_98 : decode cX10_least 98 = .ok (.iconst 1, 1) := by decide +kernel
theorem dX10_least_99 : decode cX10_least 99 = .ok (.isub, 1) := by decide +kernel
theorem dX10_least_100 : decode cX10_least 100 = .ok (.iaload, 1) := by decide +kernel
theorem dX10_least_101 : decode cX10_least 101 = .ok (.iload_n 1, 1) := by decide +kernel
theorem dX10_least_102 : decode cX10_least 102 = .ok (.if_icmp .gt 25, 3) := by decide +kernel
theorem dX10_least_105 : decode cX10_least 105 = .ok (.iload 4, 2) := by decide +kernel

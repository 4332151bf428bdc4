theorem dX4_sameEnds_9 : decode cX4_sameEnds 9 = .ok (.istore 4, 2) := by decide +kernel
theorem dX4_sameEnds_11 : decode cX4_sameEnds 11 = .ok (.iload 4, 2) := by decide +kernel
theorem dX4_sameEnds_13 : decode cX4_sameEnds 13 = .ok (.iconst 4, 1) := by decide +kernel
theorem dX4_sameEnds_14 : decode cX4_sameEnds 14 = .ok (.if_icmp .ge 25, 3) := by decide +kernel
theorem dX4_sameEnds_17 : decode cX4_sameEnds 17 = .ok (.aload_n 0, 1) := by decide +kernel
theorem dX4_sameEnds_18 : decode cX4_sameEnds 18 = .ok (.getfield 27, 3) := by decide +kernel
theorem dX4_sameEnds_21 : decode cX4_sameEnds 21 = .ok (.iload 4, 2) := by decide +kernel
theorem dX4_sameEnds_23 : decode cX4_sameEnds 23 = .ok (.aload_n 1, 1) := by decide +kernel
theorem dX4_sameEnds_24 : decode cX4_sameEnds 24 = .ok (.iconst 0, 1) := by decide +kernel
theorem dX4_sameEnds_25 : decode cX4_sameEnds 25 = .ok (.iload 4, 2) := by decide +kernel
theorem dX4_sameEnds_27 : decode cX4_sameEnds 27 = .ok (.invokevirtual 83, 3) := by decide +kernel
theorem dX4_sameEnds_30 : decode cX4_sameEnds 30 = .ok (.invokestatic 121, 3) := by decide +kernel
theorem dX4_sameEnds_33 : decode cX4_sameEnds 33 = .ok (.iinc 4 1, 3) := by decide +kernel
theorem dX4_sameEnds_36 : decode cX4_sameEnds 36 = .ok (.goto (-25), 3) := by decide +kernel
theorem dX4_sameEnds_39 : decode cX4_sameEnds 39 = .ok (.aload_n 0, 1) := by decide +kernel
theorem dX4_sameEnds_40 : decode cX4_sameEnds 40 = .ok (.aload_n 1, 1) := by decide +kernel
theorem dX4_sameEnds_41 : decode cX4_sameEnds 41 = .ok (.getfield 65, 3) := by decide +kernel
theorem dX4_sameEnds_44 : decode cX4_sameEnds 44 = .ok (.invokevirtual 136, 3) := by decide +kernel
theorem dX4_sameEnds_47 : decode cX4_sameEnds 47 = .ok (.istore 4, 2) := by decide +kernel
theorem dX4_sameEnds_49 : decode cX4_sameEnds 49 = .ok (.aload_n 0, 1) := by decide +kernel
theorem dX4_sameEnds_50 : decode cX4_sameEnds 50 = .ok (.aload_n 1, 1) := by decide +kernel
theorem dX4_sameEnds_51 : decode cX4_sameEnds 51 = .ok (.getfield 65, 3) := by decide +kernel
theorem dX4_sameEnds_54 : decode cX4_sameEnds 54 = .ok (.iload_n 2, 1) := by decide +kernel
theorem dX4_sameEnds_55 : decode cX4_sameEnds 55 = .ok (.invokevirtual 140, 3) := by decide +kernel
theorem dX4_sameEnds_58 : decode cX4_sameEnds 58 = .ok (.iconst 0, 1) := by decide +kernel
theorem dX4_sameEnds_59 : decode cX4_sameEnds 59 = .ok (.istore 5, 2) := by decide +kernel
theorem dX4_sameEnds_61 : decode cX4_sameEnds 61 = .ok (.iconst 0, 1) := by decide +kernel
theorem dX4_sameEnds_62 : decode cX4_sameEnds 62 = .ok (.istore 6, 2) := by decide +kernel
theorem dX4_sameEnds_64 : decode cX4_sameEnds 64 = .ok (.iload 6, 2) := by decide +kernel
theorem dX4_sameEnds_66 : decode cX4_sameEnds 66 = .ok (.iload_n 3, 1) := by decide +kernel
theorem dX4_sameEnds_67 : decode cX4_sameEnds 67 = .ok (.if_icmp .ge 34, 3) := by decide +kernel
theorem dX4_sameEnds_70 : decode cX4_sameEnds 70 = .ok (.aload_n 0, 1) := by decide +kernel
theorem dX4_sameEnds_71 : decode cX4_sameEnds 71 = .ok (.aload_n 1, 1) := by decide +kernel
theorem dX4_sameEnds_72 : decode cX4_sameEnds 72 = .ok (.getfield 65, 3) := by decide +kernel
theorem dX4_sameEnds_75 : decode cX4_sameEnds 75 = .ok (.invokevirtual 136, 3) := by decide +kernel
theorem dX4_sameEnds_78 : decode cX4_sameEnds 78 = .ok (.iload 4, 2) := by decide +kernel
theorem dX4_sameEnds_80 : decode cX4_sameEnds 80 = .ok (.if_icmp .ne 6, 3) := by decide +kernel
theorem dX4_sameEnds_83 : decode cX4_sameEnds 83 = .ok (.iinc 5 1, 3) := by decide +kernel
theorem dX4_sameEnds_86 : decode cX4_sameEnds 86 = .ok (.aload_n 0, 1) := by decide +kernel
theorem dX4_sameEnds_87 : decode cX4_sameEnds 87 = .ok (.aload_n 1, 1) := by decide +kernel
theorem dX4_sameEnds_88 : decode cX4_sameEnds 88 = .ok (.getfield 65, 3) := by decide +kernel
theorem dX4_sameEnds_91 : decode cX4_sameEnds 91 = .ok (.iload_n 2, 1) := by decide +kernel
theorem dX4_sameEnds_92 : decode cX4_sameEnds 92 = .ok (.invokevirtual 144, 3) := by decide +kernel
theorem dX4_sameEnds_95 : decode cX4_sameEnds 95 = .ok (.iinc 6 1, 3) := by decide +kernel
theorem dX4_sameEnds_98 : decode cX4_sameEnds 98 = .ok (.goto (-34), 3) := by decide +kernel
theorem dX4_sameEnds_101 : decode cX4_sameEnds 101 = .ok (.iload 5, 2) := by decide +kernel
theorem dX4_sameEnds_103 : decode cX4_sameEnds 103 = .ok (.ireturn, 1) := by decide +kernel
set_option maxRecDepth 20000 in
theorem ggX4_plainEnd_X2_cell : GoodIn wsX4_plainEnd wsX2_cell := goodIn_r _ [8, 9, 10, 11, 12, 17, 18, 19, 20, 21, 22] rfl (by decide +kernel)
set_option maxRecDepth 20000 in
theorem gX4_plainEnd_X2_cell : GoodIn wsX4_plainEnd (wsV RX4 147 RX2 yX2_cell wsX2_cell) := goodIn_app (goodIn_of _ (by decide +kernel)) ggX4_plainEnd_X2_cell
set_option maxRecDepth 20000 in
theorem ggX4_plainEnd_X9_at : GoodIn wsX4_plainEnd wsX9_at := goodIn_r _ [12] rfl (by decide +kernel)
set_option maxRecDepth 20000 in
theorem gX4_plainEnd_X9_at_n114 : GoodIn wsX4_plainEnd (wsX9_at) := ggX4_plainEnd_X9_at
set_option maxRecDepth 20000 in
theorem ggX4_plainEnd_X9_mod : GoodIn wsX4_plainEnd wsX9_mod := goodIn_r _ [14] rfl (by decide +kernel)
set_option maxRecDepth 20000 in
theorem gX4_plainEnd_X9_mod_n118 : GoodIn wsX4_plainEnd (wsX9_mod) := ggX4_plainEnd_X9_mod
set_option maxRecDepth 20000 in
theorem ggX4_plainEnd_X9_put : GoodIn wsX4_plainEnd wsX9_put := goodIn_r _ [16] rfl (by decide +kernel)
set_option maxRecDepth 20000 in
theorem gX4_plainEnd_X9_put_n121 : GoodIn wsX4_plainEnd (wsX9_put) := ggX4_plainEnd_X9_put
theorem dX4_plainEnd_0 : decode cX4_plainEnd 0 = .ok (.iconst 0, 1) := by decide +kernel
theorem dX4_plainEnd_1 : decode cX4_plainEnd 1 = .ok (.istore_n 2, 1) := by decide +kernel
theorem dX4_plainEnd_2 : decode cX4_plainEnd 2 = .ok (.iconst 0, 1) := by decide +kernel
theorem dX4_plainEnd_3 : decode cX4_plainEnd 3 = .ok (.istore_n 3, 1) := by decide +kernel
theorem dX4_plainEnd_4 : decode cX4_plainEnd 4 = .ok (.iload_n 3, 1) := by decide +kernel
theorem dX4_plainEnd_5 : decode cX4_plainEnd 5 = .ok (.aload_n 1, 1) := by decide +kernel
theorem dX4_plainEnd_6 : decode cX4_plainEnd 6 = .ok (.getfield 74, 3) := by decide +kernel
theorem dX4_plainEnd_9 : decode cX4_plainEnd 9 = .ok (.if_icmp .ge 174, 3) := by decide +kernel
theorem dX4_plainEnd_12 : decode cX4_plainEnd 12 = .ok (.aload_n 0, 1) := by decide +kernel
theorem dX4_plainEnd_13 : decode cX4_plainEnd 13 = .ok (.getfield 30, 3) := by decide +kernel
theorem dX4_plainEnd_16 : decode cX4_plainEnd 16 = .ok (.aload_n 1, 1) := by decide +kernel
theorem dX4_plainEnd_17 : decode cX4_plainEnd 17 = .ok (.iload_n 3, 1) := by decide +kernel
theorem dX4_plainEnd_18 : decode cX4_plainEnd 18 = .ok (.iconst 2, 1) := by decide +kernel
theorem dX4_plainEnd_19 : decode cX4_plainEnd 19 = .ok (.invokevirtual 147, 3) := by decide +kernel
theorem dX4_plainEnd_22 : decode cX4_plainEnd 22 = .ok (.invokestatic 114, 3) := by decide +kernel
theorem dX4_plainEnd_25 : decode cX4_plainEnd 25 = .ok (.istore 4, 2) := by decide +kernel
theorem dX4_plainEnd_27 : decode cX4_plainEnd 27 = .ok (.aload_n 0, 1) := by decide +kernel
theorem dX4_plainEnd_28 : decode cX4_plainEnd 28 = .ok (.getfield 30, 3) := by decide +kernel
theorem dX4_plainEnd_31 : decode cX4_plainEnd 31 = .ok (.aload_n 1, 1) := by decide +kernel
theorem dX4_plainEnd_32 : decode cX4_plainEnd 32 = .ok (.iload_n 3, 1) := by decide +kernel
theorem dX4_plainEnd_33 : decode cX4_plainEnd 33 = .ok (.iconst 3, 1) := by decide +kernel
theorem dX4_plainEnd_34 : decode cX4_plainEnd 34 = .ok (.invokevirtual 147, 3) := by decide +kernel
theorem dX4_plainEnd_37 : decode cX4_plainEnd 37 = .ok (.invokestatic 114, 3) := by decide +kernel
theorem dX4_plainEnd_40 : decode cX4_plainEnd 40 = .ok (.istore 5, 2) := by decide +kernel
theorem dX4_plainEnd_42 : decode cX4_plainEnd 42 = .ok (.iconst 0, 1) := by decide +kernel
theorem dX4_plainEnd_43 : decode cX4_plainEnd 43 = .ok (.istore 6, 2) := by decide +kernel
theorem dX4_plainEnd_45 : decode cX4_plainEnd 45 = .ok (.aload_n 1, 1) := by decide +kernel
theorem dX4_plainEnd_46 : decode cX4_plainEnd 46 = .ok (.iload_n 3, 1) := by decide +kernel
theorem dX4_plainEnd_47 : decode cX4_plainEnd 47 = .ok (.iconst 0, 1) := by decide +kernel
theorem dX4_plainEnd_48 : decode cX4_plainEnd 48 = .ok (.invokevirtual 147, 3) := by decide +kernel
theorem dX4_plainEnd_51 : decode cX4_plainEnd 51 = .ok (.tableswitch 90 0 4 #[33, 49, 60, 70, 80], 33) := by decide +kernel
theorem dX4_plainEnd_84 : decode cX4_plainEnd 84 = .ok (.aload_n 0, 1) := by decide +kernel
theorem dX4_plainEnd_85 : decode cX4_plainEnd 85 = .ok (.getfield 27, 3) := by decide +kernel
theorem dX4_plainEnd_88 : decode cX4_plainEnd 88 = .ok (.iload_n 2, 1) := by decide +kernel
theorem dX4_plainEnd_89 : decode cX4_plainEnd 89 = .ok (.invokestatic 114, 3) := by decide +kernel
theorem dX4_plainEnd_92 : decode cX4_plainEnd 92 = .ok (.istore 6, 2) := by decide +kernel
theorem dX4_plainEnd_94 : decode cX4_plainEnd 94 = .ok (.iinc 2 1, 3) := by decide +kernel
theorem dX4_plainEnd_97 : decode cX4_plainEnd 97 = .ok (.goto 58, 3) := by decide +kernel
theorem dX4_plainEnd_100 : decode cX4_plainEnd 100 = .ok (.aload_n 1, 1) := by decide +kernel
theorem dX4_plainEnd_101 : decode cX4_plainEnd 101 = .ok (.iload_n 3, 1) := by decide +kernel
theorem dX4_plainEnd_102 : decode cX4_plainEnd 102 = .ok (.iconst 4, 1) := by decide +kernel
theorem dX4_plainEnd_103 : decode cX4_plainEnd 103 = .ok (.invokevirtual 147, 3) := by decide +kernel
theorem dX4_plainEnd_106 : decode cX4_plainEnd 106 = .ok (.istore 6, 2) := by decide +kernel
theorem dX4_plainEnd_108 : decode cX4_plainEnd 108 = .ok (.goto 47, 3) := by decide +kernel
theorem dX4_plainEnd_111 : decode cX4_plainEnd 111 = .ok (.iload 4, 2) := by decide +kernel
theorem dX4_plainEnd_113 : decode cX4_plainEnd 113 = .ok (.iload 5, 2) := by decide +kernel
theorem dX4_plainEnd_115 : decode cX4_plainEnd 115 = .ok (.iadd, 1) := by decide +kernel
theorem dX4_plainEnd_116 : decode cX4_plainEnd 116 = .ok (.istore 6, 2) := by decide +kernel
theorem dX4_plainEnd_118 : decode cX4_plainEnd 118 = .ok (.goto 37, 3) := by decide +kernel
theorem dX4_plainEnd_121 : decode cX4_plainEnd 121 = .ok (.iload 4, 2) := by decide +kernel
theorem dX4_plainEnd_123 : decode cX4_plainEnd 123 = .ok (.iload 5, 2) := by decide +kernel
theorem dX4_plainEnd_125 : decode cX4_plainEnd 125 = .ok (.isub, 1) := by decide +kernel
theorem dX4_plainEnd_126 : decode cX4_plainEnd 126 = .ok (.istore 6, 2) := by decide +kernel
theorem dX4_plainEnd_128 : decode cX4_plainEnd 128 = .ok (.goto 27, 3) := by decide +kernel
theorem dX4_plainEnd_131 : decode cX4_plainEnd 131 = .ok (.iload 4, 2) := by decide +kernel
theorem dX4_plainEnd_133 : decode cX4_plainEnd 133 = .ok (.iload 5, 2) := by decide +kernel
theorem dX4_plainEnd_135 : decode cX4_plainEnd 135 = .ok (.imul, 1) := by decide +kernel
theorem dX4_plainEnd_136 : decode cX4_plainEnd 136 = .ok (.istore 6, 2) := by decide +kernel
theorem dX4_plainEnd_138 : decode cX4_plainEnd 138 = .ok (.goto 17, 3) := by decide +kernel
theorem dX4_plainEnd_141 : decode cX4_plainEnd 141 = .ok (.aload_n 0, 1) := by decide +kernel
theorem dX4_plainEnd_142 : decode cX4_plainEnd 142 = .ok (.getfield 30, 3) := by decide +kernel
theorem dX4_plainEnd_145 : decode cX4_plainEnd 145 = .ok (.aload_n 1, 1) := by decide +kernel
theorem dX4_plainEnd_146 : decode cX4_plainEnd 146 = .ok (.iload_n 3, 1) := by decide +kernel
theorem dX4_plainEnd_147 : decode cX4_plainEnd 147 = .ok (.iconst 1, 1) := by decide +kernel
theorem dX4_plainEnd_148 : decode cX4_plainEnd 148 = .ok (.invokevirtual 147, 3) := by decide +kernel
theorem dX4_plainEnd_151 : decode cX4_plainEnd 151 = .ok (.invokestatic 114, 3) := by decide +kernel
theorem dX4_plainEnd_154 : decode cX4_plainEnd 154 = .ok (.ireturn, 1) := by decide +kernel
theorem dX4_plainEnd_155 : decode cX4_plainEnd 155 = .ok (.aload_n 0, 1) := by decide +kernel
theorem dX4_plainEnd_156 : decode cX4_plainEnd 156 = .ok (.getfield 30, 3) := by decide +kernel
theorem dX4_plainEnd_159 : decode cX4_plainEnd 159 = .ok (.aload_n 1, 1) := by decide +kernel
theorem dX4_plainEnd_160 : decode cX4_plainEnd 160 = .ok (.iload_n 3, 1) := by decide +kernel
theorem dX4_plainEnd_161 : decode cX4_plainEnd 161 = .ok (.iconst 1, 1) := by decide +kernel
theorem dX4_plainEnd_162 : decode cX4_plainEnd 162 = .ok (.invokevirtual 147, 3) := by decide +kernel
theorem dX4_plainEnd_165 : decode cX4_plainEnd 165 = .ok (.iload 6, 2) := by decide +kernel
theorem dX4_plainEnd_167 : decode cX4_plainEnd 167 = .ok (.aload_n 0, 1) := by decide +kernel
theorem dX4_plainEnd_168 : decode cX4_plainEnd 168 = .ok (.getfield 52, 3) := by decide +kernel
theorem dX4_plainEnd_171 : decode cX4_plainEnd 171 = .ok (.invokestatic 118, 3) := by decide +kernel
theorem dX4_plainEnd_174 : decode cX4_plainEnd 174 = .ok (.invokestatic 121, 3) := by decide +kernel
theorem dX4_plainEnd_177 : decode cX4_plainEnd 177 = .ok (.iinc 3 1, 3) := by decide +kernel
theorem dX4_plainEnd_180 : decode cX4_plainEnd 180 = .ok (.goto (-176), 3) := by decide +kernel
theorem dX4_plainEnd_183 : decode cX4_plainEnd 183 = .ok (.iconst 0, 1) := by decide +kernel
theorem dX4_plainEnd_184 : decode cX4_plainEnd 184 = .ok (.ireturn, 1) := by decide +kernel
set_option maxRecDepth 20000 in
theorem ggX4_clearOthers_X2_cell : GoodIn wsX4_clearOthers wsX2_cell := goodIn_r _ [6, 7, 8, 9, 10, 13, 14, 15, 16, 17, 18] rfl (by decide +kernel)
set_option maxRecDepth 20000 in
theorem gX4_clearOthers_X2_cell : GoodIn wsX4_clearOthers (wsV RX4 147 RX2 yX2_cell wsX2_cell) := goodIn_app (goodIn_of _ (by decide +kernel)) ggX4_clearOthers_X2_cell
set_option maxRecDepth 20000 in
theorem ggX4_clearOthers_X9_put : GoodIn wsX4_clearOthers wsX9_put := goodIn_r _ [12] rfl (by decide +kernel)
set_option maxRecDepth 20000 in
theorem gX4_clearOthers_X9_put_n121 : GoodIn wsX4_clearOthers (wsX9_put) := ggX4_clearOthers_X9_put
theorem dX4_clearOthers_0 : decode cX4_clearOthers 0 = .ok (.iconst 0, 1) := by decide +kernel
theorem dX4_clearOthers_1 : decode cX4_clearOthers 1 = .ok (.istore_n 3, 1) := by decide +kernel
theorem dX4_clearOthers_2 : decode cX4_clearOthers 2 = .ok (.iconst 0, 1) := by decide +kernel
theorem dX4_clearOthers_3 : decode cX4_clearOthers 3 = .ok (.istore 4, 2) := by decide +kernel
theorem dX4_clearOthers_5 : decode cX4_clearOthers 5 = .ok (.iload 4, 2) := by decide +kernel
theorem dX4_clearOthers_7 : decode cX4_clearOthers 7 = .ok (.aload_n 1, 1) := by decide +kernel
theorem dX4_clearOthers_8 : decode cX4_clearOthers 8 = .ok (.getfield 74, 3) := by decide +kernel
theorem dX4_clearOthers_11 : decode cX4_clearOthers 11 = .ok (.if_icmp .ge 45, 3) := by decide +kernel
theorem dX4_clearOthers_14 : decode cX4_clearOthers 14 = .ok (.aload_n 1, 1) := by decide +kernel
theorem dX4_clearOthers_15 : decode cX4_clearOthers 15 = .ok (.iload 4, 2) := by decide +kernel
theorem dX4_clearOthers_17 : decode cX4_clearOthers 17 = .ok (.iconst 0, 1) := by decide +kernel
theorem dX4_clearOthers_18 : decode cX4_clearOthers 18 = .ok (.invokevirtual 147, 3) := by decide +kernel
theorem dX4_clearOthers_21 : decode cX4_clearOthers 21 = .ok (.ifCond .eq 6, 3) := by decide +kernel
theorem dX4_clearOthers_24 : decode cX4_clearOthers 24 = .ok (.goto 26, 3) := by decide +kernel
theorem dX4_clearOthers_27 : decode cX4_clearOthers 27 = .ok (.aload_n 1, 1) := by decide +kernel
theorem dX4_clearOthers_28 : decode cX4_clearOthers 28 = .ok (.iload 4, 2) := by decide +kernel
theorem dX4_clearOthers_30 : decode cX4_clearOthers 30 = .ok (.iconst 4, 1) := by decide +kernel
theorem dX4_clearOthers_31 : decode cX4_clearOthers 31 = .ok (.invokevirtual 147, 3) := by decide +kernel
theorem dX4_clearOthers_34 : decode cX4_clearOthers 34 = .ok (.iload_n 2, 1) := by decide +kernel
theorem dX4_clearOthers_35 : decode cX4_clearOthers 35 = .ok (.if_icmp .eq 12, 3) := by decide +kernel
theorem dX4_clearOthers_38 : decode cX4_clearOthers 38 = .ok (.aload_n 0, 1) := by decide +kernel
theorem dX4_clearOthers_39 : decode cX4_clearOthers 39 = .ok (.getfield 27, 3) := by decide +kernel
theorem dX4_clearOthers_42 : decode cX4_clearOthers 42 = .ok (.iload_n 3, 1) := by decide +kernel
theorem dX4_clearOthers_43 : decode cX4_clearOthers 43 = .ok (.iconst 0, 1) := by decide +kernel
theorem dX4_clearOthers_44 : decode cX4_clearOthers 44 = .ok (.invokestatic 121, 3) := by decide +kernel
theorem dX4_clearOthers_47 : decode cX4_clearOthers 47 = .ok (.iinc 3 1, 3) := by decide +kernel
theorem dX4_clearOthers_50 : decode cX4_clearOthers 50 = .ok (.iinc 4 1, 3) := by decide +kernel
theorem dX4_clearOthers_53 : decode cX4_clearOthers 53 = .ok (.goto (-48), 3) := by decide +kernel
theorem dX4_clearOthers_56 : decode cX4_clearOthers 56 = .ok (.return_, 1) := by decide +kernel
set_option maxRecDepth 20000 in
theorem ggX4_turnOthers_X2_cell : GoodIn wsX4_turnOthers wsX2_cell := goodIn_r _ [7, 8, 9, 10, 11, 16, 17, 18, 19, 20, 21] rfl (by decide +kernel)
set_option maxRecDepth 20000 in
theorem gX4_turnOthers_X2_cell : GoodIn wsX4_turnOthers (wsV RX4 147 RX2 yX2_cell wsX2_cell) := goodIn_app (goodIn_of _ (by decide +kernel)) ggX4_turnOthers_X2_cell
set_option maxRecDepth 20000 in
theorem ggX4_turnOthers_X9_at : GoodIn wsX4_turnOthers wsX9_at := goodIn_r _ [11] rfl (by decide +kernel)
set_option maxRecDepth 20000 in
theorem gX4_turnOthers_X9_at_n114 : GoodIn wsX4_turnOthers (wsX9_at) := ggX4_turnOthers_X9_at
set_option maxRecDepth 20000 in
theorem ggX4_turnOthers_X9_mod : GoodIn wsX4_turnOthers wsX9_mod := goodIn_r _ [13] rfl (by decide +kernel)
set_option maxRecDepth 20000 in
theorem gX4_turnOthers_X9_mod_n118 : GoodIn wsX4_turnOthers (wsX9_mod) := ggX4_turnOthers_X9_mod
set_option maxRecDepth 20000 in
theorem ggX4_turnOthers_X9_put : GoodIn wsX4_turnOthers wsX9_put := goodIn_r _ [15] rfl (by decide +kernel)
set_option maxRecDepth 20000 in
theorem gX4_turnOthers_X9_put_n121 : GoodIn wsX4_turnOthers (wsX9_put) := ggX4_turnOthers_X9_put
theorem dX4_turnOthers_0 : decode cX4_turnOthers 0 = .ok (.iconst 0, 1) := by decide +kernel
theorem dX4_turnOthers_1 : decode cX4_turnOthers 1 = .ok (.istore_n 3, 1) := by decide +kernel
theorem dX4_turnOthers_2 : decode cX4_turnOthers 2 = .ok (.iconst 0, 1) := by decide +kernel
theorem dX4_turnOthers_3 : decode cX4_turnOthers 3 = .ok (.istore 4, 2) := by decide +kernel
theorem dX4_turnOthers_5 : decode cX4_turnOthers 5 = .ok (.iload 4, 2) := by decide +kernel
theorem dX4_turnOthers_7 : decode cX4_turnOthers 7 = .ok (.aload_n 1, 1) := by decide +kernel
theorem dX4_turnOthers_8 : decode cX4_turnOthers 8 = .ok (.getfield 74, 3) := by decide +kernel
theorem dX4_turnOthers_11 : decode cX4_turnOthers 11 = .ok (.if_icmp .ge 71, 3) := by decide +kernel
theorem dX4_turnOthers_14 : decode cX4_turnOthers 14 = .ok (.aload_n 1, 1) := by decide +kernel
theorem dX4_turnOthers_15 : decode cX4_turnOthers 15 = .ok (.iload 4, 2) := by decide +kernel
theorem dX4_turnOthers_17 : decode cX4_turnOthers 17 = .ok (.iconst 0, 1) := by decide +kernel
theorem dX4_turnOthers_18 : decode cX4_turnOthers 18 = .ok (.invokevirtual 147, 3) := by decide +kernel
theorem dX4_turnOthers_21 : decode cX4_turnOthers 21 = .ok (.ifCond .eq 6, 3) := by decide +kernel
theorem dX4_turnOthers_24 : decode cX4_turnOthers 24 = .ok (.goto 52, 3) := by decide +kernel
theorem dX4_turnOthers_27 : decode cX4_turnOthers 27 = .ok (.aload_n 1, 1) := by decide +kernel
theorem dX4_turnOthers_28 : decode cX4_turnOthers 28 = .ok (.iload 4, 2) := by decide +kernel
theorem dX4_turnOthers_30 : decode cX4_turnOthers 30 = .ok (.iconst 4, 1) := by decide +kernel
theorem dX4_turnOthers_31 : decode cX4_turnOthers 31 = .ok (.invokevirtual 147, 3) := by decide +kernel
theorem dX4_turnOthers_34 : decode cX4_turnOthers 34 = .ok (.iload_n 2, 1) := by decide +kernel
theorem dX4_turnOthers_35 : decode cX4_turnOthers 35 = .ok (.if_icmp .eq 38, 3) := by decide +kernel
theorem dX4_turnOthers_38 : decode cX4_turnOthers 38 = .ok (.aload_n 0, 1) := by decide +kernel
theorem dX4_turnOthers_39 : decode cX4_turnOthers 39 = .ok (.getfield 27, 3) := by decide +kernel
theorem dX4_turnOthers_42 : decode cX4_turnOthers 42 = .ok (.iload_n 3, 1) := by decide +kernel
theorem dX4_turnOthers_43 : decode cX4_turnOthers 43 = .ok (.invokestatic 114, 3) := by decide +kernel
theorem dX4_turnOthers_46 : decode cX4_turnOthers 46 = .ok (.iconst 1, 1) := by decide +kernel
theorem dX4_turnOthers_47 : decode cX4_turnOthers 47 = .ok (.iadd, 1) := by decide +kernel
theorem dX4_turnOthers_48 : decode cX4_turnOthers 48 = .ok (.aload_n 0, 1) := by decide +kernel
theorem dX4_turnOthers_49 : decode cX4_turnOthers 49 = .ok (.getfield 52, 3) := by decide +kernel
theorem dX4_turnOthers_52 : decode cX4_turnOthers 52 = .ok (.invokestatic 118, 3) := by decide +kernel
theorem dX4_turnOthers_55 : decode cX4_turnOthers 55 = .ok (.istore 5, 2) := by decide +kernel
theorem dX4_turnOthers_57 : decode cX4_turnOthers 57 = .ok (.aload_n 0, 1) := by decide +kernel
theorem dX4_turnOthers_58 : decode cX4_turnOthers 58 = .ok (.getfield 27, 3) := by decide +kernel
theorem dX4_turnOthers_61 : decode cX4_turnOthers 61 = .ok (.iload_n 3, 1) := by decide +kernel
theorem dX4_turnOthers_62 : decode cX4_turnOthers 62 = .ok (.iload 5, 2) := by decide +kernel
theorem dX4_turnOthers_64 : decode cX4_turnOthers 64 = .ok (.invokestatic 121, 3) := by decide +kernel
theorem dX4_turnOthers_67 : decode cX4_turnOthers 67 = .ok (.iload 5, 2) := by decide +kernel
theorem dX4_turnOthers_69 : decode cX4_turnOthers 69 = .ok (.ifCond .eq 4, 3) := by decide +kernel
theorem dX4_turnOthers_72 : decode cX4_turnOthers 72 = .ok (.return_, 1) := by decide +kernel
theorem dX4_turnOthers_73 : decode cX4_turnOthers 73 = .ok (.iinc 3 1, 3) := by decide +kernel
theorem dX4_turnOthers_76 : decode cX4_turnOthers 76 = .ok (.iinc 4 1, 3) := by decide +kernel
theorem dX4_turnOthers_79 : decode cX4_turnOthers 79 = .ok (.goto (-74), 3) := by decide +kernel
theorem dX4_turnOthers_82 : decode cX4_turnOthers 82 = .ok (.return_, 1) := by decide +kernel

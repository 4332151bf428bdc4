theorem dX10_least_107 : decode cX10_least 107 = .ok (.bipush (-9), 2) := by decide +kernel
theorem dX10_least_109 : decode cX10_least 109 = .ok (.if_icmp .eq 10, 3) := by decide +kernel
theorem dX10_least_112 : decode cX10_least 112 = .ok (.iload 7, 2) := by decide +kernel
theorem dX10_least_114 : decode cX10_least 114 = .ok (.iload 5, 2) := by decide +kernel
theorem dX10_least_116 : decode cX10_least 116 = .ok (.if_icmp .ge 11, 3) := by decide +kernel
theorem dX10_least_119 : decode cX10_least 119 = .ok (.iload 6, 2) := by decide +kernel
theorem dX10_least_121 : decode cX10_least 121 = .ok (.istore 4, 2) := by decide +kernel
theorem dX10_least_123 : decode cX10_least 123 = .ok (.iload 7, 2) := by decide +kernel
theorem dX10_least_125 : decode cX10_least 125 = .ok (.istore 5, 2) := by decide +kernel
theorem dX10_least_127 : decode cX10_least 127 = .ok (.iinc 6 1, 3) := by decide +kernel
theorem dX10_least_130 : decode cX10_least 130 = .ok (.goto (-90), 3) := by decide +kernel
theorem dX10_least_133 : decode cX10_least 133 = .ok (.iload 4, 2) := by decide +kernel
theorem dX10_least_135 : decode cX10_least 135 = .ok (.bipush (-9), 2) := by decide +kernel
theorem dX10_least_137 : decode cX10_least 137 = .ok (.if_icmp .eq 8, 3) := by decide +kernel
theorem dX10_least_140 : decode cX10_least 140 = .ok (.iload_n 2, 1) := by decide +kernel
theorem dX10_least_141 : decode cX10_least 141 = .ok (.iconst 1, 1) := by decide +kernel
theorem dX10_least_142 : decode cX10_least 142 = .ok (.if_icmp .ne 8, 3) := by decide +kernel
theorem dX10_least_145 : decode cX10_least 145 = .ok (.iload 4, 2) := by decide +kernel
theorem dX10_least_147 : decode cX10_least 147 = .ok (.goto 5, 3) := by decide +kernel
theorem dX10_least_150 : decode cX10_least 150 = .ok (.iload 5, 2) := by decide +kernel
theorem dX10_least_152 : decode cX10_least 152 = .ok (.ireturn, 1) := by decide +kernel
theorem dX10_isPrime_0 : decode cX10_isPrime 0 = .ok (.iload_n 0, 1) := by decide +kernel
theorem dX10_isPrime_1 : decode cX10_isPrime 1 = .ok (.iconst 5, 1) := by decide +kernel
theorem dX10_isPrime_2 : decode cX10_isPrime 2 = .ok (.if_icmp .eq 21, 3) := by decide +kernel
theorem dX10_isPrime_5 : decode cX10_isPrime 5 = .ok (.iload_n 0, 1) := by decide +kernel
theorem dX10_isPrime_6 : decode cX10_isPrime 6 = .ok (.bipush 7, 2) := by decide +kernel
theorem dX10_isPrime_8 : decode cX10_isPrime 8 = .ok (.if_icmp .eq 15, 3) := by decide +kernel
theorem dX10_isPrime_11 : decode cX10_isPrime 11 = .ok (.iload_n 0, 1) := by decide +kernel
theorem dX10_isPrime_12 : decode cX10_isPrime 12 = .ok (.bipush 11, 2) := by decide +kernel
theorem dX10_isPrime_14 : decode cX10_isPrime 14 = .ok (.if_icmp .eq 9, 3) := by decide +kernel
theorem dX10_isPrime_17 : decode cX10_isPrime 17 = .ok (.iload_n 0, 1) := by decide +kernel
theorem dX10_isPrime_18 : decode cX10_isPrime 18 = .ok (.bipush 13, 2) := by decide +kernel
theorem dX10_isPrime_20 : decode cX10_isPrime 20 = .ok (.if_icmp .ne 7, 3) := by decide +kernel
theorem dX10_isPrime_23 : decode cX10_isPrime 23 = .ok (.iconst 1, 1) := by decide +kernel
theorem dX10_isPrime_24 : decode cX10_isPrime 24 = .ok (.goto 4, 3) := by decide +kernel
theorem dX10_isPrime_27 : decode cX10_isPrime 27 = .ok (.iconst 0, 1) := by decide +kernel
theorem dX10_isPrime_28 : decode cX10_isPrime 28 = .ok (.ireturn, 1) := by decide +kernel
set_option maxRecDepth 20000 in
theorem ggX10_field_X10_isPrime : GoodIn wsX10_field wsX10_isPrime := goodIn_r _ [14] rfl (by decide +kernel)
set_option maxRecDepth 20000 in
theorem gX10_field_X10_isPrime : GoodIn wsX10_field (va_wsS RX10 254 yX10_isPrime wsX10_isPrime) := goodIn_app (goodIn_of _ (by decide +kernel)) ggX10_field_X10_isPrime
set_option maxRecDepth 20000 in
theorem ggX10_field_X10_in : GoodIn wsX10_field wsX10_in := goodIn_r _ [17] rfl (by decide +kernel)
set_option maxRecDepth 20000 in
theorem gX10_field_X10_in : GoodIn wsX10_field (va_wsS RX10 117 yX10_in wsX10_in) := goodIn_app (goodIn_of _ (by decide +kernel)) ggX10_field_X10_in
theorem dX10_field_0 : decode cX10_field 0 = .ok (.iload_n 1, 1) := by decide +kernel
theorem dX10_field_1 : decode cX10_field 1 = .ok (.ifCond .ne 26, 3) := by decide +kernel
theorem dX10_field_4 : decode cX10_field 4 = .ok (.iload_n 2, 1) := by decide +kernel
theorem dX10_field_5 : decode cX10_field 5 = .ok (.invokestatic 254, 3) := by decide +kernel
theorem dX10_field_8 : decode cX10_field 8 = .ok (.ifCond .eq 15, 3) := by decide +kernel
theorem dX10_field_11 : decode cX10_field 11 = .ok (.aload_n 0, 1) := by decide +kernel
theorem dX10_field_12 : decode cX10_field 12 = .ok (.getfield 91, 3) := by decide +kernel
theorem dX10_field_15 : decode cX10_field 15 = .ok (.iload_n 2, 1) := by decide +kernel
theorem dX10_field_16 : decode cX10_field 16 = .ok (.if_icmp .ge 7, 3) := by decide +kernel
theorem dX10_field_19 : decode cX10_field 19 = .ok (.iconst 1, 1) := by decide +kernel
theorem dX10_field_20 : decode cX10_field 20 = .ok (.goto 56, 3) := by decide +kernel
theorem dX10_field_23 : decode cX10_field 23 = .ok (.iconst 0, 1) := by decide +kernel
theorem dX10_field_24 : decode cX10_field 24 = .ok (.goto 52, 3) := by decide +kernel
theorem dX10_field_27 : decode cX10_field 27 = .ok (.iload_n 1, 1) := by decide +kernel
theorem dX10_field_28 : decode cX10_field 28 = .ok (.iconst 1, 1) := by decide +kernel
theorem dX10_field_29 : decode cX10_field 29 = .ok (.if_icmp .ne 15, 3) := by decide +kernel
theorem dX10_field_32 : decode cX10_field 32 = .ok (.iload_n 2, 1) := by decide +kernel
theorem dX10_field_33 : decode cX10_field 33 = .ok (.i2l, 1) := by decide +kernel
theorem dX10_field_34 : decode cX10_field 34 = .ok (.lconst 0, 1) := by decide +kernel
theorem dX10_field_35 : decode cX10_field 35 = .ok (.ldc2_w 188, 3) := by decide +kernel
theorem dX10_field_38 : decode cX10_field 38 = .ok (.invokestatic 117, 3) := by decide +kernel
theorem dX10_field_41 : decode cX10_field 41 = .ok (.goto 35, 3) := by decide +kernel
theorem dX10_field_44 : decode cX10_field 44 = .ok (.iload_n 1, 1) := by decide +kernel
theorem dX10_field_45 : decode cX10_field 45 = .ok (.iconst 2, 1) := by decide +kernel
theorem dX10_field_46 : decode cX10_field 46 = .ok (.if_icmp .ne 29, 3) := by decide +kernel
theorem dX10_field_49 : decode cX10_field 49 = .ok (.iload_n 2, 1) := by decide +kernel
theorem dX10_field_50 : decode cX10_field 50 = .ok (.i2l, 1) := by decide +kernel
theorem dX10_field_51 : decode cX10_field 51 = .ok (.ldc2_w 257, 3) := by decide +kernel
theorem dX10_field_54 : decode cX10_field 54 = .ok (.ldc2_w 259, 3) := by decide +kernel
theorem dX10_field_57 : decode cX10_field 57 = .ok (.invokestatic 117, 3) := by decide +kernel
theorem dX10_field_60 : decode cX10_field 60 = .ok (.ifCond .eq 15, 3) := by decide +kernel
theorem dX10_field_63 : decode cX10_field 63 = .ok (.iload_n 2, 1) := by decide +kernel
theorem dX10_field_64 : decode cX10_field 64 = .ok (.aload_n 0, 1) := by decide +kernel
theorem dX10_field_65 : decode cX10_field 65 = .ok (.getfield 85, 3) := by decide +kernel
theorem dX10_field_68 : decode cX10_field 68 = .ok (.if_icmp .ge 7, 3) := by decide +kernel
theorem dX10_field_71 : decode cX10_field 71 = .ok (.iconst 1, 1) := by decide +kernel
theorem dX10_field_72 : decode cX10_field 72 = .ok (.goto 4, 3) := by decide +kernel
theorem dX10_field_75 : decode cX10_field 75 = .ok (.iconst 0, 1) := by decide +kernel
theorem dX10_field_76 : decode cX10_field 76 = .ok (.istore_n 3, 1) := by decide +kernel
theorem dX10_field_77 : decode cX10_field 77 = .ok (.iload_n 3, 1) := by decide +kernel
theorem dX10_field_78 : decode cX10_field 78 = .ok (.ifCond .ne 5, 3) := by decide +kernel
theorem dX10_field_81 : decode cX10_field 81 = .ok (.iconst (-1), 1) := by decide +kernel
theorem dX10_field_82 : decode cX10_field 82 = .ok (.ireturn, 1) := by decide +kernel
theorem dX10_field_83 : decode cX10_field 83 = .ok (.iload_n 1, 1) := by decide +kernel
theorem dX10_field_84 : decode cX10_field 84 = .ok (.ifCond .ne 10, 3) := by decide +kernel
theorem dX10_field_87 : decode cX10_field 87 = .ok (.aload_n 0, 1) := by decide +kernel
theorem dX10_field_88 : decode cX10_field 88 = .ok (.getfield 85, 3) := by decide +kernel
theorem dX10_field_91 : decode cX10_field 91 = .ok (.goto 19, 3) := by decide +kernel
theorem dX10_field_94 : decode cX10_field 94 = .ok (.iload_n 1, 1) := by decide +kernel
theorem dX10_field_95 : decode cX10_field 95 = .ok (.iconst 1, 1) := by decide +kernel
theorem dX10_field_96 : decode cX10_field 96 = .ok (.if_icmp .ne 10, 3) := by decide +kernel
theorem dX10_field_99 : decode cX10_field 99 = .ok (.aload_n 0, 1) := by decide +kernel
theorem dX10_field_100 : decode cX10_field 100 = .ok (.getfield 88, 3) := by decide +kernel
theorem dX10_field_103 : decode cX10_field 103 = .ok (.goto 7, 3) := by decide +kernel
theorem dX10_field_106 : decode cX10_field 106 = .ok (.aload_n 0, 1) := by decide +kernel
theorem dX10_field_107 : decode cX10_field 107 = .ok (.getfield 91, 3) := by decide +kernel
theorem dX10_field_110 : decode cX10_field 110 = .ok (.istore 4, 2) := by decide +kernel
theorem dX10_field_112 : decode cX10_field 112 = .ok (.aload_n 0, 1) := by decide +kernel
theorem dX10_field_113 : decode cX10_field 113 = .ok (.iload_n 1, 1) := by decide +kernel
theorem dX10_field_114 : decode cX10_field 114 = .ok (.ifCond .ne 7, 3) := by decide +kernel
theorem dX10_field_117 : decode cX10_field 117 = .ok (.iload_n 2, 1) := by decide +kernel
theorem dX10_field_118 : decode cX10_field 118 = .ok (.goto 7, 3) := by decide +kernel
theorem dX10_field_121 : decode cX10_field 121 = .ok (.aload_n 0, 1) := by decide +kernel
theorem dX10_field_122 : decode cX10_field 122 = .ok (.getfield 85, 3) := by decide +kernel
theorem dX10_field_125 : decode cX10_field 125 = .ok (.putfield 85, 3) := by decide +kernel
theorem dX10_field_128 : decode cX10_field 128 = .ok (.aload_n 0, 1) := by decide +kernel
theorem dX10_field_129 : decode cX10_field 129 = .ok (.iload_n 1, 1) := by decide +kernel
theorem dX10_field_130 : decode cX10_field 130 = .ok (.iconst 1, 1) := by decide +kernel
theorem dX10_field_131 : decode cX10_field 131 = .ok (.if_icmp .ne 7, 3) := by decide +kernel
theorem dX10_field_134 : decode cX10_field 134 = .ok (.iload_n 2, 1) := by decide +kernel
theorem dX10_field_135 : decode cX10_field 135 = .ok (.goto 7, 3) := by decide +kernel
theorem dX10_field_138 : decode cX10_field 138 = .ok (.aload_n 0, 1) := by decide +kernel
theorem dX10_field_139 : decode cX10_field 139 = .ok (.getfield 88, 3) := by decide +kernel
theorem dX10_field_142 : decode cX10_field 142 = .ok (.putfield 88, 3) := by decide +kernel
theorem dX10_field_145 : decode cX10_field 145 = .ok (.aload_n 0, 1) := by decide +kernel
theorem dX10_field_146 : decode cX10_field 146 = .ok (.iload_n 1, 1) := by decide +kernel
theorem dX10_field_147 : decode cX10_field 147 = .ok (.iconst 2, 1) := by decide +kernel
theorem dX10_field_148 : decode cX10_field 148 = .ok (.if_icmp .ne 7, 3) := by decide +kernel
theorem dX10_field_151 : decode cX10_field 151 = .ok (.iload_n 2, 1) := by decide +kernel
theorem dX10_field_152 : decode cX10_field 152 = .ok (.goto 7, 3) := by decide +kernel
theorem dX10_field_155 : decode cX10_field 155 = .ok (.aload_n 0, 1) := by decide +kernel
theorem dX10_field_156 : decode cX10_field 156 = .ok (.getfield 91, 3) := by decide +kernel
theorem dX10_field_159 : decode cX10_field 159 = .ok (.putfield 91, 3) := by decide +kernel
theorem dX10_field_162 : decode cX10_field 162 = .ok (.iconst 0, 1) := by decide +kernel
theorem dX10_field_163 : decode cX10_field 163 = .ok (.istore 5, 2) := by decide +kernel
theorem dX10_field_165 : decode cX10_field 165 = .ok (.iload 5, 2) := by decide +kernel
theorem dX10_field_167 : decode cX10_field 167 = .ok (.iconst 3, 1) := by decide +kernel
theorem dX10_field_168 : decode cX10_field 168 = .ok (.if_icmp .ge 17, 3) := by decide +kernel
theorem dX10_field_171 : decode cX10_field 171 = .ok (.aload_n 0, 1) := by decide +kernel
theorem dX10_field_172 : decode cX10_field 172 = .ok (.getfield 94, 3) := by decide +kernel
theorem dX10_field_175 : decode cX10_field 175 = .ok (.iload 5, 2) := by decide +kernel
theorem dX10_field_177 : decode cX10_field 177 = .ok (.iconst 0, 1) := by decide +kernel
theorem dX10_field_178 : decode cX10_field 178 = .ok (.iastore, 1) := by decide +kernel
theorem dX10_field_179 : decode cX10_field 179 = .ok (.iinc 5 1, 3) := by decide +kernel
theorem dX10_field_182 : decode cX10_field 182 = .ok (.goto (-17), 3) := by decide +kernel
theorem dX10_field_185 : decode cX10_field 185 = .ok (.iconst 0, 1) := by decide +kernel
theorem dX10_field_186 : decode cX10_field 186 = .ok (.istore 5, 2) := by decide +kernel
theorem dX10_field_188 : decode cX10_field 188 = .ok (.iload 5, 2) := by decide +kernel
theorem dX10_field_190 : decode cX10_field 190 = .ok (.bipush 6, 2) := by decide +kernel
theorem dX10_field_192 : decode cX10_field 192 = .ok (.if_icmp .ge 17, 3) := by decide +kernel
theorem dX10_field_195 : decode cX10_field 195 = .ok (.aload_n 0, 1) := by decide +kernel
theorem dX10_field_196 : decode cX10_field 196 = .ok (.getfield 97, 3) := by decide +kernel
theorem dX10_field_199 : decode cX10_field 199 = .ok (.iload 5, 2) := by decide +kernel
theorem dX10_field_201 : decode cX10_field 201 = .ok (.iconst 0, 1) := by decide +kernel
theorem dX10_field_202 : decode cX10_field 202 = .ok (.iastore, 1) := by decide +kernel
theorem dX10_field_203 : decode cX10_field 203 = .ok (.iinc 5 1, 3) := by decide +kernel
theorem dX10_field_206 : decode cX10_field 206 = .ok (.goto (-18), 3) := by decide +kernel
theorem dX10_field_209 : decode cX10_field 209 = .ok (.aload_n 0, 1) := by decide +kernel
theorem dX10_field_210 : decode cX10_field 210 = .ok (.iconst 0, 1) := by decide +kernel
theorem dX10_field_211 : decode cX10_field 211 = .ok (.putfield 261, 3) := by decide +kernel
theorem dX10_field_214 : decode cX10_field 214 = .ok (.aload_n 0, 1) := by decide +kernel
theorem dX10_field_215 : decode cX10_field 215 = .ok (.iconst 0, 1) := by decide +kernel
theorem dX10_field_216 : decode cX10_field 216 = .ok (.putfield 264, 3) := by decide +kernel
theorem dX10_field_219 : decode cX10_field 219 = .ok (.iload 4, 2) := by decide +kernel
theorem dX10_field_221 : decode cX10_field 221 = .ok (.ireturn, 1) := by decide +kernel
set_option maxRecDepth 20000 in
theorem ggX10_curve_X10_in : GoodIn wsX10_curve wsX10_in := goodIn_r _ [9] rfl (by decide +kernel)
set_option maxRecDepth 20000 in
theorem gX10_curve_X10_in : GoodIn wsX10_curve (va_wsS RX10 117 yX10_in wsX10_in) := goodIn_app (goodIn_of _ (by decide +kernel)) ggX10_curve_X10_in
theorem dX10_curve_0 : decode cX10_curve 0 = .ok (.iload_n 1, 1) := by decide +kernel
theorem dX10_curve_1 : decode cX10_curve 1 = .ok (.i2l, 1) := by decide +kernel
theorem dX10_curve_2 : decode cX10_curve 2 = .ok (.lconst 0, 1) := by decide +kernel
theorem dX10_curve_3 : decode cX10_curve 3 = .ok (.aload_n 0, 1) := by decide +kernel
theorem dX10_curve_4 : decode cX10_curve 4 = .ok (.getfield 85, 3) := by decide +kernel
theorem dX10_curve_7 : decode cX10_curve 7 = .ok (.iconst 1, 1) := by decide +kernel
theorem dX10_curve_8 : decode cX10_curve 8 = .ok (.isub, 1) := by decide +kernel
theorem dX10_curve_9 : decode cX10_curve 9 = .ok (.i2l, 1) := by decide +kernel
theorem dX10_curve_10 : decode cX10_curve 10 = .ok (.invokestatic 117, 3) := by decide +kernel
theorem dX10_curve_13 : decode cX10_curve 13 = .ok (.ifCond .eq 58, 3) := by decide +kernel
theorem dX10_curve_16 : decode cX10_curve 16 = .ok (.iload_n 2, 1) := by decide +kernel
theorem dX10_curve_17 : decode cX10_curve 17 = .ok (.i2l, 1) := by decide +kernel
theorem dX10_curve_18 : decode cX10_curve 18 = .ok (.lconst 0, 1) := by decide +kernel
theorem dX10_curve_19 : decode cX10_curve 19 = .ok (.aload_n 0, 1) := by decide +kernel
theorem dX10_curve_20 : decode cX10_curve 20 = .ok (.getfield 88, 3) := by decide +kernel
theorem dX10_curve_23 : decode cX10_curve 23 = .ok (.ifCond .le 13, 3) := by decide +kernel
theorem dX10_curve_26 : decode cX10_curve 26 = .ok (.aload_n 0, 1) := by decide +kernel
theorem dX10_curve_27 : decode cX10_curve 27 = .ok (.getfield 85, 3) := by decide +kernel
theorem dX10_curve_30 : decode cX10_curve 30 = .ok (.iconst 1, 1) := by decide +kernel
theorem dX10_curve_31 : decode cX10_curve 31 = .ok (.isub, 1) := by decide +kernel
theorem dX10_curve_32 : decode cX10_curve 32 = .ok (.i2l, 1) := by decide +kernel
theorem dX10_curve_33 : decode cX10_curve 33 = .ok (.goto 4, 3) := by decide +kernel
theorem dX10_curve_36 : decode cX10_curve 36 = .ok (.lconst 0, 1) := by decide +kernel
theorem dX10_curve_37 : decode cX10_curve 37 = .ok (.invokestatic 117, 3) := by decide +kernel
theorem dX10_curve_40 : decode cX10_curve 40 = .ok (.ifCond .eq 31, 3) := by decide +kernel
theorem dX10_curve_43 : decode cX10_curve 43 = .ok (.iload_n 3, 1) := by decide +kernel
theorem dX10_curve_44 : decode cX10_curve 44 = .ok (.i2l, 1) := by decide +kernel
theorem dX10_curve_45 : decode cX10_curve 45 = .ok (.lconst 0, 1) := by decide +kernel
theorem dX10_curve_46 : decode cX10_curve 46 = .ok (.aload_n 0, 1) := by decide +kernel
theorem dX10_curve_47 : decode cX10_curve 47 = .ok (.getfield 88, 3) := by decide +kernel
theorem dX10_curve_50 : decode cX10_curve 50 = .ok (.iconst 1, 1) := by decide +kernel
theorem dX10_curve_51 : decode cX10_curve 51 = .ok (.if_icmp .le 13, 3) := by decide +kernel
theorem dX10_curve_54 : decode cX10_curve 54 = .ok (.aload_n 0, 1) := by decide +kernel
theorem dX10_curve_55 : decode cX10_curve 55 = .ok (.getfield 85, 3) := by decide +kernel
theorem dX10_curve_58 : decode cX10_curve 58 = .ok (.iconst 1, 1) := by decide +kernel
theorem dX10_curve_59 : decode cX10_curve 59 = .ok (.isub, 1) := by decide +kernel
theorem dX10_curve_60 : decode cX10_curve 60 = .ok (.i2l, 1) := by decide +kernel
theorem dX10_curve_61 : decode cX10_curve 61 = .ok (.goto 4, 3) := by decide +kernel
theorem dX10_curve_64 : decode cX10_curve 64 = .ok (.lconst 0, 1) := by decide +kernel
theorem dX10_curve_65 : decode cX10_curve 65 = .ok (.invokestatic 117, 3) := by decide +kernel
theorem dX10_curve_68 : decode cX10_curve 68 = .ok (.ifCond .ne 5, 3) := by decide +kernel
theorem dX10_curve_71 : decode cX10_curve 71 = .ok (.iconst (-1), 1) := by decide +kernel
theorem dX10_curve_72 : decode cX10_curve 72 = .ok (.ireturn, 1) := by decide +kernel
theorem dX10_curve_73 : decode cX10_curve 73 = .ok (.aload_n 0, 1) := by decide +kernel
theorem dX10_curve_74 : decode cX10_curve 74 = .ok (.getfield 94, 3) := by decide +kernel
theorem dX10_curve_77 : decode cX10_curve 77 = .ok (.iconst 0, 1) := by decide +kernel
theorem dX10_curve_78 : decode cX10_curve 78 = .ok (.iload_n 1, 1) := by decide +kernel
theorem dX10_curve_79 : decode cX10_curve 79 = .ok (.iastore, 1) := by decide +kernel
theorem dX10_curve_80 : decode cX10_curve 80 = .ok (.aload_n 0, 1) := by decide +kernel
theorem dX10_curve_81 : decode cX10_curve 81 = .ok (.getfield 94, 3) := by decide +kernel
theorem dX10_curve_84 : decode cX10_curve 84 = .ok (.iconst 1, 1) := by decide +kernel
theorem dX10_curve_85 : decode cX10_curve 85 = .ok (.iload_n 2, 1) := by decide +kernel
theorem dX10_curve_86 : decode cX10_curve 86 = .ok (.iastore, 1) := by decide +kernel
theorem dX10_curve_87 : decode cX10_curve 87 = .ok (.aload_n 0, 1) := by decide +kernel
theorem dX10_curve_88 : decode cX10_curve 88 = .ok (.getfield 94, 3) := by decide +kernel
theorem dX10_curve_91 : decode cX10_curve 91 = .ok (.iconst 2, 1) := by decide +kernel
theorem dX10_curve_92 : decode cX10_curve 92 = .ok (.iload_n 3, 1) := by decide +kernel
theorem dX10_curve_93 : decode cX10_curve 93 = .ok (.iastore, 1) := by decide +kernel
theorem dX10_curve_94 : decode cX10_curve 94 = .ok (.iconst 0, 1) := by decide +kernel
theorem dX10_curve_95 : decode cX10_curve 95 = .ok (.istore 4, 2) := by decide +kernel
theorem dX10_curve_97 : decode cX10_curve 97 = .ok (.iload 4, 2) := by decide +kernel
theorem dX10_curve_99 : decode cX10_curve 99 = .ok (.bipush 6, 2) := by decide +kernel
theorem dX10_curve_101 : decode cX10_curve 101 = .ok (.if_icmp .ge 17, 3) := by decide +kernel
theorem dX10_curve_104 : decode cX10_curve 104 = .ok (.aload_n 0, 1) := by decide +kernel
theorem dX10_curve_105 : decode cX10_curve 105 = .ok (.getfield 97, 3) := by decide +kernel
theorem dX10_curve_108 : decode cX10_curve 108 = .ok (.iload 4, 2) := by decide +kernel
theorem dX10_curve_110 : decode cX10_curve 110 = .ok (.iconst 0, 1) := by decide +kernel
theorem dX10_curve_111 : decode cX10_curve 111 = .ok (.iastore, 1) := by decide +kernel
theorem dX10_curve_112 : decode cX10_curve 112 = .ok (.iinc 4 1, 3) := by decide +kernel
theorem dX10_curve_115 : decode cX10_curve 115 = .ok (.goto (-18), 3) := by decide +kernel
theorem dX10_curve_118 : decode cX10_curve 118 = .ok (.aload_n 0, 1) := by decide +kernel
theorem dX10_curve_119 : decode cX10_curve 119 = .ok (.getfield 91, 3) := by decide +kernel
theorem dX10_curve_122 : decode cX10_curve 122 = .ok (.ireturn, 1) := by decide +kernel
theorem dX10_pointOf_0 : decode cX10_pointOf 0 = .ok (.iload_n 1, 1) := by decide +kernel
theorem dX10_pointOf_1 : decode cX10_pointOf 1 = .ok (.iconst 1, 1) := by decide +kernel
theorem dX10_pointOf_2 : decode cX10_pointOf 2 = .ok (.iadd, 1) := by decide +kernel
theorem dX10_pointOf_3 : decode cX10_pointOf 3 = .ok (.istore_n 2, 1) := by decide +kernel
theorem dX10_pointOf_4 : decode cX10_pointOf 4 = .ok (.aload_n 0, 1) := by decide +kernel
theorem dX10_pointOf_5 : decode cX10_pointOf 5 = .ok (.getfield 94, 3) := by decide +kernel
theorem dX10_pointOf_8 : decode cX10_pointOf 8 = .ok (.iconst 0, 1) := by decide +kernel
theorem dX10_pointOf_9 : decode cX10_pointOf 9 = .ok (.iaload, 1) := by decide +kernel
theorem dX10_pointOf_10 : decode cX10_pointOf 10 = .ok (.aload_n 0, 1) := by decide +kernel
theorem dX10_pointOf_11 : decode cX10_pointOf 11 = .ok (.getfield 94, 3) := by decide +kernel
theorem dX10_pointOf_14 : decode cX10_pointOf 14 = .ok (.iconst 1, 1) := by decide +kernel
theorem dX10_pointOf_15 : decode cX10_pointOf 15 = .ok (.iaload, 1) := by decide +kernel
theorem dX10_pointOf_16 : decode cX10_pointOf 16 = .ok (.iload_n 2, 1) := by decide +kernel
theorem dX10_pointOf_17 : decode cX10_pointOf 17 = .ok (.imul, 1) := by decide +kernel
theorem dX10_pointOf_18 : decode cX10_pointOf 18 = .ok (.iadd, 1) := by decide +kernel
theorem dX10_pointOf_19 : decode cX10_pointOf 19 = .ok (.aload_n 0, 1) := by decide +kernel
theorem dX10_pointOf_20 : decode cX10_pointOf 20 = .ok (.getfield 94, 3) := by decide +kernel
theorem dX10_pointOf_23 : decode cX10_pointOf 23 = .ok (.iconst 2, 1) := by decide +kernel
theorem dX10_pointOf_24 : decode cX10_pointOf 24 = .ok (.iaload, 1) := by decide +kernel
theorem dX10_pointOf_25 : decode cX10_pointOf 25 = .ok (.iload_n 2, 1) := by decide +kernel
theorem dX10_pointOf_26 : decode cX10_pointOf 26 = .ok (.imul, 1) := by decide +kernel
theorem dX10_pointOf_27 : decode cX10_pointOf 27 = .ok (.iload_n 2, 1) := by decide +kernel
theorem dX10_pointOf_28 : decode cX10_pointOf 28 = .ok (.imul, 1) := by decide +kernel
theorem dX10_pointOf_29 : decode cX10_pointOf 29 = .ok (.iadd, 1) := by decide +kernel
theorem dX10_pointOf_30 : decode cX10_pointOf 30 = .ok (.aload_n 0, 1) := by decide +kernel
theorem dX10_pointOf_31 : decode cX10_pointOf 31 = .ok (.getfield 97, 3) := by decide +kernel
theorem dX10_pointOf_34 : decode cX10_pointOf 34 = .ok (.iload_n 1, 1) := by decide +kernel
theorem dX10_pointOf_35 : decode cX10_pointOf 35 = .ok (.iaload, 1) := by decide +kernel
theorem dX10_pointOf_36 : decode cX10_pointOf 36 = .ok (.iadd, 1) := by decide +kernel
theorem dX10_pointOf_37 : decode cX10_pointOf 37 = .ok (.aload_n 0, 1) := by decide +kernel
theorem dX10_pointOf_38 : decode cX10_pointOf 38 = .ok (.getfield 85, 3) := by decide +kernel
theorem dX10_pointOf_41 : decode cX10_pointOf 41 = .ok (.irem, 1) := by decide +kernel
theorem dX10_pointOf_42 : decode cX10_pointOf 42 = .ok (.ireturn, 1) := by decide +kernel
set_option maxRecDepth 20000 in
theorem ggX10_isPoint_X10_in : GoodIn wsX10_isPoint wsX10_in := goodIn_r _ [5] rfl (by decide +kernel)
set_option maxRecDepth 20000 in
theorem gX10_isPoint_X10_in : GoodIn wsX10_isPoint (va_wsS RX10 117 yX10_in wsX10_in) := goodIn_app (goodIn_of _ (by decide +kernel)) ggX10_isPoint_X10_in
theorem dX10_isPoint_0 : decode cX10_isPoint 0 = .ok (.iload_n 1, 1) := by decide +kernel
theorem dX10_isPoint_1 : decode cX10_isPoint 1 = .ok (.i2l, 1) := by decide +kernel
theorem dX10_isPoint_2 : decode cX10_isPoint 2 = .ok (.lconst 0, 1) := by decide +kernel
theorem dX10_isPoint_3 : decode cX10_isPoint 3 = .ok (.aload_n 0, 1) := by decide +kernel
theorem dX10_isPoint_4 : decode cX10_isPoint 4 = .ok (.getfield 91, 3) := by decide +kernel
theorem dX10_isPoint_7 : decode cX10_isPoint 7 = .ok (.iconst 1, 1) := by decide +kernel
theorem dX10_isPoint_8 : decode cX10_isPoint 8 = .ok (.isub, 1) := by decide +kernel
theorem dX10_isPoint_9 : decode cX10_isPoint 9 = .ok (.i2l, 1) := by decide +kernel
theorem dX10_isPoint_10 : decode cX10_isPoint 10 = .ok (.invokestatic 117, 3) := by decide +kernel
theorem dX10_isPoint_13 : decode cX10_isPoint 13 = .ok (.ireturn, 1) := by decide +kernel
set_option maxRecDepth 20000 in
theorem ggX10_point_X10_isPoint : GoodIn wsX10_point wsX10_isPoint := goodIn_r _ [5, 6, 7, 8, 4, 9, 17, 18, 19, 20, 21, 22, 23, 24, 25, 26, 27, 28, 29, 30, 31, 32, 33, 34, 35, 36, 37, 38, 39, 40, 41, 42, 43, 44, 45, 46, 47, 48, 49, 50, 51, 52, 53, 54, 55, 56, 57, 58, 59, 60, 61, 62, 63] rfl (by decide +kernel)
set_option maxRecDepth 20000 in
theorem gX10_point_X10_isPoint : GoodIn wsX10_point (wsV RX10 267 RX10 yX10_isPoint wsX10_isPoint) := goodIn_app (goodIn_of _ (by decide +kernel)) ggX10_point_X10_isPoint
set_option maxRecDepth 20000 in
theorem ggX10_point_X10_pointOf : GoodIn wsX10_point wsX10_pointOf := goodIn_r _ [13, 14, 15, 16, 17, 18, 19, 20, 21, 22, 23, 24, 25, 26, 27, 28, 29, 30, 31, 32, 33, 34, 35, 36, 37, 38, 39, 40, 41, 42, 43, 44, 45, 46, 47, 48, 49, 50, 51, 52, 53, 54, 55, 56, 57, 58, 59, 60, 61, 62, 63] rfl (by decide +kernel)
set_option maxRecDepth 20000 in
theorem gX10_point_X10_pointOf : GoodIn wsX10_point (wsV RX10 270 RX10 yX10_pointOf wsX10_pointOf) := goodIn_app (goodIn_of _ (by decide +kernel)) ggX10_point_X10_pointOf
theorem dX10_point_0 : decode cX10_point 0 = .ok (.aload_n 0, 1) := by decide +kernel
theorem dX10_point_1 : decode cX10_point 1 = .ok (.iload_n 1, 1) := by decide +kernel
theorem dX10_point_2 : decode cX10_point 2 = .ok (.invokevirtual 267, 3) := by decide +kernel
theorem dX10_point_5 : decode cX10_point 5 = .ok (.ifCond .eq 11, 3) := by decide +kernel
theorem dX10_point_8 : decode cX10_point 8 = .ok (.aload_n 0, 1) := by decide +kernel
theorem dX10_point_9 : decode cX10_point 9 = .ok (.iload_n 1, 1) := by decide +kernel
theorem dX10_point_10 : decode cX10_point 10 = .ok (.invokevirtual 270, 3) := by decide +kernel
theorem dX10_point_13 : decode cX10_point 13 = .ok (.goto 4, 3) := by decide +kernel
theorem dX10_point_16 : decode cX10_point 16 = .ok (.iconst (-1), 1) := by decide +kernel
theorem dX10_point_17 : decode cX10_point 17 = .ok (.ireturn, 1) := by decide +kernel
set_option maxRecDepth 20000 in
theorem ggX10_bend_X10_isPoint : GoodIn wsX10_bend wsX10_isPoint := goodIn_r _ [7, 8, 9, 10, 6, 11, 12, 13, 14, 15, 16, 17, 18, 19, 20, 21, 22, 23, 24, 25, 26, 27, 28, 29, 30, 31, 32, 33, 34, 35, 36, 37, 38, 39, 40, 41, 42, 43, 44, 45, 46, 47, 48, 49, 50, 51, 52, 53, 54, 55, 56, 57, 58] rfl (by decide +kernel)
set_option maxRecDepth 20000 in
theorem gX10_bend_X10_isPoint : GoodIn wsX10_bend (wsV RX10 267 RX10 yX10_isPoint wsX10_isPoint) := goodIn_app (goodIn_of _ (by decide +kernel)) ggX10_bend_X10_isPoint
set_option maxRecDepth 20000 in
theorem ggX10_bend_X10_in : GoodIn wsX10_bend wsX10_in := goodIn_r _ [11] rfl (by decide +kernel)
set_option maxRecDepth 20000 in
theorem gX10_bend_X10_in : GoodIn wsX10_bend (va_wsS RX10 117 yX10_in wsX10_in) := goodIn_app (goodIn_of _ (by decide +kernel)) ggX10_bend_X10_in
theorem dX10_bend_0 : decode cX10_bend 0 = .ok (.aload_n 0, 1) := by decide +kernel
theorem dX10_bend_1 : decode cX10_bend 1 = .ok (.iload_n 1, 1) := by decide +kernel
theorem dX10_bend_2 : decode cX10_bend 2 = .ok (.invokevirtual 267, 3) := by decide +kernel
theorem dX10_bend_5 : decode cX10_bend 5 = .ok (.ifCond .eq 19, 3) := by decide +kernel
theorem dX10_bend_8 : decode cX10_bend 8 = .ok (.iload_n 2, 1) := by decide +kernel
theorem dX10_bend_9 : decode cX10_bend 9 = .ok (.i2l, 1) := by decide +kernel
theorem dX10_bend_10 : decode cX10_bend 10 = .ok (.lconst 0, 1) := by decide +kernel
theorem dX10_bend_11 : decode cX10_bend 11 = .ok (.aload_n 0, 1) := by decide +kernel
theorem dX10_bend_12 : decode cX10_bend 12 = .ok (.getfield 85, 3) := by decide +kernel
theorem dX10_bend_15 : decode cX10_bend 15 = .ok (.iconst 1, 1) := by decide +kernel
theorem dX10_bend_16 : decode cX10_bend 16 = .ok (.isub, 1) := by decide +kernel
theorem dX10_bend_17 : decode cX10_bend 17 = .ok (.i2l, 1) := by decide +kernel
theorem dX10_bend_18 : decode cX10_bend 18 = .ok (.invokestatic 117, 3) := by decide +kernel
theorem dX10_bend_21 : decode cX10_bend 21 = .ok (.ifCond .ne 5, 3) := by decide +kernel
theorem dX10_bend_24 : decode cX10_bend 24 = .ok (.iconst (-1), 1) := by decide +kernel
theorem dX10_bend_25 : decode cX10_bend 25 = .ok (.ireturn, 1) := by decide +kernel
theorem dX10_bend_26 : decode cX10_bend 26 = .ok (.aload_n 0, 1) := by decide +kernel
theorem dX10_bend_27 : decode cX10_bend 27 = .ok (.getfield 97, 3) := by decide +kernel
theorem dX10_bend_30 : decode cX10_bend 30 = .ok (.iload_n 1, 1) := by decide +kernel
theorem dX10_bend_31 : decode cX10_bend 31 = .ok (.iaload, 1) := by decide +kernel
theorem dX10_bend_32 : decode cX10_bend 32 = .ok (.istore_n 3, 1) := by decide +kernel
theorem dX10_bend_33 : decode cX10_bend 33 = .ok (.aload_n 0, 1) := by decide +kernel
theorem dX10_bend_34 : decode cX10_bend 34 = .ok (.getfield 97, 3) := by decide +kernel
theorem dX10_bend_37 : decode cX10_bend 37 = .ok (.iload_n 1, 1) := by decide +kernel
theorem dX10_bend_38 : decode cX10_bend 38 = .ok (.iload_n 2, 1) := by decide +kernel
theorem dX10_bend_39 : decode cX10_bend 39 = .ok (.iastore, 1) := by decide +kernel
theorem dX10_bend_40 : decode cX10_bend 40 = .ok (.iload_n 3, 1) := by decide +kernel
theorem dX10_bend_41 : decode cX10_bend 41 = .ok (.ireturn, 1) := by decide +kernel
set_option maxRecDepth 20000 in
theorem ggX10_opened_X10_bitsIn : GoodIn wsX10_opened wsX10_bitsIn := goodIn_r _ [7] rfl (by decide +kernel)
set_option maxRecDepth 20000 in
theorem gX10_opened_X10_bitsIn : GoodIn wsX10_opened (va_wsS RX10 251 yX10_bitsIn wsX10_bitsIn) := goodIn_app (goodIn_of _ (by decide +kernel)) ggX10_opened_X10_bitsIn
theorem dX10_opened_0 : decode cX10_opened 0 = .ok (.iconst 1, 1) := by decide +kernel
theorem dX10_opened_1 : decode cX10_opened 1 = .ok (.istore 4, 2) := by decide +kernel
theorem dX10_opened_3 : decode cX10_opened 3 = .ok (.iconst 0, 1) := by decide +kernel
theorem dX10_opened_4 : decode cX10_opened 4 = .ok (.istore 5, 2) := by decide +kernel
theorem dX10_opened_6 : decode cX10_opened 6 = .ok (.iload 5, 2) := by decide +kernel
theorem dX10_opened_8 : decode cX10_opened 8 = .ok (.iload_n 2, 1) := by decide +kernel
theorem dX10_opened_9 : decode cX10_opened 9 = .ok (.if_icmp .gt 18, 3) := by decide +kernel
theorem dX10_opened_12 : decode cX10_opened 12 = .ok (.iload 4, 2) := by decide +kernel
theorem dX10_opened_14 : decode cX10_opened 14 = .ok (.aload_n 0, 1) := by decide +kernel
theorem dX10_opened_15 : decode cX10_opened 15 = .ok (.getfield 85, 3) := by decide +kernel
theorem dX10_opened_18 : decode cX10_opened 18 = .ok (.imul, 1) := by decide +kernel
theorem dX10_opened_19 : decode cX10_opened 19 = .ok (.istore 4, 2) := by decide +kernel
theorem dX10_opened_21 : decode cX10_opened 21 = .ok (.iinc 5 1, 3) := by decide +kernel
theorem dX10_opened_24 : decode cX10_opened 24 = .ok (.goto (-18), 3) := by decide +kernel
theorem dX10_opened_27 : decode cX10_opened 27 = .ok (.iconst (-1), 1) := by decide +kernel
theorem dX10_opened_28 : decode cX10_opened 28 = .ok (.istore 5, 2) := by decide +kernel
theorem dX10_opened_30 : decode cX10_opened 30 = .ok (.iconst 0, 1) := by decide +kernel
theorem dX10_opened_31 : decode cX10_opened 31 = .ok (.istore 6, 2) := by decide +kernel
theorem dX10_opened_33 : decode cX10_opened 33 = .ok (.iconst 0, 1) := by decide +kernel
theorem dX10_opened_34 : decode cX10_opened 34 = .ok (.istore 7, 2) := by decide +kernel
theorem dX10_opened_36 : decode cX10_opened 36 = .ok (.iconst 0, 1) := by decide +kernel
theorem dX10_opened_37 : decode cX10_opened 37 = .ok (.istore 8, 2) := by decide +kernel
theorem dX10_opened_39 : decode cX10_opened 39 = .ok (.iconst 0, 1) := by decide +kernel
theorem dX10_opened_40 : decode cX10_opened 40 = .ok (.istore 9, 2) := by decide +kernel
theorem dX10_opened_42 : decode cX10_opened 42 = .ok (.iload 9, 2) := by decide +kernel
theorem dX10_opened_44 : decode cX10_opened 44 = .ok (.iload 4, 2) := by decide +kernel
theorem dX10_opened_46 : decode cX10_opened 46 = .ok (.if_icmp .ge 179, 3) := by decide +kernel
theorem dX10_opened_49 : decode cX10_opened 49 = .ok (.iconst 0, 1) := by decide +kernel
theorem dX10_opened_50 : decode cX10_opened 50 = .ok (.istore 10, 2) := by decide +kernel
theorem dX10_opened_52 : decode cX10_opened 52 = .ok (.iconst 0, 1) := by decide +kernel
theorem dX10_opened_53 : decode cX10_opened 53 = .ok (.istore 11, 2) := by decide +kernel
theorem dX10_opened_55 : decode cX10_opened 55 = .ok (.iconst 0, 1) := by decide +kernel
theorem dX10_opened_56 : decode cX10_opened 56 = .ok (.istore 12, 2) := by decide +kernel
theorem dX10_opened_58 : decode cX10_opened 58 = .ok (.iload 12, 2) := by decide +kernel
theorem dX10_opened_60 : decode cX10_opened 60 = .ok (.aload_n 0, 1) := by decide +kernel
theorem dX10_opened_61 : decode cX10_opened 61 = .ok (.getfield 91, 3) := by decide +kernel
theorem dX10_opened_64 : decode cX10_opened 64 = .ok (.if_icmp .ge 111, 3) := by decide +kernel
theorem dX10_opened_67 : decode cX10_opened 67 = .ok (.iload_n 1, 1) := by decide +kernel
theorem dX10_opened_68 : decode cX10_opened 68 = .ok (.iload 12, 2) := by decide +kernel
theorem dX10_opened_70 : decode cX10_opened 70 = .ok (.ishr, 1) := by decide +kernel
theorem dX10_opened_71 : decode cX10_opened 71 = .ok (.iconst 1, 1) := by decide +kernel
theorem dX10_opened_72 : decode cX10_opened 72 = .ok (.iand, 1) := by decide +kernel
theorem dX10_opened_73 : decode cX10_opened 73 = .ok (.iconst 1, 1) := by decide +kernel
theorem dX10_opened_74 : decode cX10_opened 74 = .ok (.if_icmp .ne 95, 3) := by decide +kernel
theorem dX10_opened_77 : decode cX10_opened 77 = .ok (.iload 9, 2) := by decide +kernel
theorem dX10_opened_79 : decode cX10_opened 79 = .ok (.istore 13, 2) := by decide +kernel
theorem dX10_opened_81 : decode cX10_opened 81 = .ok (.iconst 1, 1) := by decide +kernel
theorem dX10_opened_82 : decode cX10_opened 82 = .ok (.istore 14, 2) := by decide +kernel
theorem dX10_opened_84 : decode cX10_opened 84 = .ok (.iconst 0, 1) := by decide +kernel
theorem dX10_opened_85 : decode cX10_opened 85 = .ok (.istore 15, 2) := by decide +kernel
theorem dX10_opened_87 : decode cX10_opened 87 = .ok (.iconst 0, 1) := by decide +kernel
theorem dX10_opened_88 : decode cX10_opened 88 = .ok (.istore 16, 2) := by decide +kernel
theorem dX10_opened_90 : decode cX10_opened 90 = .ok (.iload 16, 2) := by decide +kernel
theorem dX10_opened_92 : decode cX10_opened 92 = .ok (.iload_n 2, 1) := by decide +kernel
theorem dX10_opened_93 : decode cX10_opened 93 = .ok (.if_icmp .gt 47, 3) := by decide +kernel
theorem dX10_opened_96 : decode cX10_opened 96 = .ok (.iload 15, 2) := by decide +kernel
theorem dX10_opened_98 : decode cX10_opened 98 = .ok (.iload 13, 2) := by decide +kernel
theorem dX10_opened_100 : decode cX10_opened 100 = .ok (.aload_n 0, 1) := by decide +kernel
theorem dX10_opened_101 : decode cX10_opened 101 = .ok (.getfield 85, 3) := by decide +kernel
theorem dX10_opened_104 : decode cX10_opened 104 = .ok (.irem, 1) := by decide +kernel
theorem dX10_opened_105 : decode cX10_opened 105 = .ok (.iload 14, 2) := by decide +kernel
theorem dX10_opened_107 : decode cX10_opened 107 = .ok (.imul, 1) := by decide +kernel
theorem dX10_opened_108 : decode cX10_opened 108 = .ok (.iadd, 1) := by decide +kernel
theorem dX10_opened_109 : decode cX10_opened 109 = .ok (.istore 15, 2) := by decide +kernel
theorem dX10_opened_111 : decode cX10_opened 111 = .ok (.iload 13, 2) := by decide +kernel
theorem dX10_opened_113 : decode cX10_opened 113 = .ok (.aload_n 0, 1) := by decide +kernel
theorem dX10_opened_114 : decode cX10_opened 114 = .ok (.getfield 85, 3) := by decide +kernel
theorem dX10_opened_117 : decode cX10_opened 117 = .ok (.idiv, 1) := by decide +kernel
theorem dX10_opened_118 : decode cX10_opened 118 = .ok (.istore 13, 2) := by decide +kernel
theorem dX10_opened_120 : decode cX10_opened 120 = .ok (.iload 14, 2) := by decide +kernel
theorem dX10_opened_122 : decode cX10_opened 122 = .ok (.iload 12, 2) := by decide +kernel
theorem dX10_opened_124 : decode cX10_opened 124 = .ok (.iconst 1, 1) := by decide +kernel
theorem dX10_opened_125 : decode cX10_opened 125 = .ok (.iadd, 1) := by decide +kernel
theorem dX10_opened_126 : decode cX10_opened 126 = .ok (.imul, 1) := by decide +kernel
theorem dX10_opened_127 : decode cX10_opened 127 = .ok (.aload_n 0, 1) := by decide +kernel
theorem dX10_opened_128 : decode cX10_opened 128 = .ok (.getfield 85, 3) := by decide +kernel
theorem dX10_opened_131 : decode cX10_opened 131 = .ok (.irem, 1) := by decide +kernel
theorem dX10_opened_132 : decode cX10_opened 132 = .ok (.istore 14, 2) := by decide +kernel
theorem dX10_opened_134 : decode cX10_opened 134 = .ok (.iinc 16 1, 3) := by decide +kernel
theorem dX10_opened_137 : decode cX10_opened 137 = .ok (.goto (-47), 3) := by decide +kernel
theorem dX10_opened_140 : decode cX10_opened 140 = .ok (.iload 15, 2) := by decide +kernel
theorem dX10_opened_142 : decode cX10_opened 142 = .ok (.aload_n 0, 1) := by decide +kernel
theorem dX10_opened_143 : decode cX10_opened 143 = .ok (.getfield 85, 3) := by decide +kernel
theorem dX10_opened_146 : decode cX10_opened 146 = .ok (.irem, 1) := by decide +kernel
theorem dX10_opened_147 : decode cX10_opened 147 = .ok (.aload_n 0, 1) := by decide +kernel
theorem dX10_opened_148 : decode cX10_opened 148 = .ok (.getfield 109, 3) := by decide +kernel
theorem dX10_opened_151 : decode cX10_opened 151 = .ok (.iload 12, 2) := by decide +kernel
theorem dX10_opened_153 : decode cX10_opened 153 = .ok (.iaload, 1) := by decide +kernel
theorem dX10_opened_154 : decode cX10_opened 154 = .ok (.if_icmp .ne 15, 3) := by decide +kernel
theorem dX10_opened_157 : decode cX10_opened 157 = .ok (.iload 10, 2) := by decide +kernel
theorem dX10_opened_159 : decode cX10_opened 159 = .ok (.iconst 1, 1) := by decide +kernel
theorem dX10_opened_160 : decode cX10_opened 160 = .ok (.iload 12, 2) := by decide +kernel
theorem dX10_opened_162 : decode cX10_opened 162 = .ok (.ishl, 1) := by decide +kernel
theorem dX10_opened_163 : decode cX10_opened 163 = .ok (.ior, 1) := by decide +kernel
theorem dX10_opened_164 : decode cX10_opened 164 = .ok (.istore 10, 2) := by decide +kernel
theorem dX10_opened_166 : decode cX10_opened 166 = .ok (.iinc 11 1, 3) := by decide +kernel
theorem dX10_opened_169 : decode cX10_opened 169 = .ok (.iinc 12 1, 3) := by decide +kernel
theorem dX10_opened_172 : decode cX10_opened 172 = .ok (.goto (-114), 3) := by decide +kernel
theorem dX10_opened_175 : decode cX10_opened 175 = .ok (.iload 11, 2) := by decide +kernel
theorem dX10_opened_177 : decode cX10_opened 177 = .ok (.iload 5, 2) := by decide +kernel
theorem dX10_opened_179 : decode cX10_opened 179 = .ok (.if_icmp .le 23, 3) := by decide +kernel
theorem dX10_opened_182 : decode cX10_opened 182 = .ok (.iload 11, 2) := by decide +kernel
theorem dX10_opened_184 : decode cX10_opened 184 = .ok (.istore 5, 2) := by decide +kernel
theorem dX10_opened_186 : decode cX10_opened 186 = .ok (.iconst 0, 1) := by decide +kernel

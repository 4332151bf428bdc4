theorem dX10_run_502 : decode cX10_run 502 = .ok (.iconst 5, 1) := by decide +kernel
theorem dX10_run_503 : decode cX10_run 503 = .ok (.if_icmp .eq 31, 3) := by decide +kernel
theorem dX10_run_506 : decode cX10_run 506 = .ok (.aload_n 0, 1) := by decide +kernel
theorem dX10_run_507 : decode cX10_run 507 = .ok (.getfield 57, 3) := by decide +kernel
theorem dX10_run_510 : decode cX10_run 510 = .ok (.iconst 3, 1) := by decide +kernel
theorem dX10_run_511 : decode cX10_run 511 = .ok (.iload 6, 2) := by decide +kernel
theorem dX10_run_513 : decode cX10_run 513 = .ok (.imul, 1) := by decide +kernel
theorem dX10_run_514 : decode cX10_run 514 = .ok (.iload 10, 2) := by decide +kernel
theorem dX10_run_516 : decode cX10_run 516 = .ok (.iadd, 1) := by decide +kernel
theorem dX10_run_517 : decode cX10_run 517 = .ok (.aload_n 0, 1) := by decide +kernel
theorem dX10_run_518 : decode cX10_run 518 = .ok (.getfield 54, 3) := by decide +kernel
theorem dX10_run_521 : decode cX10_run 521 = .ok (.iload 7, 2) := by decide +kernel
theorem dX10_run_523 : decode cX10_run 523 = .ok (.iload 10, 2) := by decide +kernel
theorem dX10_run_525 : decode cX10_run 525 = .ok (.iadd, 1) := by decide +kernel
theorem dX10_run_526 : decode cX10_run 526 = .ok (.iaload, 1) := by decide +kernel
theorem dX10_run_527 : decode cX10_run 527 = .ok (.iastore, 1) := by decide +kernel
theorem dX10_run_528 : decode cX10_run 528 = .ok (.iinc 10 1, 3) := by decide +kernel
theorem dX10_run_531 : decode cX10_run 531 = .ok (.goto (-42), 3) := by decide +kernel
theorem dX10_run_534 : decode cX10_run 534 = .ok (.iinc 6 1, 3) := by decide +kernel
theorem dX10_run_537 : decode cX10_run 537 = .ok (.goto (-523), 3) := by decide +kernel
theorem dX10_run_540 : decode cX10_run 540 = .ok (.return_, 1) := by decide +kernel
set_option maxRecDepth 20000 in
theorem ggX10_multiply_X10_mod : GoodIn wsX10_multiply wsX10_mod := goodIn_r _ [12, 13, 28, 29, 30, 31, 32, 33, 34, 35, 36, 37, 38, 39, 40, 41, 42, 43, 44, 45, 46, 47, 48, 49, 50, 51, 52, 53, 54, 55, 56, 57, 58, 59, 60, 61, 62, 63, 64, 65, 66, 67, 68, 69, 70, 71, 72, 73, 74] rfl (by decide +kernel)
set_option maxRecDepth 20000 in
theorem gX10_multiply_X10_mod : GoodIn wsX10_multiply (wsV RX10 206 RX10 yX10_mod wsX10_mod) := goodIn_app (goodIn_of _ (by decide +kernel)) ggX10_multiply_X10_mod
set_option maxRecDepth 20000 in
theorem ggX10_multiply_X10_lieOf : GoodIn wsX10_multiply wsX10_lieOf := goodIn_r _ [17, 18, 19, 20, 21, 28, 29, 30, 31, 32, 33, 34, 35, 36, 37, 38, 39, 40, 41, 42, 43, 44, 45, 46, 47, 48, 49, 50, 51, 52, 53, 54, 55, 56, 57, 58, 59, 60, 61, 62, 63, 64, 65, 66, 67, 68, 69, 70, 71, 72, 73, 74] rfl (by decide +kernel)
set_option maxRecDepth 20000 in
theorem gX10_multiply_X10_lieOf : GoodIn wsX10_multiply (wsV RX10 219 RX10 yX10_lieOf wsX10_lieOf) := goodIn_app (goodIn_of _ (by decide +kernel)) ggX10_multiply_X10_lieOf
set_option maxRecDepth 20000 in
theorem ggX10_multiply_X10_see : GoodIn wsX10_multiply wsX10_see := goodIn_r _ [25, 26, 27, 28, 29, 30, 31, 32, 33, 34, 35, 36, 37, 38, 39, 40, 41, 42, 43, 44, 45, 46, 47, 48, 49, 50, 51, 52, 53, 54, 55, 56, 57, 58, 59, 60, 61, 62, 63, 64, 65, 66, 67, 68, 69, 70, 71, 72, 73, 74] rfl (by decide +kernel)
set_option maxRecDepth 20000 in
theorem gX10_multiply_X10_see : GoodIn wsX10_multiply (wsV RX10 209 RX10 yX10_see wsX10_see) := goodIn_app (goodIn_of _ (by decide +kernel)) ggX10_multiply_X10_see
theorem dX10_multiply_0 : decode cX10_multiply 0 = .ok (.iconst 0, 1) := by decide +kernel
theorem dX10_multiply_1 : decode cX10_multiply 1 = .ok (.istore 5, 2) := by decide +kernel
theorem dX10_multiply_3 : decode cX10_multiply 3 = .ok (.iload 5, 2) := by decide +kernel
theorem dX10_multiply_5 : decode cX10_multiply 5 = .ok (.bipush 8, 2) := by decide +kernel
theorem dX10_multiply_7 : decode cX10_multiply 7 = .ok (.if_icmp .ge 29, 3) := by decide +kernel
theorem dX10_multiply_10 : decode cX10_multiply 10 = .ok (.aload_n 0, 1) := by decide +kernel
theorem dX10_multiply_11 : decode cX10_multiply 11 = .ok (.getfield 69, 3) := by decide +kernel
theorem dX10_multiply_14 : decode cX10_multiply 14 = .ok (.iload 5, 2) := by decide +kernel
theorem dX10_multiply_16 : decode cX10_multiply 16 = .ok (.aload_n 0, 1) := by decide +kernel
theorem dX10_multiply_17 : decode cX10_multiply 17 = .ok (.aload_n 0, 1) := by decide +kernel
theorem dX10_multiply_18 : decode cX10_multiply 18 = .ok (.getfield 60, 3) := by decide +kernel
theorem dX10_multiply_21 : decode cX10_multiply 21 = .ok (.iload_n 2, 1) := by decide +kernel
theorem dX10_multiply_22 : decode cX10_multiply 22 = .ok (.iload 5, 2) := by decide +kernel
theorem dX10_multiply_24 : decode cX10_multiply 24 = .ok (.iadd, 1) := by decide +kernel
theorem dX10_multiply_25 : decode cX10_multiply 25 = .ok (.iaload, 1) := by decide +kernel
theorem dX10_multiply_26 : decode cX10_multiply 26 = .ok (.invokevirtual 206, 3) := by decide +kernel
theorem dX10_multiply_29 : decode cX10_multiply 29 = .ok (.iastore, 1) := by decide +kernel
theorem dX10_multiply_30 : decode cX10_multiply 30 = .ok (.iinc 5 1, 3) := by decide +kernel
theorem dX10_multiply_33 : decode cX10_multiply 33 = .ok (.goto (-30), 3) := by decide +kernel
theorem dX10_multiply_36 : decode cX10_multiply 36 = .ok (.aload_n 0, 1) := by decide +kernel
theorem dX10_multiply_37 : decode cX10_multiply 37 = .ok (.getfield 69, 3) := by decide +kernel
theorem dX10_multiply_40 : decode cX10_multiply 40 = .ok (.iconst 0, 1) := by decide +kernel
theorem dX10_multiply_41 : decode cX10_multiply 41 = .ok (.iaload, 1) := by decide +kernel
theorem dX10_multiply_42 : decode cX10_multiply 42 = .ok (.aload_n 0, 1) := by decide +kernel
theorem dX10_multiply_43 : decode cX10_multiply 43 = .ok (.getfield 69, 3) := by decide +kernel
theorem dX10_multiply_46 : decode cX10_multiply 46 = .ok (.iconst 1, 1) := by decide +kernel
theorem dX10_multiply_47 : decode cX10_multiply 47 = .ok (.iaload, 1) := by decide +kernel
theorem dX10_multiply_48 : decode cX10_multiply 48 = .ok (.iadd, 1) := by decide +kernel
theorem dX10_multiply_49 : decode cX10_multiply 49 = .ok (.aload_n 0, 1) := by decide +kernel
theorem dX10_multiply_50 : decode cX10_multiply 50 = .ok (.getfield 69, 3) := by decide +kernel
theorem dX10_multiply_53 : decode cX10_multiply 53 = .ok (.iconst 2, 1) := by decide +kernel
theorem dX10_multiply_54 : decode cX10_multiply 54 = .ok (.iaload, 1) := by decide +kernel
theorem dX10_multiply_55 : decode cX10_multiply 55 = .ok (.iadd, 1) := by decide +kernel
theorem dX10_multiply_56 : decode cX10_multiply 56 = .ok (.istore 5, 2) := by decide +kernel
theorem dX10_multiply_58 : decode cX10_multiply 58 = .ok (.aload_n 0, 1) := by decide +kernel
theorem dX10_multiply_59 : decode cX10_multiply 59 = .ok (.getfield 69, 3) := by decide +kernel
theorem dX10_multiply_62 : decode cX10_multiply 62 = .ok (.iconst 3, 1) := by decide +kernel
theorem dX10_multiply_63 : decode cX10_multiply 63 = .ok (.iaload, 1) := by decide +kernel
theorem dX10_multiply_64 : decode cX10_multiply 64 = .ok (.aload_n 0, 1) := by decide +kernel
theorem dX10_multiply_65 : decode cX10_multiply 65 = .ok (.getfield 69, 3) := by decide +kernel
theorem dX10_multiply_68 : decode cX10_multiply 68 = .ok (.iconst 4, 1) := by decide +kernel
theorem dX10_multiply_69 : decode cX10_multiply 69 = .ok (.iaload, 1) := by decide +kernel
theorem dX10_multiply_70 : decode cX10_multiply 70 = .ok (.iadd, 1) := by decide +kernel
theorem dX10_multiply_71 : decode cX10_multiply 71 = .ok (.aload_n 0, 1) := by decide +kernel
theorem dX10_multiply_72 : decode cX10_multiply 72 = .ok (.getfield 69, 3) := by decide +kernel
theorem dX10_multiply_75 : decode cX10_multiply 75 = .ok (.iconst 5, 1) := by decide +kernel
theorem dX10_multiply_76 : decode cX10_multiply 76 = .ok (.iaload, 1) := by decide +kernel
theorem dX10_multiply_77 : decode cX10_multiply 77 = .ok (.iadd, 1) := by decide +kernel
theorem dX10_multiply_78 : decode cX10_multiply 78 = .ok (.istore 6, 2) := by decide +kernel
theorem dX10_multiply_80 : decode cX10_multiply 80 = .ok (.aload_n 0, 1) := by decide +kernel
theorem dX10_multiply_81 : decode cX10_multiply 81 = .ok (.getfield 69, 3) := by decide +kernel
theorem dX10_multiply_84 : decode cX10_multiply 84 = .ok (.bipush 8, 2) := by decide +kernel
theorem dX10_multiply_86 : decode cX10_multiply 86 = .ok (.aload_n 0, 1) := by decide +kernel
theorem dX10_multiply_87 : decode cX10_multiply 87 = .ok (.iload 5, 2) := by decide +kernel
theorem dX10_multiply_89 : decode cX10_multiply 89 = .ok (.iload 6, 2) := by decide +kernel
theorem dX10_multiply_91 : decode cX10_multiply 91 = .ok (.imul, 1) := by decide +kernel
theorem dX10_multiply_92 : decode cX10_multiply 92 = .ok (.aload_n 0, 1) := by decide +kernel
theorem dX10_multiply_93 : decode cX10_multiply 93 = .ok (.getfield 69, 3) := by decide +kernel
theorem dX10_multiply_96 : decode cX10_multiply 96 = .ok (.bipush 6, 2) := by decide +kernel
theorem dX10_multiply_98 : decode cX10_multiply 98 = .ok (.iaload, 1) := by decide +kernel
theorem dX10_multiply_99 : decode cX10_multiply 99 = .ok (.isub, 1) := by decide +kernel
theorem dX10_multiply_100 : decode cX10_multiply 100 = .ok (.aload_n 0, 1) := by decide +kernel
theorem dX10_multiply_101 : decode cX10_multiply 101 = .ok (.getfield 69, 3) := by decide +kernel
theorem dX10_multiply_104 : decode cX10_multiply 104 = .ok (.bipush 7, 2) := by decide +kernel
theorem dX10_multiply_106 : decode cX10_multiply 106 = .ok (.iaload, 1) := by decide +kernel
theorem dX10_multiply_107 : decode cX10_multiply 107 = .ok (.isub, 1) := by decide +kernel
theorem dX10_multiply_108 : decode cX10_multiply 108 = .ok (.invokevirtual 206, 3) := by decide +kernel
theorem dX10_multiply_111 : decode cX10_multiply 111 = .ok (.iastore, 1) := by decide +kernel
theorem dX10_multiply_112 : decode cX10_multiply 112 = .ok (.iconst 0, 1) := by decide +kernel
theorem dX10_multiply_113 : decode cX10_multiply 113 = .ok (.istore 7, 2) := by decide +kernel
theorem dX10_multiply_115 : decode cX10_multiply 115 = .ok (.iconst 0, 1) := by decide +kernel
theorem dX10_multiply_116 : decode cX10_multiply 116 = .ok (.istore 8, 2) := by decide +kernel
theorem dX10_multiply_118 : decode cX10_multiply 118 = .ok (.iconst 0, 1) := by decide +kernel
theorem dX10_multiply_119 : decode cX10_multiply 119 = .ok (.istore 9, 2) := by decide +kernel
theorem dX10_multiply_121 : decode cX10_multiply 121 = .ok (.iload 9, 2) := by decide +kernel
theorem dX10_multiply_123 : decode cX10_multiply 123 = .ok (.iconst 3, 1) := by decide +kernel
theorem dX10_multiply_124 : decode cX10_multiply 124 = .ok (.if_icmp .ge 133, 3) := by decide +kernel
theorem dX10_multiply_127 : decode cX10_multiply 127 = .ok (.aload_n 0, 1) := by decide +kernel
theorem dX10_multiply_128 : decode cX10_multiply 128 = .ok (.getfield 66, 3) := by decide +kernel
theorem dX10_multiply_131 : decode cX10_multiply 131 = .ok (.iload 9, 2) := by decide +kernel
theorem dX10_multiply_133 : decode cX10_multiply 133 = .ok (.aload_n 0, 1) := by decide +kernel
theorem dX10_multiply_134 : decode cX10_multiply 134 = .ok (.aload_n 0, 1) := by decide +kernel
theorem dX10_multiply_135 : decode cX10_multiply 135 = .ok (.getfield 54, 3) := by decide +kernel
theorem dX10_multiply_138 : decode cX10_multiply 138 = .ok (.iconst 3, 1) := by decide +kernel
theorem dX10_multiply_139 : decode cX10_multiply 139 = .ok (.aload_n 0, 1) := by decide +kernel
theorem dX10_multiply_140 : decode cX10_multiply 140 = .ok (.getfield 20, 3) := by decide +kernel
theorem dX10_multiply_143 : decode cX10_multiply 143 = .ok (.iload_n 1, 1) := by decide +kernel
theorem dX10_multiply_144 : decode cX10_multiply 144 = .ok (.iaload, 1) := by decide +kernel
theorem dX10_multiply_145 : decode cX10_multiply 145 = .ok (.imul, 1) := by decide +kernel
theorem dX10_multiply_146 : decode cX10_multiply 146 = .ok (.iload 9, 2) := by decide +kernel
theorem dX10_multiply_148 : decode cX10_multiply 148 = .ok (.iadd, 1) := by decide +kernel
theorem dX10_multiply_149 : decode cX10_multiply 149 = .ok (.iaload, 1) := by decide +kernel
theorem dX10_multiply_150 : decode cX10_multiply 150 = .ok (.aload_n 0, 1) := by decide +kernel
theorem dX10_multiply_151 : decode cX10_multiply 151 = .ok (.getfield 69, 3) := by decide +kernel
theorem dX10_multiply_154 : decode cX10_multiply 154 = .ok (.iload 9, 2) := by decide +kernel
theorem dX10_multiply_156 : decode cX10_multiply 156 = .ok (.iaload, 1) := by decide +kernel
theorem dX10_multiply_157 : decode cX10_multiply 157 = .ok (.isub, 1) := by decide +kernel
theorem dX10_multiply_158 : decode cX10_multiply 158 = .ok (.iload_n 3, 1) := by decide +kernel
theorem dX10_multiply_159 : decode cX10_multiply 159 = .ok (.ifCond .eq 13, 3) := by decide +kernel
theorem dX10_multiply_162 : decode cX10_multiply 162 = .ok (.aload_n 0, 1) := by decide +kernel
theorem dX10_multiply_163 : decode cX10_multiply 163 = .ok (.iload_n 1, 1) := by decide +kernel
theorem dX10_multiply_164 : decode cX10_multiply 164 = .ok (.iload 9, 2) := by decide +kernel
theorem dX10_multiply_166 : decode cX10_multiply 166 = .ok (.invokevirtual 219, 3) := by decide +kernel
theorem dX10_multiply_169 : decode cX10_multiply 169 = .ok (.goto 4, 3) := by decide +kernel
theorem dX10_multiply_172 : decode cX10_multiply 172 = .ok (.iconst 0, 1) := by decide +kernel
theorem dX10_multiply_173 : decode cX10_multiply 173 = .ok (.iadd, 1) := by decide +kernel
theorem dX10_multiply_174 : decode cX10_multiply 174 = .ok (.invokevirtual 206, 3) := by decide +kernel
theorem dX10_multiply_177 : decode cX10_multiply 177 = .ok (.iastore, 1) := by decide +kernel
theorem dX10_multiply_178 : decode cX10_multiply 178 = .ok (.aload_n 0, 1) := by decide +kernel
theorem dX10_multiply_179 : decode cX10_multiply 179 = .ok (.getfield 66, 3) := by decide +kernel
theorem dX10_multiply_182 : decode cX10_multiply 182 = .ok (.iconst 3, 1) := by decide +kernel
theorem dX10_multiply_183 : decode cX10_multiply 183 = .ok (.iload 9, 2) := by decide +kernel
theorem dX10_multiply_185 : decode cX10_multiply 185 = .ok (.iadd, 1) := by decide +kernel
theorem dX10_multiply_186 : decode cX10_multiply 186 = .ok (.aload_n 0, 1) := by decide +kernel
theorem dX10_multiply_187 : decode cX10_multiply 187 = .ok (.aload_n 0, 1) := by decide +kernel
theorem dX10_multiply_188 : decode cX10_multiply 188 = .ok (.getfield 54, 3) := by decide +kernel
theorem dX10_multiply_191 : decode cX10_multiply 191 = .ok (.iconst 3, 1) := by decide +kernel
theorem dX10_multiply_192 : decode cX10_multiply 192 = .ok (.aload_n 0, 1) := by decide +kernel
theorem dX10_multiply_193 : decode cX10_multiply 193 = .ok (.getfield 23, 3) := by decide +kernel
theorem dX10_multiply_196 : decode cX10_multiply 196 = .ok (.iload_n 1, 1) := by decide +kernel
theorem dX10_multiply_197 : decode cX10_multiply 197 = .ok (.iaload, 1) := by decide +kernel
theorem dX10_multiply_198 : decode cX10_multiply 198 = .ok (.imul, 1) := by decide +kernel
theorem dX10_multiply_199 : decode cX10_multiply 199 = .ok (.iload 9, 2) := by decide +kernel
theorem dX10_multiply_201 : decode cX10_multiply 201 = .ok (.iadd, 1) := by decide +kernel
theorem dX10_multiply_202 : decode cX10_multiply 202 = .ok (.iaload, 1) := by decide +kernel
theorem dX10_multiply_203 : decode cX10_multiply 203 = .ok (.aload_n 0, 1) := by decide +kernel
theorem dX10_multiply_204 : decode cX10_multiply 204 = .ok (.getfield 69, 3) := by decide +kernel
theorem dX10_multiply_207 : decode cX10_multiply 207 = .ok (.iconst 3, 1) := by decide +kernel
theorem dX10_multiply_208 : decode cX10_multiply 208 = .ok (.iload 9, 2) := by decide +kernel
theorem dX10_multiply_210 : decode cX10_multiply 210 = .ok (.iadd, 1) := by decide +kernel
theorem dX10_multiply_211 : decode cX10_multiply 211 = .ok (.iaload, 1) := by decide +kernel
theorem dX10_multiply_212 : decode cX10_multiply 212 = .ok (.isub, 1) := by decide +kernel
theorem dX10_multiply_213 : decode cX10_multiply 213 = .ok (.invokevirtual 206, 3) := by decide +kernel
theorem dX10_multiply_216 : decode cX10_multiply 216 = .ok (.iastore, 1) := by decide +kernel
theorem dX10_multiply_217 : decode cX10_multiply 217 = .ok (.aload_n 0, 1) := by decide +kernel
theorem dX10_multiply_218 : decode cX10_multiply 218 = .ok (.iload 7, 2) := by decide +kernel
theorem dX10_multiply_220 : decode cX10_multiply 220 = .ok (.aload_n 0, 1) := by decide +kernel
theorem dX10_multiply_221 : decode cX10_multiply 221 = .ok (.getfield 66, 3) := by decide +kernel
theorem dX10_multiply_224 : decode cX10_multiply 224 = .ok (.iload 9, 2) := by decide +kernel
theorem dX10_multiply_226 : decode cX10_multiply 226 = .ok (.iaload, 1) := by decide +kernel
theorem dX10_multiply_227 : decode cX10_multiply 227 = .ok (.iadd, 1) := by decide +kernel
theorem dX10_multiply_228 : decode cX10_multiply 228 = .ok (.invokevirtual 206, 3) := by decide +kernel
theorem dX10_multiply_231 : decode cX10_multiply 231 = .ok (.istore 7, 2) := by decide +kernel
theorem dX10_multiply_233 : decode cX10_multiply 233 = .ok (.aload_n 0, 1) := by decide +kernel
theorem dX10_multiply_234 : decode cX10_multiply 234 = .ok (.iload 8, 2) := by decide +kernel

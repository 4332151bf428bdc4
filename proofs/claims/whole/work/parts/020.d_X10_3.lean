theorem dX10_run_45 : decode cX10_run 45 = .ok (.iconst 3, 1) := by decide +kernel
theorem dX10_run_46 : decode cX10_run 46 = .ok (.aload_n 0, 1) := by decide +kernel
theorem dX10_run_47 : decode cX10_run 47 = .ok (.getfield 23, 3) := by decide +kernel
theorem dX10_run_50 : decode cX10_run 50 = .ok (.iload 6, 2) := by decide +kernel
theorem dX10_run_52 : decode cX10_run 52 = .ok (.iaload, 1) := by decide +kernel
theorem dX10_run_53 : decode cX10_run 53 = .ok (.imul, 1) := by decide +kernel
theorem dX10_run_54 : decode cX10_run 54 = .ok (.istore 9, 2) := by decide +kernel
theorem dX10_run_56 : decode cX10_run 56 = .ok (.aload_n 0, 1) := by decide +kernel
theorem dX10_run_57 : decode cX10_run 57 = .ok (.getfield 13, 3) := by decide +kernel
theorem dX10_run_60 : decode cX10_run 60 = .ok (.iload 6, 2) := by decide +kernel
theorem dX10_run_62 : decode cX10_run 62 = .ok (.iaload, 1) := by decide +kernel
theorem dX10_run_63 : decode cX10_run 63 = .ok (.ifCond .ne 140, 3) := by decide +kernel
theorem dX10_run_66 : decode cX10_run 66 = .ok (.aload_n 0, 1) := by decide +kernel
theorem dX10_run_67 : decode cX10_run 67 = .ok (.getfield 54, 3) := by decide +kernel
theorem dX10_run_70 : decode cX10_run 70 = .ok (.iload 7, 2) := by decide +kernel
theorem dX10_run_72 : decode cX10_run 72 = .ok (.aload_n 0, 1) := by decide +kernel
theorem dX10_run_73 : decode cX10_run 73 = .ok (.aload_n 0, 1) := by decide +kernel
theorem dX10_run_74 : decode cX10_run 74 = .ok (.getfield 60, 3) := by decide +kernel
theorem dX10_run_77 : decode cX10_run 77 = .ok (.iload 4, 2) := by decide +kernel
theorem dX10_run_79 : decode cX10_run 79 = .ok (.iaload, 1) := by decide +kernel
theorem dX10_run_80 : decode cX10_run 80 = .ok (.invokevirtual 206, 3) := by decide +kernel
theorem dX10_run_83 : decode cX10_run 83 = .ok (.iastore, 1) := by decide +kernel
theorem dX10_run_84 : decode cX10_run 84 = .ok (.aload_n 0, 1) := by decide +kernel
theorem dX10_run_85 : decode cX10_run 85 = .ok (.getfield 54, 3) := by decide +kernel
theorem dX10_run_88 : decode cX10_run 88 = .ok (.iload 7, 2) := by decide +kernel
theorem dX10_run_90 : decode cX10_run 90 = .ok (.iconst 1, 1) := by decide +kernel
theorem dX10_run_91 : decode cX10_run 91 = .ok (.iadd, 1) := by decide +kernel
theorem dX10_run_92 : decode cX10_run 92 = .ok (.aload_n 0, 1) := by decide +kernel
theorem dX10_run_93 : decode cX10_run 93 = .ok (.aload_n 0, 1) := by decide +kernel
theorem dX10_run_94 : decode cX10_run 94 = .ok (.getfield 60, 3) := by decide +kernel
theorem dX10_run_97 : decode cX10_run 97 = .ok (.iload 4, 2) := by decide +kernel
theorem dX10_run_99 : decode cX10_run 99 = .ok (.iconst 1, 1) := by decide +kernel
theorem dX10_run_100 : decode cX10_run 100 = .ok (.iadd, 1) := by decide +kernel
theorem dX10_run_101 : decode cX10_run 101 = .ok (.iaload, 1) := by decide +kernel
theorem dX10_run_102 : decode cX10_run 102 = .ok (.invokevirtual 206, 3) := by decide +kernel
theorem dX10_run_105 : decode cX10_run 105 = .ok (.iastore, 1) := by decide +kernel
theorem dX10_run_106 : decode cX10_run 106 = .ok (.aload_n 0, 1) := by decide +kernel
theorem dX10_run_107 : decode cX10_run 107 = .ok (.getfield 54, 3) := by decide +kernel
theorem dX10_run_110 : decode cX10_run 110 = .ok (.iload 7, 2) := by decide +kernel
theorem dX10_run_112 : decode cX10_run 112 = .ok (.iconst 2, 1) := by decide +kernel
theorem dX10_run_113 : decode cX10_run 113 = .ok (.iadd, 1) := by decide +kernel
theorem dX10_run_114 : decode cX10_run 114 = .ok (.aload_n 0, 1) := by decide +kernel
theorem dX10_run_115 : decode cX10_run 115 = .ok (.aload_n 0, 1) := by decide +kernel
theorem dX10_run_116 : decode cX10_run 116 = .ok (.getfield 39, 3) := by decide +kernel
theorem dX10_run_119 : decode cX10_run 119 = .ok (.iconst 4, 1) := by decide +kernel
theorem dX10_run_120 : decode cX10_run 120 = .ok (.iload_n 1, 1) := by decide +kernel
theorem dX10_run_121 : decode cX10_run 121 = .ok (.imul, 1) := by decide +kernel
theorem dX10_run_122 : decode cX10_run 122 = .ok (.iload 5, 2) := by decide +kernel
theorem dX10_run_124 : decode cX10_run 124 = .ok (.iadd, 1) := by decide +kernel
theorem dX10_run_125 : decode cX10_run 125 = .ok (.iaload, 1) := by decide +kernel
theorem dX10_run_126 : decode cX10_run 126 = .ok (.aload_n 0, 1) := by decide +kernel
theorem dX10_run_127 : decode cX10_run 127 = .ok (.getfield 54, 3) := by decide +kernel
theorem dX10_run_130 : decode cX10_run 130 = .ok (.iload 7, 2) := by decide +kernel
theorem dX10_run_132 : decode cX10_run 132 = .ok (.iaload, 1) := by decide +kernel
theorem dX10_run_133 : decode cX10_run 133 = .ok (.isub, 1) := by decide +kernel
theorem dX10_run_134 : decode cX10_run 134 = .ok (.aload_n 0, 1) := by decide +kernel
theorem dX10_run_135 : decode cX10_run 135 = .ok (.getfield 54, 3) := by decide +kernel
theorem dX10_run_138 : decode cX10_run 138 = .ok (.iload 7, 2) := by decide +kernel
theorem dX10_run_140 : decode cX10_run 140 = .ok (.iconst 1, 1) := by decide +kernel
theorem dX10_run_141 : decode cX10_run 141 = .ok (.iadd, 1) := by decide +kernel
theorem dX10_run_142 : decode cX10_run 142 = .ok (.iaload, 1) := by decide +kernel
theorem dX10_run_143 : decode cX10_run 143 = .ok (.isub, 1) := by decide +kernel
theorem dX10_run_144 : decode cX10_run 144 = .ok (.invokevirtual 206, 3) := by decide +kernel
theorem dX10_run_147 : decode cX10_run 147 = .ok (.iastore, 1) := by decide +kernel
theorem dX10_run_148 : decode cX10_run 148 = .ok (.iinc 4 2, 3) := by decide +kernel
theorem dX10_run_151 : decode cX10_run 151 = .ok (.iinc 5 1, 3) := by decide +kernel
theorem dX10_run_154 : decode cX10_run 154 = .ok (.iconst 0, 1) := by decide +kernel
theorem dX10_run_155 : decode cX10_run 155 = .ok (.istore 10, 2) := by decide +kernel
theorem dX10_run_157 : decode cX10_run 157 = .ok (.iload 10, 2) := by decide +kernel
theorem dX10_run_159 : decode cX10_run 159 = .ok (.iconst 3, 1) := by decide +kernel
theorem dX10_run_160 : decode cX10_run 160 = .ok (.if_icmp .ge 40, 3) := by decide +kernel
theorem dX10_run_163 : decode cX10_run 163 = .ok (.aload_n 0, 1) := by decide +kernel
theorem dX10_run_164 : decode cX10_run 164 = .ok (.getfield 26, 3) := by decide +kernel
theorem dX10_run_167 : decode cX10_run 167 = .ok (.iload 6, 2) := by decide +kernel
theorem dX10_run_169 : decode cX10_run 169 = .ok (.iaload, 1) := by decide +kernel
theorem dX10_run_170 : decode cX10_run 170 = .ok (.iload_n 3, 1) := by decide +kernel
theorem dX10_run_171 : decode cX10_run 171 = .ok (.if_icmp .eq 9, 3) := by decide +kernel
theorem dX10_run_174 : decode cX10_run 174 = .ok (.iload 10, 2) := by decide +kernel
theorem dX10_run_176 : decode cX10_run 176 = .ok (.iload_n 3, 1) := by decide +kernel
theorem dX10_run_177 : decode cX10_run 177 = .ok (.if_icmp .ne 17, 3) := by decide +kernel
theorem dX10_run_180 : decode cX10_run 180 = .ok (.aload_n 0, 1) := by decide +kernel
theorem dX10_run_181 : decode cX10_run 181 = .ok (.aload_n 0, 1) := by decide +kernel
theorem dX10_run_182 : decode cX10_run 182 = .ok (.getfield 54, 3) := by decide +kernel
theorem dX10_run_185 : decode cX10_run 185 = .ok (.iload 7, 2) := by decide +kernel
theorem dX10_run_187 : decode cX10_run 187 = .ok (.iload 10, 2) := by decide +kernel
theorem dX10_run_189 : decode cX10_run 189 = .ok (.iadd, 1) := by decide +kernel
theorem dX10_run_190 : decode cX10_run 190 = .ok (.iaload, 1) := by decide +kernel
theorem dX10_run_191 : decode cX10_run 191 = .ok (.invokevirtual 209, 3) := by decide +kernel
theorem dX10_run_194 : decode cX10_run 194 = .ok (.iinc 10 1, 3) := by decide +kernel
theorem dX10_run_197 : decode cX10_run 197 = .ok (.goto (-40), 3) := by decide +kernel
theorem dX10_run_200 : decode cX10_run 200 = .ok (.goto 286, 3) := by decide +kernel
theorem dX10_run_203 : decode cX10_run 203 = .ok (.aload_n 0, 1) := by decide +kernel
theorem dX10_run_204 : decode cX10_run 204 = .ok (.getfield 13, 3) := by decide +kernel
theorem dX10_run_207 : decode cX10_run 207 = .ok (.iload 6, 2) := by decide +kernel
theorem dX10_run_209 : decode cX10_run 209 = .ok (.iaload, 1) := by decide +kernel
theorem dX10_run_210 : decode cX10_run 210 = .ok (.iconst 1, 1) := by decide +kernel
theorem dX10_run_211 : decode cX10_run 211 = .ok (.if_icmp .ne 44, 3) := by decide +kernel
theorem dX10_run_214 : decode cX10_run 214 = .ok (.aload_n 0, 1) := by decide +kernel
theorem dX10_run_215 : decode cX10_run 215 = .ok (.getfield 54, 3) := by decide +kernel
theorem dX10_run_218 : decode cX10_run 218 = .ok (.iload 7, 2) := by decide +kernel
theorem dX10_run_220 : decode cX10_run 220 = .ok (.aload_n 0, 1) := by decide +kernel
theorem dX10_run_221 : decode cX10_run 221 = .ok (.aload_n 0, 1) := by decide +kernel
theorem dX10_run_222 : decode cX10_run 222 = .ok (.getfield 26, 3) := by decide +kernel
theorem dX10_run_225 : decode cX10_run 225 = .ok (.iload 6, 2) := by decide +kernel
theorem dX10_run_227 : decode cX10_run 227 = .ok (.iaload, 1) := by decide +kernel
theorem dX10_run_228 : decode cX10_run 228 = .ok (.invokevirtual 206, 3) := by decide +kernel
theorem dX10_run_231 : decode cX10_run 231 = .ok (.iastore, 1) := by decide +kernel
theorem dX10_run_232 : decode cX10_run 232 = .ok (.aload_n 0, 1) := by decide +kernel
theorem dX10_run_233 : decode cX10_run 233 = .ok (.getfield 54, 3) := by decide +kernel
theorem dX10_run_236 : decode cX10_run 236 = .ok (.iload 7, 2) := by decide +kernel
theorem dX10_run_238 : decode cX10_run 238 = .ok (.iconst 1, 1) := by decide +kernel
theorem dX10_run_239 : decode cX10_run 239 = .ok (.iadd, 1) := by decide +kernel
theorem dX10_run_240 : decode cX10_run 240 = .ok (.iconst 0, 1) := by decide +kernel
theorem dX10_run_241 : decode cX10_run 241 = .ok (.iastore, 1) := by decide +kernel
theorem dX10_run_242 : decode cX10_run 242 = .ok (.aload_n 0, 1) := by decide +kernel
theorem dX10_run_243 : decode cX10_run 243 = .ok (.getfield 54, 3) := by decide +kernel
theorem dX10_run_246 : decode cX10_run 246 = .ok (.iload 7, 2) := by decide +kernel
theorem dX10_run_248 : decode cX10_run 248 = .ok (.iconst 2, 1) := by decide +kernel
theorem dX10_run_249 : decode cX10_run 249 = .ok (.iadd, 1) := by decide +kernel
theorem dX10_run_250 : decode cX10_run 250 = .ok (.iconst 0, 1) := by decide +kernel
theorem dX10_run_251 : decode cX10_run 251 = .ok (.iastore, 1) := by decide +kernel
theorem dX10_run_252 : decode cX10_run 252 = .ok (.goto 234, 3) := by decide +kernel
theorem dX10_run_255 : decode cX10_run 255 = .ok (.aload_n 0, 1) := by decide +kernel
theorem dX10_run_256 : decode cX10_run 256 = .ok (.getfield 13, 3) := by decide +kernel
theorem dX10_run_259 : decode cX10_run 259 = .ok (.iload 6, 2) := by decide +kernel
theorem dX10_run_261 : decode cX10_run 261 = .ok (.iaload, 1) := by decide +kernel
theorem dX10_run_262 : decode cX10_run 262 = .ok (.iconst 2, 1) := by decide +kernel
theorem dX10_run_263 : decode cX10_run 263 = .ok (.if_icmp .eq 14, 3) := by decide +kernel
theorem dX10_run_266 : decode cX10_run 266 = .ok (.aload_n 0, 1) := by decide +kernel
theorem dX10_run_267 : decode cX10_run 267 = .ok (.getfield 13, 3) := by decide +kernel

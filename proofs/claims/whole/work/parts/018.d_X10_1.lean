theorem dX10_init_0 : decode cX10_init 0 = .ok (.aload_n 0, 1) := by decide +kernel
theorem dX10_init_1 : decode cX10_init 1 = .ok (.invokespecial 1, 3) := by decide +kernel
theorem dX10_init_4 : decode cX10_init 4 = .ok (.aload_n 0, 1) := by decide +kernel
theorem dX10_init_5 : decode cX10_init 5 = .ok (.sipush 300, 3) := by decide +kernel
theorem dX10_init_8 : decode cX10_init 8 = .ok (.newarray .byte, 2) := by decide +kernel
theorem dX10_init_10 : decode cX10_init 10 = .ok (.putfield 7, 3) := by decide +kernel
theorem dX10_init_13 : decode cX10_init 13 = .ok (.aload_n 0, 1) := by decide +kernel
theorem dX10_init_14 : decode cX10_init 14 = .ok (.bipush 32, 2) := by decide +kernel
theorem dX10_init_16 : decode cX10_init 16 = .ok (.newarray .int, 2) := by decide +kernel
theorem dX10_init_18 : decode cX10_init 18 = .ok (.putfield 13, 3) := by decide +kernel
theorem dX10_init_21 : decode cX10_init 21 = .ok (.aload_n 0, 1) := by decide +kernel
theorem dX10_init_22 : decode cX10_init 22 = .ok (.bipush 32, 2) := by decide +kernel
theorem dX10_init_24 : decode cX10_init 24 = .ok (.newarray .int, 2) := by decide +kernel
theorem dX10_init_26 : decode cX10_init 26 = .ok (.putfield 17, 3) := by decide +kernel
theorem dX10_init_29 : decode cX10_init 29 = .ok (.aload_n 0, 1) := by decide +kernel
theorem dX10_init_30 : decode cX10_init 30 = .ok (.bipush 32, 2) := by decide +kernel
theorem dX10_init_32 : decode cX10_init 32 = .ok (.newarray .int, 2) := by decide +kernel
theorem dX10_init_34 : decode cX10_init 34 = .ok (.putfield 20, 3) := by decide +kernel
theorem dX10_init_37 : decode cX10_init 37 = .ok (.aload_n 0, 1) := by decide +kernel
theorem dX10_init_38 : decode cX10_init 38 = .ok (.bipush 32, 2) := by decide +kernel
theorem dX10_init_40 : decode cX10_init 40 = .ok (.newarray .int, 2) := by decide +kernel
theorem dX10_init_42 : decode cX10_init 42 = .ok (.putfield 23, 3) := by decide +kernel
theorem dX10_init_45 : decode cX10_init 45 = .ok (.aload_n 0, 1) := by decide +kernel
theorem dX10_init_46 : decode cX10_init 46 = .ok (.bipush 32, 2) := by decide +kernel
theorem dX10_init_48 : decode cX10_init 48 = .ok (.newarray .int, 2) := by decide +kernel
theorem dX10_init_50 : decode cX10_init 50 = .ok (.putfield 26, 3) := by decide +kernel
theorem dX10_init_53 : decode cX10_init 53 = .ok (.aload_n 0, 1) := by decide +kernel
theorem dX10_init_54 : decode cX10_init 54 = .ok (.bipush 16, 2) := by decide +kernel
theorem dX10_init_56 : decode cX10_init 56 = .ok (.newarray .int, 2) := by decide +kernel
theorem dX10_init_58 : decode cX10_init 58 = .ok (.putfield 29, 3) := by decide +kernel
theorem dX10_init_61 : decode cX10_init 61 = .ok (.aload_n 0, 1) := by decide +kernel
theorem dX10_init_62 : decode cX10_init 62 = .ok (.bipush 16, 2) := by decide +kernel
theorem dX10_init_64 : decode cX10_init 64 = .ok (.newarray .int, 2) := by decide +kernel
theorem dX10_init_66 : decode cX10_init 66 = .ok (.putfield 32, 3) := by decide +kernel
theorem dX10_init_69 : decode cX10_init 69 = .ok (.aload_n 0, 1) := by decide +kernel
theorem dX10_init_70 : decode cX10_init 70 = .ok (.iconst 5, 1) := by decide +kernel
theorem dX10_init_71 : decode cX10_init 71 = .ok (.putfield 35, 3) := by decide +kernel
theorem dX10_init_74 : decode cX10_init 74 = .ok (.aload_n 0, 1) := by decide +kernel
theorem dX10_init_75 : decode cX10_init 75 = .ok (.bipush 8, 2) := by decide +kernel
theorem dX10_init_77 : decode cX10_init 77 = .ok (.newarray .int, 2) := by decide +kernel
theorem dX10_init_79 : decode cX10_init 79 = .ok (.putfield 39, 3) := by decide +kernel
theorem dX10_init_82 : decode cX10_init 82 = .ok (.aload_n 0, 1) := by decide +kernel
theorem dX10_init_83 : decode cX10_init 83 = .ok (.bipush 40, 2) := by decide +kernel
theorem dX10_init_85 : decode cX10_init 85 = .ok (.newarray .int, 2) := by decide +kernel
theorem dX10_init_87 : decode cX10_init 87 = .ok (.putfield 42, 3) := by decide +kernel
theorem dX10_init_90 : decode cX10_init 90 = .ok (.aload_n 0, 1) := by decide +kernel
theorem dX10_init_91 : decode cX10_init 91 = .ok (.bipush 6, 2) := by decide +kernel
theorem dX10_init_93 : decode cX10_init 93 = .ok (.newarray .int, 2) := by decide +kernel
theorem dX10_init_95 : decode cX10_init 95 = .ok (.putfield 45, 3) := by decide +kernel
theorem dX10_init_98 : decode cX10_init 98 = .ok (.aload_n 0, 1) := by decide +kernel
theorem dX10_init_99 : decode cX10_init 99 = .ok (.bipush 6, 2) := by decide +kernel
theorem dX10_init_101 : decode cX10_init 101 = .ok (.newarray .int, 2) := by decide +kernel
theorem dX10_init_103 : decode cX10_init 103 = .ok (.putfield 48, 3) := by decide +kernel
theorem dX10_init_106 : decode cX10_init 106 = .ok (.aload_n 0, 1) := by decide +kernel
theorem dX10_init_107 : decode cX10_init 107 = .ok (.bipush 6, 2) := by decide +kernel
theorem dX10_init_109 : decode cX10_init 109 = .ok (.newarray .int, 2) := by decide +kernel
theorem dX10_init_111 : decode cX10_init 111 = .ok (.putfield 51, 3) := by decide +kernel
theorem dX10_init_114 : decode cX10_init 114 = .ok (.aload_n 0, 1) := by decide +kernel
theorem dX10_init_115 : decode cX10_init 115 = .ok (.bipush 48, 2) := by decide +kernel
theorem dX10_init_117 : decode cX10_init 117 = .ok (.newarray .int, 2) := by decide +kernel
theorem dX10_init_119 : decode cX10_init 119 = .ok (.putfield 54, 3) := by decide +kernel
theorem dX10_init_122 : decode cX10_init 122 = .ok (.aload_n 0, 1) := by decide +kernel
theorem dX10_init_123 : decode cX10_init 123 = .ok (.bipush 48, 2) := by decide +kernel
theorem dX10_init_125 : decode cX10_init 125 = .ok (.newarray .int, 2) := by decide +kernel
theorem dX10_init_127 : decode cX10_init 127 = .ok (.putfield 57, 3) := by decide +kernel
theorem dX10_init_130 : decode cX10_init 130 = .ok (.aload_n 0, 1) := by decide +kernel
theorem dX10_init_131 : decode cX10_init 131 = .ok (.bipush 40, 2) := by decide +kernel
theorem dX10_init_133 : decode cX10_init 133 = .ok (.newarray .int, 2) := by decide +kernel
theorem dX10_init_135 : decode cX10_init 135 = .ok (.putfield 60, 3) := by decide +kernel
theorem dX10_init_138 : decode cX10_init 138 = .ok (.aload_n 0, 1) := by decide +kernel
theorem dX10_init_139 : decode cX10_init 139 = .ok (.bipush 80, 2) := by decide +kernel
theorem dX10_init_141 : decode cX10_init 141 = .ok (.newarray .int, 2) := by decide +kernel
theorem dX10_init_143 : decode cX10_init 143 = .ok (.putfield 63, 3) := by decide +kernel
theorem dX10_init_146 : decode cX10_init 146 = .ok (.aload_n 0, 1) := by decide +kernel
theorem dX10_init_147 : decode cX10_init 147 = .ok (.bipush 6, 2) := by decide +kernel
theorem dX10_init_149 : decode cX10_init 149 = .ok (.newarray .int, 2) := by decide +kernel
theorem dX10_init_151 : decode cX10_init 151 = .ok (.putfield 66, 3) := by decide +kernel
theorem dX10_init_154 : decode cX10_init 154 = .ok (.aload_n 0, 1) := by decide +kernel
theorem dX10_init_155 : decode cX10_init 155 = .ok (.bipush 9, 2) := by decide +kernel
theorem dX10_init_157 : decode cX10_init 157 = .ok (.newarray .int, 2) := by decide +kernel
theorem dX10_init_159 : decode cX10_init 159 = .ok (.putfield 69, 3) := by decide +kernel
theorem dX10_init_162 : decode cX10_init 162 = .ok (.aload_n 0, 1) := by decide +kernel
theorem dX10_init_163 : decode cX10_init 163 = .ok (.sipush 8192, 3) := by decide +kernel
theorem dX10_init_166 : decode cX10_init 166 = .ok (.newarray .long, 2) := by decide +kernel
theorem dX10_init_168 : decode cX10_init 168 = .ok (.putfield 72, 3) := by decide +kernel
theorem dX10_init_171 : decode cX10_init 171 = .ok (.aload_n 0, 1) := by decide +kernel
theorem dX10_init_172 : decode cX10_init 172 = .ok (.bipush 16, 2) := by decide +kernel
theorem dX10_init_174 : decode cX10_init 174 = .ok (.newarray .int, 2) := by decide +kernel
theorem dX10_init_176 : decode cX10_init 176 = .ok (.putfield 76, 3) := by decide +kernel
theorem dX10_init_179 : decode cX10_init 179 = .ok (.aload_n 0, 1) := by decide +kernel
theorem dX10_init_180 : decode cX10_init 180 = .ok (.iconst 4, 1) := by decide +kernel
theorem dX10_init_181 : decode cX10_init 181 = .ok (.newarray .int, 2) := by decide +kernel
theorem dX10_init_183 : decode cX10_init 183 = .ok (.putfield 79, 3) := by decide +kernel
theorem dX10_init_186 : decode cX10_init 186 = .ok (.aload_n 0, 1) := by decide +kernel
theorem dX10_init_187 : decode cX10_init 187 = .ok (.iconst 3, 1) := by decide +kernel
theorem dX10_init_188 : decode cX10_init 188 = .ok (.newarray .int, 2) := by decide +kernel
theorem dX10_init_190 : decode cX10_init 190 = .ok (.dup, 1) := by decide +kernel
theorem dX10_init_191 : decode cX10_init 191 = .ok (.iconst 0, 1) := by decide +kernel
theorem dX10_init_192 : decode cX10_init 192 = .ok (.bipush 10, 2) := by decide +kernel
theorem dX10_init_194 : decode cX10_init 194 = .ok (.iastore, 1) := by decide +kernel
theorem dX10_init_195 : decode cX10_init 195 = .ok (.dup, 1) := by decide +kernel
theorem dX10_init_196 : decode cX10_init 196 = .ok (.iconst 1, 1) := by decide +kernel
theorem dX10_init_197 : decode cX10_init 197 = .ok (.iconst 4, 1) := by decide +kernel
theorem dX10_init_198 : decode cX10_init 198 = .ok (.iastore, 1) := by decide +kernel
theorem dX10_init_199 : decode cX10_init 199 = .ok (.dup, 1) := by decide +kernel
theorem dX10_init_200 : decode cX10_init 200 = .ok (.iconst 2, 1) := by decide +kernel
theorem dX10_init_201 : decode cX10_init 201 = .ok (.bipush 20, 2) := by decide +kernel
theorem dX10_init_203 : decode cX10_init 203 = .ok (.iastore, 1) := by decide +kernel
theorem dX10_init_204 : decode cX10_init 204 = .ok (.putfield 82, 3) := by decide +kernel
theorem dX10_init_207 : decode cX10_init 207 = .ok (.aload_n 0, 1) := by decide +kernel
theorem dX10_init_208 : decode cX10_init 208 = .ok (.bipush 7, 2) := by decide +kernel
theorem dX10_init_210 : decode cX10_init 210 = .ok (.putfield 85, 3) := by decide +kernel
theorem dX10_init_213 : decode cX10_init 213 = .ok (.aload_n 0, 1) := by decide +kernel
theorem dX10_init_214 : decode cX10_init 214 = .ok (.iconst 1, 1) := by decide +kernel
theorem dX10_init_215 : decode cX10_init 215 = .ok (.putfield 88, 3) := by decide +kernel
theorem dX10_init_218 : decode cX10_init 218 = .ok (.aload_n 0, 1) := by decide +kernel
theorem dX10_init_219 : decode cX10_init 219 = .ok (.iconst 5, 1) := by decide +kernel
theorem dX10_init_220 : decode cX10_init 220 = .ok (.putfield 91, 3) := by decide +kernel
theorem dX10_init_223 : decode cX10_init 223 = .ok (.aload_n 0, 1) := by decide +kernel
theorem dX10_init_224 : decode cX10_init 224 = .ok (.iconst 3, 1) := by decide +kernel
theorem dX10_init_225 : decode cX10_init 225 = .ok (.newarray .int, 2) := by decide +kernel
theorem dX10_init_227 : decode cX10_init 227 = .ok (.putfield 94, 3) := by decide +kernel
theorem dX10_init_230 : decode cX10_init 230 = .ok (.aload_n 0, 1) := by decide +kernel
theorem dX10_init_231 : decode cX10_init 231 = .ok (.bipush 6, 2) := by decide +kernel
theorem dX10_init_233 : decode cX10_init 233 = .ok (.newarray .int, 2) := by decide +kernel
theorem dX10_init_235 : decode cX10_init 235 = .ok (.putfield 97, 3) := by decide +kernel
theorem dX10_init_238 : decode cX10_init 238 = .ok (.aload_n 0, 1) := by decide +kernel
theorem dX10_init_239 : decode cX10_init 239 = .ok (.bipush 30, 2) := by decide +kernel
theorem dX10_init_241 : decode cX10_init 241 = .ok (.newarray .int, 2) := by decide +kernel
theorem dX10_init_243 : decode cX10_init 243 = .ok (.putfield 100, 3) := by decide +kernel
theorem dX10_init_246 : decode cX10_init 246 = .ok (.aload_n 0, 1) := by decide +kernel
theorem dX10_init_247 : decode cX10_init 247 = .ok (.bipush 30, 2) := by decide +kernel
theorem dX10_init_249 : decode cX10_init 249 = .ok (.newarray .int, 2) := by decide +kernel
theorem dX10_init_251 : decode cX10_init 251 = .ok (.putfield 103, 3) := by decide +kernel
theorem dX10_init_254 : decode cX10_init 254 = .ok (.aload_n 0, 1) := by decide +kernel
theorem dX10_init_255 : decode cX10_init 255 = .ok (.bipush 30, 2) := by decide +kernel
theorem dX10_init_257 : decode cX10_init 257 = .ok (.newarray .int, 2) := by decide +kernel
theorem dX10_init_259 : decode cX10_init 259 = .ok (.putfield 106, 3) := by decide +kernel
theorem dX10_init_262 : decode cX10_init 262 = .ok (.aload_n 0, 1) := by decide +kernel
theorem dX10_init_263 : decode cX10_init 263 = .ok (.bipush 6, 2) := by decide +kernel
theorem dX10_init_265 : decode cX10_init 265 = .ok (.newarray .int, 2) := by decide +kernel
theorem dX10_init_267 : decode cX10_init 267 = .ok (.putfield 109, 3) := by decide +kernel
theorem dX10_init_270 : decode cX10_init 270 = .ok (.aload_n 0, 1) := by decide +kernel
theorem dX10_init_271 : decode cX10_init 271 = .ok (.iconst 2, 1) := by decide +kernel
theorem dX10_init_272 : decode cX10_init 272 = .ok (.putfield 112, 3) := by decide +kernel
theorem dX10_init_275 : decode cX10_init 275 = .ok (.aload_n 0, 1) := by decide +kernel
theorem dX10_init_276 : decode cX10_init 276 = .ok (.getfield 13, 3) := by decide +kernel
theorem dX10_init_279 : decode cX10_init 279 = .ok (.iconst 0, 1) := by decide +kernel
theorem dX10_init_280 : decode cX10_init 280 = .ok (.iconst 1, 1) := by decide +kernel
theorem dX10_init_281 : decode cX10_init 281 = .ok (.iastore, 1) := by decide +kernel
theorem dX10_init_282 : decode cX10_init 282 = .ok (.aload_n 0, 1) := by decide +kernel
theorem dX10_init_283 : decode cX10_init 283 = .ok (.getfield 17, 3) := by decide +kernel
theorem dX10_init_286 : decode cX10_init 286 = .ok (.iconst 0, 1) := by decide +kernel
theorem dX10_init_287 : decode cX10_init 287 = .ok (.iconst 0, 1) := by decide +kernel
theorem dX10_init_288 : decode cX10_init 288 = .ok (.iastore, 1) := by decide +kernel
theorem dX10_init_289 : decode cX10_init 289 = .ok (.aload_n 0, 1) := by decide +kernel
theorem dX10_init_290 : decode cX10_init 290 = .ok (.getfield 20, 3) := by decide +kernel
theorem dX10_init_293 : decode cX10_init 293 = .ok (.iconst 0, 1) := by decide +kernel
theorem dX10_init_294 : decode cX10_init 294 = .ok (.bipush (-9), 2) := by decide +kernel
theorem dX10_init_296 : decode cX10_init 296 = .ok (.iastore, 1) := by decide +kernel
theorem dX10_init_297 : decode cX10_init 297 = .ok (.aload_n 0, 1) := by decide +kernel
theorem dX10_init_298 : decode cX10_init 298 = .ok (.getfield 23, 3) := by decide +kernel
theorem dX10_init_301 : decode cX10_init 301 = .ok (.iconst 0, 1) := by decide +kernel
theorem dX10_init_302 : decode cX10_init 302 = .ok (.bipush (-9), 2) := by decide +kernel
theorem dX10_init_304 : decode cX10_init 304 = .ok (.iastore, 1) := by decide +kernel
theorem dX10_init_305 : decode cX10_init 305 = .ok (.aload_n 0, 1) := by decide +kernel
theorem dX10_init_306 : decode cX10_init 306 = .ok (.getfield 26, 3) := by decide +kernel
theorem dX10_init_309 : decode cX10_init 309 = .ok (.iconst 0, 1) := by decide +kernel
theorem dX10_init_310 : decode cX10_init 310 = .ok (.iconst 0, 1) := by decide +kernel
theorem dX10_init_311 : decode cX10_init 311 = .ok (.iastore, 1) := by decide +kernel
theorem dX10_init_312 : decode cX10_init 312 = .ok (.aload_n 0, 1) := by decide +kernel
theorem dX10_init_313 : decode cX10_init 313 = .ok (.getfield 13, 3) := by decide +kernel
theorem dX10_init_316 : decode cX10_init 316 = .ok (.iconst 1, 1) := by decide +kernel
theorem dX10_init_317 : decode cX10_init 317 = .ok (.iconst 5, 1) := by decide +kernel
theorem dX10_init_318 : decode cX10_init 318 = .ok (.iastore, 1) := by decide +kernel
theorem dX10_init_319 : decode cX10_init 319 = .ok (.aload_n 0, 1) := by decide +kernel
theorem dX10_init_320 : decode cX10_init 320 = .ok (.getfield 17, 3) := by decide +kernel
theorem dX10_init_323 : decode cX10_init 323 = .ok (.iconst 1, 1) := by decide +kernel
theorem dX10_init_324 : decode cX10_init 324 = .ok (.iconst 0, 1) := by decide +kernel
theorem dX10_init_325 : decode cX10_init 325 = .ok (.iastore, 1) := by decide +kernel
theorem dX10_init_326 : decode cX10_init 326 = .ok (.aload_n 0, 1) := by decide +kernel
theorem dX10_init_327 : decode cX10_init 327 = .ok (.getfield 20, 3) := by decide +kernel
theorem dX10_init_330 : decode cX10_init 330 = .ok (.iconst 1, 1) := by decide +kernel
theorem dX10_init_331 : decode cX10_init 331 = .ok (.bipush (-9), 2) := by decide +kernel
theorem dX10_init_333 : decode cX10_init 333 = .ok (.iastore, 1) := by decide +kernel
theorem dX10_init_334 : decode cX10_init 334 = .ok (.aload_n 0, 1) := by decide +kernel
theorem dX10_init_335 : decode cX10_init 335 = .ok (.getfield 23, 3) := by decide +kernel
theorem dX10_init_338 : decode cX10_init 338 = .ok (.iconst 1, 1) := by decide +kernel
theorem dX10_init_339 : decode cX10_init 339 = .ok (.bipush (-9), 2) := by decide +kernel
theorem dX10_init_341 : decode cX10_init 341 = .ok (.iastore, 1) := by decide +kernel
theorem dX10_init_342 : decode cX10_init 342 = .ok (.aload_n 0, 1) := by decide +kernel
theorem dX10_init_343 : decode cX10_init 343 = .ok (.getfield 26, 3) := by decide +kernel
theorem dX10_init_346 : decode cX10_init 346 = .ok (.iconst 1, 1) := by decide +kernel
theorem dX10_init_347 : decode cX10_init 347 = .ok (.bipush (-9), 2) := by decide +kernel
theorem dX10_init_349 : decode cX10_init 349 = .ok (.iastore, 1) := by decide +kernel
theorem dX10_init_350 : decode cX10_init 350 = .ok (.return_, 1) := by decide +kernel
theorem dX10_in_0 : decode cX10_in 0 = .ok (.lload_n 0, 1) := by decide +kernel
theorem dX10_in_1 : decode cX10_in 1 = .ok (.lload_n 2, 1) := by decide +kernel
theorem dX10_in_2 : decode cX10_in 2 = .ok (.lcmp, 1) := by decide +kernel
theorem dX10_in_3 : decode cX10_in 3 = .ok (.ifCond .lt 14, 3) := by decide +kernel
theorem dX10_in_6 : decode cX10_in 6 = .ok (.lload_n 0, 1) := by decide +kernel
theorem dX10_in_7 : decode cX10_in 7 = .ok (.lload 4, 2) := by decide +kernel
theorem dX10_in_9 : decode cX10_in 9 = .ok (.lcmp, 1) := by decide +kernel
theorem dX10_in_10 : decode cX10_in 10 = .ok (.ifCond .gt 7, 3) := by decide +kernel
theorem dX10_in_13 : decode cX10_in 13 = .ok (.iconst 1, 1) := by decide +kernel
theorem dX10_in_14 : decode cX10_in 14 = .ok (.goto 4, 3) := by decide +kernel
theorem dX10_in_17 : decode cX10_in 17 = .ok (.iconst 0, 1) := by decide +kernel
theorem dX10_in_18 : decode cX10_in 18 = .ok (.ireturn, 1) := by decide +kernel
set_option maxRecDepth 20000 in
theorem ggX10_type_X10_in : GoodIn wsX10_type wsX10_in := goodIn_r _ [8] rfl (by decide +kernel)
set_option maxRecDepth 20000 in
theorem gX10_type_X10_in : GoodIn wsX10_type (va_wsS RX10 117 yX10_in wsX10_in) := goodIn_app (goodIn_of _ (by decide +kernel)) ggX10_type_X10_in
theorem dX10_type_0 : decode cX10_type 0 = .ok (.iload_n 3, 1) := by decide +kernel
theorem dX10_type_1 : decode cX10_type 1 = .ok (.i2l, 1) := by decide +kernel
theorem dX10_type_2 : decode cX10_type 2 = .ok (.lconst 1, 1) := by decide +kernel
theorem dX10_type_3 : decode cX10_type 3 = .ok (.ldc2_w 115, 3) := by decide +kernel
theorem dX10_type_6 : decode cX10_type 6 = .ok (.invokestatic 117, 3) := by decide +kernel
theorem dX10_type_9 : decode cX10_type 9 = .ok (.ifCond .ne 5, 3) := by decide +kernel
theorem dX10_type_12 : decode cX10_type 12 = .ok (.iconst (-1), 1) := by decide +kernel
theorem dX10_type_13 : decode cX10_type 13 = .ok (.ireturn, 1) := by decide +kernel
theorem dX10_type_14 : decode cX10_type 14 = .ok (.aload_n 0, 1) := by decide +kernel
theorem dX10_type_15 : decode cX10_type 15 = .ok (.getfield 121, 3) := by decide +kernel
theorem dX10_type_18 : decode cX10_type 18 = .ok (.iload_n 3, 1) := by decide +kernel
theorem dX10_type_19 : decode cX10_type 19 = .ok (.iadd, 1) := by decide +kernel
theorem dX10_type_20 : decode cX10_type 20 = .ok (.sipush 300, 3) := by decide +kernel
theorem dX10_type_23 : decode cX10_type 23 = .ok (.if_icmp .le 6, 3) := by decide +kernel
theorem dX10_type_26 : decode cX10_type 26 = .ok (.bipush (-3), 2) := by decide +kernel
theorem dX10_type_28 : decode cX10_type 28 = .ok (.ireturn, 1) := by decide +kernel
theorem dX10_type_29 : decode cX10_type 29 = .ok (.iload_n 3, 1) := by decide +kernel
theorem dX10_type_30 : decode cX10_type 30 = .ok (.iconst 1, 1) := by decide +kernel
theorem dX10_type_31 : decode cX10_type 31 = .ok (.isub, 1) := by decide +kernel
theorem dX10_type_32 : decode cX10_type 32 = .ok (.istore 4, 2) := by decide +kernel
theorem dX10_type_34 : decode cX10_type 34 = .ok (.iload 4, 2) := by decide +kernel
theorem dX10_type_36 : decode cX10_type 36 = .ok (.ifCond .lt 41, 3) := by decide +kernel
theorem dX10_type_39 : decode cX10_type 39 = .ok (.aload_n 0, 1) := by decide +kernel
theorem dX10_type_40 : decode cX10_type 40 = .ok (.getfield 7, 3) := by decide +kernel
theorem dX10_type_43 : decode cX10_type 43 = .ok (.aload_n 0, 1) := by decide +kernel
theorem dX10_type_44 : decode cX10_type 44 = .ok (.getfield 121, 3) := by decide +kernel
theorem dX10_type_47 : decode cX10_type 47 = .ok (.lload_n 1, 1) := by decide +kernel
theorem dX10_type_48 : decode cX10_type 48 = .ok (.bipush 8, 2) := by decide +kernel
theorem dX10_type_50 : decode cX10_type 50 = .ok (.iload 4, 2) := by decide +kernel
theorem dX10_type_52 : decode cX10_type 52 = .ok (.imul, 1) := by decide +kernel
theorem dX10_type_53 : decode cX10_type 53 = .ok (.lshr, 1) := by decide +kernel
theorem dX10_type_54 : decode cX10_type 54 = .ok (.ldc2_w 124, 3) := by decide +kernel
theorem dX10_type_57 : decode cX10_type 57 = .ok (.land, 1) := by decide +kernel
theorem dX10_type_58 : decode cX10_type 58 = .ok (.l2i, 1) := by decide +kernel
theorem dX10_type_59 : decode cX10_type 59 = .ok (.i2b, 1) := by decide +kernel
theorem dX10_type_60 : decode cX10_type 60 = .ok (.bastore, 1) := by decide +kernel
theorem dX10_type_61 : decode cX10_type 61 = .ok (.aload_n 0, 1) := by decide +kernel
theorem dX10_type_62 : decode cX10_type 62 = .ok (.dup, 1) := by decide +kernel
theorem dX10_type_63 : decode cX10_type 63 = .ok (.getfield 121, 3) := by decide +kernel
theorem dX10_type_66 : decode cX10_type 66 = .ok (.iconst 1, 1) := by decide +kernel
theorem dX10_type_67 : decode cX10_type 67 = .ok (.iadd, 1) := by decide +kernel
theorem dX10_type_68 : decode cX10_type 68 = .ok (.putfield 121, 3) := by decide +kernel
theorem dX10_type_71 : decode cX10_type 71 = .ok (.iinc 4 (-1), 3) := by decide +kernel
theorem dX10_type_74 : decode cX10_type 74 = .ok (.goto (-40), 3) := by decide +kernel
theorem dX10_type_77 : decode cX10_type 77 = .ok (.aload_n 0, 1) := by decide +kernel
theorem dX10_type_78 : decode cX10_type 78 = .ok (.getfield 121, 3) := by decide +kernel
theorem dX10_type_81 : decode cX10_type 81 = .ok (.ireturn, 1) := by decide +kernel
theorem dX10_clear_0 : decode cX10_clear 0 = .ok (.aload_n 0, 1) := by decide +kernel
theorem dX10_clear_1 : decode cX10_clear 1 = .ok (.getfield 121, 3) := by decide +kernel
theorem dX10_clear_4 : decode cX10_clear 4 = .ok (.istore_n 1, 1) := by decide +kernel
theorem dX10_clear_5 : decode cX10_clear 5 = .ok (.aload_n 0, 1) := by decide +kernel
theorem dX10_clear_6 : decode cX10_clear 6 = .ok (.iconst 0, 1) := by decide +kernel
theorem dX10_clear_7 : decode cX10_clear 7 = .ok (.putfield 121, 3) := by decide +kernel
theorem dX10_clear_10 : decode cX10_clear 10 = .ok (.iload_n 1, 1) := by decide +kernel
theorem dX10_clear_11 : decode cX10_clear 11 = .ok (.ireturn, 1) := by decide +kernel
theorem dX10_here_0 : decode cX10_here 0 = .ok (.aload_n 0, 1) := by decide +kernel
theorem dX10_here_1 : decode cX10_here 1 = .ok (.getfield 126, 3) := by decide +kernel
theorem dX10_here_4 : decode cX10_here 4 = .ok (.aload_n 0, 1) := by decide +kernel
theorem dX10_here_5 : decode cX10_here 5 = .ok (.getfield 121, 3) := by decide +kernel
theorem dX10_here_8 : decode cX10_here 8 = .ok (.if_icmp .ge 19, 3) := by decide +kernel
theorem dX10_here_11 : decode cX10_here 11 = .ok (.aload_n 0, 1) := by decide +kernel
theorem dX10_here_12 : decode cX10_here 12 = .ok (.getfield 7, 3) := by decide +kernel
theorem dX10_here_15 : decode cX10_here 15 = .ok (.aload_n 0, 1) := by decide +kernel
theorem dX10_here_16 : decode cX10_here 16 = .ok (.getfield 126, 3) := by decide +kernel
theorem dX10_here_19 : decode cX10_here 19 = .ok (.baload, 1) := by decide +kernel
theorem dX10_here_20 : decode cX10_here 20 = .ok (.sipush 255, 3) := by decide +kernel
theorem dX10_here_23 : decode cX10_here 23 = .ok (.iand, 1) := by decide +kernel
theorem dX10_here_24 : decode cX10_here 24 = .ok (.goto 4, 3) := by decide +kernel
theorem dX10_here_27 : decode cX10_here 27 = .ok (.iconst (-1), 1) := by decide +kernel
theorem dX10_here_28 : decode cX10_here 28 = .ok (.ireturn, 1) := by decide +kernel
theorem dX10_isSpelled_0 : decode cX10_isSpelled 0 = .ok (.aload_n 0, 1) := by decide +kernel
theorem dX10_isSpelled_1 : decode cX10_isSpelled 1 = .ok (.getfield 126, 3) := by decide +kernel
theorem dX10_isSpelled_4 : decode cX10_isSpelled 4 = .ok (.aload_n 0, 1) := by decide +kernel
theorem dX10_isSpelled_5 : decode cX10_isSpelled 5 = .ok (.getfield 129, 3) := by decide +kernel
theorem dX10_isSpelled_8 : decode cX10_isSpelled 8 = .ok (.isub, 1) := by decide +kernel
theorem dX10_isSpelled_9 : decode cX10_isSpelled 9 = .ok (.iload_n 1, 1) := by decide +kernel
theorem dX10_isSpelled_10 : decode cX10_isSpelled 10 = .ok (.if_icmp .ne 56, 3) := by decide +kernel
theorem dX10_isSpelled_13 : decode cX10_isSpelled 13 = .ok (.aload_n 0, 1) := by decide +kernel
theorem dX10_isSpelled_14 : decode cX10_isSpelled 14 = .ok (.getfield 7, 3) := by decide +kernel
theorem dX10_isSpelled_17 : decode cX10_isSpelled 17 = .ok (.aload_n 0, 1) := by decide +kernel
theorem dX10_isSpelled_18 : decode cX10_isSpelled 18 = .ok (.getfield 129, 3) := by decide +kernel
theorem dX10_isSpelled_21 : decode cX10_isSpelled 21 = .ok (.baload, 1) := by decide +kernel
theorem dX10_isSpelled_22 : decode cX10_isSpelled 22 = .ok (.iload_n 2, 1) := by decide +kernel
theorem dX10_isSpelled_23 : decode cX10_isSpelled 23 = .ok (.if_icmp .ne 43, 3) := by decide +kernel
theorem dX10_isSpelled_26 : decode cX10_isSpelled 26 = .ok (.aload_n 0, 1) := by decide +kernel
theorem dX10_isSpelled_27 : decode cX10_isSpelled 27 = .ok (.getfield 7, 3) := by decide +kernel
theorem dX10_isSpelled_30 : decode cX10_isSpelled 30 = .ok (.aload_n 0, 1) := by decide +kernel
theorem dX10_isSpelled_31 : decode cX10_isSpelled 31 = .ok (.getfield 129, 3) := by decide +kernel
theorem dX10_isSpelled_34 : decode cX10_isSpelled 34 = .ok (.iconst 1, 1) := by decide +kernel
theorem dX10_isSpelled_35 : decode cX10_isSpelled 35 = .ok (.iadd, 1) := by decide +kernel
theorem dX10_isSpelled_36 : decode cX10_isSpelled 36 = .ok (.baload, 1) := by decide +kernel
theorem dX10_isSpelled_37 : decode cX10_isSpelled 37 = .ok (.iload_n 3, 1) := by decide +kernel
theorem dX10_isSpelled_38 : decode cX10_isSpelled 38 = .ok (.if_icmp .ne 28, 3) := by decide +kernel
theorem dX10_isSpelled_41 : decode cX10_isSpelled 41 = .ok (.iload_n 1, 1) := by decide +kernel
theorem dX10_isSpelled_42 : decode cX10_isSpelled 42 = .ok (.iconst 3, 1) := by decide +kernel
theorem dX10_isSpelled_43 : decode cX10_isSpelled 43 = .ok (.if_icmp .lt 19, 3) := by decide +kernel
theorem dX10_isSpelled_46 : decode cX10_isSpelled 46 = .ok (.aload_n 0, 1) := by decide +kernel
theorem dX10_isSpelled_47 : decode cX10_isSpelled 47 = .ok (.getfield 7, 3) := by decide +kernel
theorem dX10_isSpelled_50 : decode cX10_isSpelled 50 = .ok (.aload_n 0, 1) := by decide +kernel
theorem dX10_isSpelled_51 : decode cX10_isSpelled 51 = .ok (.getfield 129, 3) := by decide +kernel
theorem dX10_isSpelled_54 : decode cX10_isSpelled 54 = .ok (.iconst 2, 1) := by decide +kernel
theorem dX10_isSpelled_55 : decode cX10_isSpelled 55 = .ok (.iadd, 1) := by decide +kernel
theorem dX10_isSpelled_56 : decode cX10_isSpelled 56 = .ok (.baload, 1) := by decide +kernel
theorem dX10_isSpelled_57 : decode cX10_isSpelled 57 = .ok (.iload 4, 2) := by decide +kernel
theorem dX10_isSpelled_59 : decode cX10_isSpelled 59 = .ok (.if_icmp .ne 7, 3) := by decide +kernel
theorem dX10_isSpelled_62 : decode cX10_isSpelled 62 = .ok (.iconst 1, 1) := by decide +kernel
theorem dX10_isSpelled_63 : decode cX10_isSpelled 63 = .ok (.goto 4, 3) := by decide +kernel
theorem dX10_isSpelled_66 : decode cX10_isSpelled 66 = .ok (.iconst 0, 1) := by decide +kernel
theorem dX10_isSpelled_67 : decode cX10_isSpelled 67 = .ok (.ireturn, 1) := by decide +kernel
set_option maxRecDepth 20000 in
theorem ggX10_word_X10_isSpelled : GoodIn wsX10_word wsX10_isSpelled := goodIn_r _ [5, 6, 7, 8, 9, 10, 11, 12, 13, 14, 15, 16, 17, 18, 19, 20, 21, 22, 23, 24, 25, 26, 27, 28, 29, 30, 31, 32, 33, 34, 35, 36, 37, 38, 39, 40, 41, 42, 43, 44, 45, 46, 47, 48, 49, 50, 51, 52, 53, 54, 55] rfl (by decide +kernel)
set_option maxRecDepth 20000 in
theorem gX10_word_X10_isSpelled : GoodIn wsX10_word (wsV RX10 132 RX10 yX10_isSpelled wsX10_isSpelled) := goodIn_app (goodIn_of _ (by decide +kernel)) ggX10_word_X10_isSpelled
theorem dX10_word_0 : decode cX10_word 0 = .ok (.bipush (-9), 2) := by decide +kernel
theorem dX10_word_2 : decode cX10_word 2 = .ok (.istore_n 1, 1) := by decide +kernel
theorem dX10_word_3 : decode cX10_word 3 = .ok (.aload_n 0, 1) := by decide +kernel
theorem dX10_word_4 : decode cX10_word 4 = .ok (.iconst 2, 1) := by decide +kernel
theorem dX10_word_5 : decode cX10_word 5 = .ok (.bipush 105, 2) := by decide +kernel
theorem dX10_word_7 : decode cX10_word 7 = .ok (.bipush 110, 2) := by decide +kernel
theorem dX10_word_9 : decode cX10_word 9 = .ok (.iconst 0, 1) := by decide +kernel
theorem dX10_word_10 : decode cX10_word 10 = .ok (.invokevirtual 132, 3) := by decide +kernel
theorem dX10_word_13 : decode cX10_word 13 = .ok (.ifCond .eq 7, 3) := by decide +kernel
theorem dX10_word_16 : decode cX10_word 16 = .ok (.iconst 0, 1) := by decide +kernel
theorem dX10_word_17 : decode cX10_word 17 = .ok (.goto 4, 3) := by decide +kernel
theorem dX10_word_20 : decode cX10_word 20 = .ok (.iload_n 1, 1) := by decide +kernel
theorem dX10_word_21 : decode cX10_word 21 = .ok (.istore_n 1, 1) := by decide +kernel
theorem dX10_word_22 : decode cX10_word 22 = .ok (.aload_n 0, 1) := by decide +kernel
theorem dX10_word_23 : decode cX10_word 23 = .ok (.iconst 3, 1) := by decide +kernel
theorem dX10_word_24 : decode cX10_word 24 = .ok (.bipush 99, 2) := by decide +kernel
theorem dX10_word_26 : decode cX10_word 26 = .ok (.bipush 111, 2) := by decide +kernel
theorem dX10_word_28 : decode cX10_word 28 = .ok (.bipush 110, 2) := by decide +kernel
theorem dX10_word_30 : decode cX10_word 30 = .ok (.invokevirtual 132, 3) := by decide +kernel
theorem dX10_word_33 : decode cX10_word 33 = .ok (.ifCond .eq 7, 3) := by decide +kernel
theorem dX10_word_36 : decode cX10_word 36 = .ok (.iconst 1, 1) := by decide +kernel
theorem dX10_word_37 : decode cX10_word 37 = .ok (.goto 4, 3) := by decide +kernel
theorem dX10_word_40 : decode cX10_word 40 = .ok (.iload_n 1, 1) := by decide +kernel
theorem dX10_word_41 : decode cX10_word 41 = .ok (.istore_n 1, 1) := by decide +kernel
theorem dX10_word_42 : decode cX10_word 42 = .ok (.aload_n 0, 1) := by decide +kernel
theorem dX10_word_43 : decode cX10_word 43 = .ok (.iconst 3, 1) := by decide +kernel
theorem dX10_word_44 : decode cX10_word 44 = .ok (.bipush 97, 2) := by decide +kernel
theorem dX10_word_46 : decode cX10_word 46 = .ok (.bipush 100, 2) := by decide +kernel
theorem dX10_word_48 : decode cX10_word 48 = .ok (.bipush 100, 2) := by decide +kernel
theorem dX10_word_50 : decode cX10_word 50 = .ok (.invokevirtual 132, 3) := by decide +kernel
theorem dX10_word_53 : decode cX10_word 53 = .ok (.ifCond .eq 7, 3) := by decide +kernel
theorem dX10_word_56 : decode cX10_word 56 = .ok (.iconst 2, 1) := by decide +kernel
theorem dX10_word_57 : decode cX10_word 57 = .ok (.goto 4, 3) := by decide +kernel
theorem dX10_word_60 : decode cX10_word 60 = .ok (.iload_n 1, 1) := by decide +kernel
theorem dX10_word_61 : decode cX10_word 61 = .ok (.istore_n 1, 1) := by decide +kernel
theorem dX10_word_62 : decode cX10_word 62 = .ok (.aload_n 0, 1) := by decide +kernel
theorem dX10_word_63 : decode cX10_word 63 = .ok (.iconst 3, 1) := by decide +kernel
theorem dX10_word_64 : decode cX10_word 64 = .ok (.bipush 115, 2) := by decide +kernel
theorem dX10_word_66 : decode cX10_word 66 = .ok (.bipush 117, 2) := by decide +kernel
theorem dX10_word_68 : decode cX10_word 68 = .ok (.bipush 98, 2) := by decide +kernel
theorem dX10_word_70 : decode cX10_word 70 = .ok (.invokevirtual 132, 3) := by decide +kernel
theorem dX10_word_73 : decode cX10_word 73 = .ok (.ifCond .eq 7, 3) := by decide +kernel
theorem dX10_word_76 : decode cX10_word 76 = .ok (.iconst 3, 1) := by decide +kernel
theorem dX10_word_77 : decode cX10_word 77 = .ok (.goto 4, 3) := by decide +kernel
theorem dX10_word_80 : decode cX10_word 80 = .ok (.iload_n 1, 1) := by decide +kernel
theorem dX10_word_81 : decode cX10_word 81 = .ok (.istore_n 1, 1) := by decide +kernel
theorem dX10_word_82 : decode cX10_word 82 = .ok (.aload_n 0, 1) := by decide +kernel
theorem dX10_word_83 : decode cX10_word 83 = .ok (.iconst 3, 1) := by decide +kernel
theorem dX10_word_84 : decode cX10_word 84 = .ok (.bipush 109, 2) := by decide +kernel
theorem dX10_word_86 : decode cX10_word 86 = .ok (.bipush 117, 2) := by decide +kernel
theorem dX10_word_88 : decode cX10_word 88 = .ok (.bipush 108, 2) := by decide +kernel
theorem dX10_word_90 : decode cX10_word 90 = .ok (.invokevirtual 132, 3) := by decide +kernel
theorem dX10_word_93 : decode cX10_word 93 = .ok (.ifCond .eq 7, 3) := by decide +kernel
theorem dX10_word_96 : decode cX10_word 96 = .ok (.iconst 4, 1) := by decide +kernel
theorem dX10_word_97 : decode cX10_word 97 = .ok (.goto 4, 3) := by decide +kernel
theorem dX10_word_100 : decode cX10_word 100 = .ok (.iload_n 1, 1) := by decide +kernel
theorem dX10_word_101 : decode cX10_word 101 = .ok (.istore_n 1, 1) := by decide +kernel
theorem dX10_word_102 : decode cX10_word 102 = .ok (.aload_n 0, 1) := by decide +kernel
theorem dX10_word_103 : decode cX10_word 103 = .ok (.iconst 3, 1) := by decide +kernel
theorem dX10_word_104 : decode cX10_word 104 = .ok (.bipush 111, 2) := by decide +kernel
theorem dX10_word_106 : decode cX10_word 106 = .ok (.bipush 117, 2) := by decide +kernel
theorem dX10_word_108 : decode cX10_word 108 = .ok (.bipush 116, 2) := by decide +kernel
theorem dX10_word_110 : decode cX10_word 110 = .ok (.invokevirtual 132, 3) := by decide +kernel
theorem dX10_word_113 : decode cX10_word 113 = .ok (.ifCond .eq 7, 3) := by decide +kernel
theorem dX10_word_116 : decode cX10_word 116 = .ok (.iconst 5, 1) := by decide +kernel
theorem dX10_word_117 : decode cX10_word 117 = .ok (.goto 4, 3) := by decide +kernel
theorem dX10_word_120 : decode cX10_word 120 = .ok (.iload_n 1, 1) := by decide +kernel
theorem dX10_word_121 : decode cX10_word 121 = .ok (.istore_n 1, 1) := by decide +kernel
theorem dX10_word_122 : decode cX10_word 122 = .ok (.iload_n 1, 1) := by decide +kernel
theorem dX10_word_123 : decode cX10_word 123 = .ok (.ireturn, 1) := by decide +kernel
set_option maxRecDepth 20000 in
theorem ggX10_next_X10_here : GoodIn wsX10_next wsX10_here := goodIn_r _ [15, 1, 16, 17, 29, 30, 31, 32, 33, 34, 35, 36, 37, 38, 39, 40, 41, 42, 43, 44, 45, 46, 47, 48, 49, 50, 51, 52, 53, 54, 55, 56, 57, 58, 59, 60, 61, 62, 63, 64, 65, 66, 67, 68, 69, 70, 71, 72, 73, 74, 75] rfl (by decide +kernel)
set_option maxRecDepth 20000 in
theorem gX10_next_X10_here : GoodIn wsX10_next (wsV RX10 136 RX10 yX10_here wsX10_here) := goodIn_app (goodIn_of _ (by decide +kernel)) ggX10_next_X10_here
set_option maxRecDepth 20000 in
theorem ggX10_next_X10_in : GoodIn wsX10_next wsX10_in := goodIn_r _ [20] rfl (by decide +kernel)
set_option maxRecDepth 20000 in
theorem gX10_next_X10_in : GoodIn wsX10_next (va_wsS RX10 117 yX10_in wsX10_in) := goodIn_app (goodIn_of _ (by decide +kernel)) ggX10_next_X10_in
set_option maxRecDepth 20000 in
theorem ggX10_next_X10_word : GoodIn wsX10_next wsX10_word := goodIn_r _ [24, 25, 26, 27, 14, 28, 1, 2, 17, 29, 30, 31, 32, 33, 34, 35, 36, 37, 38, 39, 40, 41, 42, 43, 44, 45, 46, 47, 48, 49, 50, 51, 52, 53, 54, 55, 56, 57, 58, 59, 60, 61, 62, 63, 64, 65, 66, 67, 68, 69, 70, 71, 72, 73, 74, 75] rfl (by decide +kernel)
set_option maxRecDepth 20000 in
theorem gX10_next_X10_word : GoodIn wsX10_next (wsV RX10 150 RX10 yX10_word wsX10_word) := goodIn_app (goodIn_of _ (by decide +kernel)) ggX10_next_X10_word
theorem dX10_next_0 : decode cX10_next 0 = .ok (.aload_n 0, 1) := by decide +kernel
theorem dX10_next_1 : decode cX10_next 1 = .ok (.invokevirtual 136, 3) := by decide +kernel
theorem dX10_next_4 : decode cX10_next 4 = .ok (.bipush 32, 2) := by decide +kernel
theorem dX10_next_6 : decode cX10_next 6 = .ok (.if_icmp .ne 16, 3) := by decide +kernel
theorem dX10_next_9 : decode cX10_next 9 = .ok (.aload_n 0, 1) := by decide +kernel
theorem dX10_next_10 : decode cX10_next 10 = .ok (.dup, 1) := by decide +kernel
theorem dX10_next_11 : decode cX10_next 11 = .ok (.getfield 126, 3) := by decide +kernel
theorem dX10_next_14 : decode cX10_next 14 = .ok (.iconst 1, 1) := by decide +kernel
theorem dX10_next_15 : decode cX10_next 15 = .ok (.iadd, 1) := by decide +kernel
theorem dX10_next_16 : decode cX10_next 16 = .ok (.putfield 126, 3) := by decide +kernel
theorem dX10_next_19 : decode cX10_next 19 = .ok (.goto (-19), 3) := by decide +kernel
theorem dX10_next_22 : decode cX10_next 22 = .ok (.aload_n 0, 1) := by decide +kernel
theorem dX10_next_23 : decode cX10_next 23 = .ok (.aload_n 0, 1) := by decide +kernel
theorem dX10_next_24 : decode cX10_next 24 = .ok (.getfield 126, 3) := by decide +kernel
theorem dX10_next_27 : decode cX10_next 27 = .ok (.putfield 129, 3) := by decide +kernel
theorem dX10_next_30 : decode cX10_next 30 = .ok (.aload_n 0, 1) := by decide +kernel
theorem dX10_next_31 : decode cX10_next 31 = .ok (.iconst 0, 1) := by decide +kernel
theorem dX10_next_32 : decode cX10_next 32 = .ok (.putfield 140, 3) := by decide +kernel
theorem dX10_next_35 : decode cX10_next 35 = .ok (.aload_n 0, 1) := by decide +kernel
theorem dX10_next_36 : decode cX10_next 36 = .ok (.invokevirtual 136, 3) := by decide +kernel
theorem dX10_next_39 : decode cX10_next 39 = .ok (.istore_n 1, 1) := by decide +kernel
theorem dX10_next_40 : decode cX10_next 40 = .ok (.iload_n 1, 1) := by decide +kernel
theorem dX10_next_41 : decode cX10_next 41 = .ok (.ifCond .ge 11, 3) := by decide +kernel
theorem dX10_next_44 : decode cX10_next 44 = .ok (.aload_n 0, 1) := by decide +kernel
theorem dX10_next_45 : decode cX10_next 45 = .ok (.iconst 0, 1) := by decide +kernel
theorem dX10_next_46 : decode cX10_next 46 = .ok (.putfield 143, 3) := by decide +kernel
theorem dX10_next_49 : decode cX10_next 49 = .ok (.goto 246, 3) := by decide +kernel
theorem dX10_next_52 : decode cX10_next 52 = .ok (.iload_n 1, 1) := by decide +kernel
theorem dX10_next_53 : decode cX10_next 53 = .ok (.i2l, 1) := by decide +kernel
theorem dX10_next_54 : decode cX10_next 54 = .ok (.ldc2_w 146, 3) := by decide +kernel
theorem dX10_next_57 : decode cX10_next 57 = .ok (.ldc2_w 148, 3) := by decide +kernel
theorem dX10_next_60 : decode cX10_next 60 = .ok (.invokestatic 117, 3) := by decide +kernel
theorem dX10_next_63 : decode cX10_next 63 = .ok (.ifCond .eq 62, 3) := by decide +kernel
theorem dX10_next_66 : decode cX10_next 66 = .ok (.aload_n 0, 1) := by decide +kernel
theorem dX10_next_67 : decode cX10_next 67 = .ok (.invokevirtual 136, 3) := by decide +kernel
theorem dX10_next_70 : decode cX10_next 70 = .ok (.i2l, 1) := by decide +kernel
theorem dX10_next_71 : decode cX10_next 71 = .ok (.ldc2_w 146, 3) := by decide +kernel
theorem dX10_next_74 : decode cX10_next 74 = .ok (.ldc2_w 148, 3) := by decide +kernel
theorem dX10_next_77 : decode cX10_next 77 = .ok (.invokestatic 117, 3) := by decide +kernel
theorem dX10_next_80 : decode cX10_next 80 = .ok (.ifCond .eq 16, 3) := by decide +kernel
theorem dX10_next_83 : decode cX10_next 83 = .ok (.aload_n 0, 1) := by decide +kernel
theorem dX10_next_84 : decode cX10_next 84 = .ok (.dup, 1) := by decide +kernel
theorem dX10_next_85 : decode cX10_next 85 = .ok (.getfield 126, 3) := by decide +kernel
theorem dX10_next_88 : decode cX10_next 88 = .ok (.iconst 1, 1) := by decide +kernel
theorem dX10_next_89 : decode cX10_next 89 = .ok (.iadd, 1) := by decide +kernel
theorem dX10_next_90 : decode cX10_next 90 = .ok (.putfield 126, 3) := by decide +kernel
theorem dX10_next_93 : decode cX10_next 93 = .ok (.goto (-27), 3) := by decide +kernel
theorem dX10_next_96 : decode cX10_next 96 = .ok (.aload_n 0, 1) := by decide +kernel
theorem dX10_next_97 : decode cX10_next 97 = .ok (.aload_n 0, 1) := by decide +kernel
theorem dX10_next_98 : decode cX10_next 98 = .ok (.invokevirtual 150, 3) := by decide +kernel
theorem dX10_next_101 : decode cX10_next 101 = .ok (.putfield 140, 3) := by decide +kernel
theorem dX10_next_104 : decode cX10_next 104 = .ok (.aload_n 0, 1) := by decide +kernel
theorem dX10_next_105 : decode cX10_next 105 = .ok (.aload_n 0, 1) := by decide +kernel
theorem dX10_next_106 : decode cX10_next 106 = .ok (.getfield 140, 3) := by decide +kernel
theorem dX10_next_109 : decode cX10_next 109 = .ok (.bipush (-9), 2) := by decide +kernel
theorem dX10_next_111 : decode cX10_next 111 = .ok (.if_icmp .ne 7, 3) := by decide +kernel
theorem dX10_next_114 : decode cX10_next 114 = .ok (.iconst 5, 1) := by decide +kernel
theorem dX10_next_115 : decode cX10_next 115 = .ok (.goto 4, 3) := by decide +kernel
theorem dX10_next_118 : decode cX10_next 118 = .ok (.iconst 1, 1) := by decide +kernel
theorem dX10_next_119 : decode cX10_next 119 = .ok (.putfield 143, 3) := by decide +kernel
theorem dX10_next_122 : decode cX10_next 122 = .ok (.goto 173, 3) := by decide +kernel
theorem dX10_next_125 : decode cX10_next 125 = .ok (.iload_n 1, 1) := by decide +kernel
theorem dX10_next_126 : decode cX10_next 126 = .ok (.i2l, 1) := by decide +kernel
theorem dX10_next_127 : decode cX10_next 127 = .ok (.ldc2_w 153, 3) := by decide +kernel
theorem dX10_next_130 : decode cX10_next 130 = .ok (.ldc2_w 155, 3) := by decide +kernel
theorem dX10_next_133 : decode cX10_next 133 = .ok (.invokestatic 117, 3) := by decide +kernel
theorem dX10_next_136 : decode cX10_next 136 = .ok (.ifCond .eq 108, 3) := by decide +kernel
theorem dX10_next_139 : decode cX10_next 139 = .ok (.aload_n 0, 1) := by decide +kernel
theorem dX10_next_140 : decode cX10_next 140 = .ok (.invokevirtual 136, 3) := by decide +kernel
theorem dX10_next_143 : decode cX10_next 143 = .ok (.i2l, 1) := by decide +kernel
theorem dX10_next_144 : decode cX10_next 144 = .ok (.ldc2_w 153, 3) := by decide +kernel
theorem dX10_next_147 : decode cX10_next 147 = .ok (.ldc2_w 155, 3) := by decide +kernel
theorem dX10_next_150 : decode cX10_next 150 = .ok (.invokestatic 117, 3) := by decide +kernel
theorem dX10_next_153 : decode cX10_next 153 = .ok (.ifCond .eq 51, 3) := by decide +kernel
theorem dX10_next_156 : decode cX10_next 156 = .ok (.aload_n 0, 1) := by decide +kernel
theorem dX10_next_157 : decode cX10_next 157 = .ok (.aload_n 0, 1) := by decide +kernel
theorem dX10_next_158 : decode cX10_next 158 = .ok (.getfield 140, 3) := by decide +kernel
theorem dX10_next_161 : decode cX10_next 161 = .ok (.bipush 99, 2) := by decide +kernel
theorem dX10_next_163 : decode cX10_next 163 = .ok (.if_icmp .le 10, 3) := by decide +kernel
theorem dX10_next_166 : decode cX10_next 166 = .ok (.aload_n 0, 1) := by decide +kernel
theorem dX10_next_167 : decode cX10_next 167 = .ok (.getfield 140, 3) := by decide +kernel
theorem dX10_next_170 : decode cX10_next 170 = .ok (.goto 18, 3) := by decide +kernel
theorem dX10_next_173 : decode cX10_next 173 = .ok (.bipush 10, 2) := by decide +kernel
theorem dX10_next_175 : decode cX10_next 175 = .ok (.aload_n 0, 1) := by decide +kernel
theorem dX10_next_176 : decode cX10_next 176 = .ok (.getfield 140, 3) := by decide +kernel
theorem dX10_next_179 : decode cX10_next 179 = .ok (.imul, 1) := by decide +kernel
theorem dX10_next_180 : decode cX10_next 180 = .ok (.aload_n 0, 1) := by decide +kernel
theorem dX10_next_181 : decode cX10_next 181 = .ok (.invokevirtual 136, 3) := by decide +kernel
theorem dX10_next_184 : decode cX10_next 184 = .ok (.iadd, 1) := by decide +kernel
theorem dX10_next_185 : decode cX10_next 185 = .ok (.bipush 48, 2) := by decide +kernel
theorem dX10_next_187 : decode cX10_next 187 = .ok (.isub, 1) := by decide +kernel
theorem dX10_next_188 : decode cX10_next 188 = .ok (.putfield 140, 3) := by decide +kernel
theorem dX10_next_191 : decode cX10_next 191 = .ok (.aload_n 0, 1) := by decide +kernel
theorem dX10_next_192 : decode cX10_next 192 = .ok (.dup, 1) := by decide +kernel
theorem dX10_next_193 : decode cX10_next 193 = .ok (.getfield 126, 3) := by decide +kernel
theorem dX10_next_196 : decode cX10_next 196 = .ok (.iconst 1, 1) := by decide +kernel
theorem dX10_next_197 : decode cX10_next 197 = .ok (.iadd, 1) := by decide +kernel
theorem dX10_next_198 : decode cX10_next 198 = .ok (.putfield 126, 3) := by decide +kernel
theorem dX10_next_201 : decode cX10_next 201 = .ok (.goto (-62), 3) := by decide +kernel
theorem dX10_next_204 : decode cX10_next 204 = .ok (.aload_n 0, 1) := by decide +kernel
theorem dX10_next_205 : decode cX10_next 205 = .ok (.aload_n 0, 1) := by decide +kernel
theorem dX10_next_206 : decode cX10_next 206 = .ok (.getfield 140, 3) := by decide +kernel
theorem dX10_next_209 : decode cX10_next 209 = .ok (.bipush 99, 2) := by decide +kernel
theorem dX10_next_211 : decode cX10_next 211 = .ok (.if_icmp .gt 22, 3) := by decide +kernel
theorem dX10_next_214 : decode cX10_next 214 = .ok (.iload_n 1, 1) := by decide +kernel
theorem dX10_next_215 : decode cX10_next 215 = .ok (.bipush 48, 2) := by decide +kernel
theorem dX10_next_217 : decode cX10_next 217 = .ok (.if_icmp .ne 20, 3) := by decide +kernel
theorem dX10_next_220 : decode cX10_next 220 = .ok (.aload_n 0, 1) := by decide +kernel
theorem dX10_next_221 : decode cX10_next 221 = .ok (.getfield 126, 3) := by decide +kernel
theorem dX10_next_224 : decode cX10_next 224 = .ok (.aload_n 0, 1) := by decide +kernel
theorem dX10_next_225 : decode cX10_next 225 = .ok (.getfield 129, 3) := by decide +kernel
theorem dX10_next_228 : decode cX10_next 228 = .ok (.isub, 1) := by decide +kernel
theorem dX10_next_229 : decode cX10_next 229 = .ok (.iconst 1, 1) := by decide +kernel
theorem dX10_next_230 : decode cX10_next 230 = .ok (.if_icmp .le 7, 3) := by decide +kernel
theorem dX10_next_233 : decode cX10_next 233 = .ok (.iconst 5, 1) := by decide +kernel
theorem dX10_next_234 : decode cX10_next 234 = .ok (.goto 4, 3) := by decide +kernel
theorem dX10_next_237 : decode cX10_next 237 = .ok (.iconst 3, 1) := by decide +kernel
theorem dX10_next_238 : decode cX10_next 238 = .ok (.putfield 143, 3) := by decide +kernel
theorem dX10_next_241 : decode cX10_next 241 = .ok (.goto 54, 3) := by decide +kernel
theorem dX10_next_244 : decode cX10_next 244 = .ok (.aload_n 0, 1) := by decide +kernel
theorem dX10_next_245 : decode cX10_next 245 = .ok (.dup, 1) := by decide +kernel
theorem dX10_next_246 : decode cX10_next 246 = .ok (.getfield 126, 3) := by decide +kernel
theorem dX10_next_249 : decode cX10_next 249 = .ok (.iconst 1, 1) := by decide +kernel
theorem dX10_next_250 : decode cX10_next 250 = .ok (.iadd, 1) := by decide +kernel
theorem dX10_next_251 : decode cX10_next 251 = .ok (.putfield 126, 3) := by decide +kernel
theorem dX10_next_254 : decode cX10_next 254 = .ok (.aload_n 0, 1) := by decide +kernel
theorem dX10_next_255 : decode cX10_next 255 = .ok (.iload_n 1, 1) := by decide +kernel
theorem dX10_next_256 : decode cX10_next 256 = .ok (.bipush 65, 2) := by decide +kernel
theorem dX10_next_258 : decode cX10_next 258 = .ok (.isub, 1) := by decide +kernel
theorem dX10_next_259 : decode cX10_next 259 = .ok (.putfield 140, 3) := by decide +kernel
theorem dX10_next_262 : decode cX10_next 262 = .ok (.aload_n 0, 1) := by decide +kernel
theorem dX10_next_263 : decode cX10_next 263 = .ok (.iload_n 1, 1) := by decide +kernel
theorem dX10_next_264 : decode cX10_next 264 = .ok (.i2l, 1) := by decide +kernel
theorem dX10_next_265 : decode cX10_next 265 = .ok (.ldc2_w 157, 3) := by decide +kernel
theorem dX10_next_268 : decode cX10_next 268 = .ok (.ldc2_w 159, 3) := by decide +kernel
theorem dX10_next_271 : decode cX10_next 271 = .ok (.invokestatic 117, 3) := by decide +kernel
theorem dX10_next_274 : decode cX10_next 274 = .ok (.ifCond .eq 7, 3) := by decide +kernel
theorem dX10_next_277 : decode cX10_next 277 = .ok (.iconst 2, 1) := by decide +kernel
theorem dX10_next_278 : decode cX10_next 278 = .ok (.goto 14, 3) := by decide +kernel
theorem dX10_next_281 : decode cX10_next 281 = .ok (.iload_n 1, 1) := by decide +kernel
theorem dX10_next_282 : decode cX10_next 282 = .ok (.bipush 59, 2) := by decide +kernel
theorem dX10_next_284 : decode cX10_next 284 = .ok (.if_icmp .ne 7, 3) := by decide +kernel
theorem dX10_next_287 : decode cX10_next 287 = .ok (.iconst 4, 1) := by decide +kernel
theorem dX10_next_288 : decode cX10_next 288 = .ok (.goto 4, 3) := by decide +kernel
theorem dX10_next_291 : decode cX10_next 291 = .ok (.iconst 5, 1) := by decide +kernel
theorem dX10_next_292 : decode cX10_next 292 = .ok (.putfield 143, 3) := by decide +kernel
theorem dX10_next_295 : decode cX10_next 295 = .ok (.return_, 1) := by decide +kernel
set_option maxRecDepth 20000 in
theorem ggX10_due_X10_next : GoodIn wsX10_due wsX10_next := goodIn_r _ [8, 9, 3, 1, 10, 11, 12, 13, 14, 15, 16, 17, 18, 19, 7, 20, 21, 22, 23, 24, 25, 26, 27, 28, 29, 30, 31, 32, 33, 34, 35, 36, 37, 38, 39, 40, 41, 42, 43, 44, 45, 46, 47, 48, 49, 50, 51, 52, 53, 54, 55, 56, 57, 58, 59, 60, 61, 62, 63, 64, 65, 66, 67, 68, 69, 70, 71, 72, 73, 74, 75, 76, 77, 78, 79, 80] rfl (by decide +kernel)
set_option maxRecDepth 20000 in
theorem gX10_due_X10_next : GoodIn wsX10_due (wsV RX10 164 RX10 yX10_next wsX10_next) := goodIn_app (goodIn_of _ (by decide +kernel)) ggX10_due_X10_next
theorem dX10_due_0 : decode cX10_due 0 = .ok (.aload_n 0, 1) := by decide +kernel
theorem dX10_due_1 : decode cX10_due 1 = .ok (.getfield 140, 3) := by decide +kernel
theorem dX10_due_4 : decode cX10_due 4 = .ok (.istore_n 2, 1) := by decide +kernel
theorem dX10_due_5 : decode cX10_due 5 = .ok (.aload_n 0, 1) := by decide +kernel
theorem dX10_due_6 : decode cX10_due 6 = .ok (.getfield 161, 3) := by decide +kernel
theorem dX10_due_9 : decode cX10_due 9 = .ok (.bipush (-9), 2) := by decide +kernel
theorem dX10_due_11 : decode cX10_due 11 = .ok (.if_icmp .ne 22, 3) := by decide +kernel
theorem dX10_due_14 : decode cX10_due 14 = .ok (.iload_n 1, 1) := by decide +kernel
theorem dX10_due_15 : decode cX10_due 15 = .ok (.ifCond .eq 10, 3) := by decide +kernel
theorem dX10_due_18 : decode cX10_due 18 = .ok (.aload_n 0, 1) := by decide +kernel
theorem dX10_due_19 : decode cX10_due 19 = .ok (.invokevirtual 164, 3) := by decide +kernel
theorem dX10_due_22 : decode cX10_due 22 = .ok (.goto 11, 3) := by decide +kernel
theorem dX10_due_25 : decode cX10_due 25 = .ok (.aload_n 0, 1) := by decide +kernel
theorem dX10_due_26 : decode cX10_due 26 = .ok (.aload_n 0, 1) := by decide +kernel
theorem dX10_due_27 : decode cX10_due 27 = .ok (.getfield 129, 3) := by decide +kernel
theorem dX10_due_30 : decode cX10_due 30 = .ok (.putfield 161, 3) := by decide +kernel
theorem dX10_due_33 : decode cX10_due 33 = .ok (.iload_n 2, 1) := by decide +kernel
theorem dX10_due_34 : decode cX10_due 34 = .ok (.ireturn, 1) := by decide +kernel
set_option maxRecDepth 20000 in
theorem ggX10_letter_X10_due : GoodIn wsX10_letter wsX10_due := goodIn_r _ [8, 3, 9, 10, 11, 12, 13, 7, 14, 15, 1, 16, 17, 18, 19, 20, 21, 22, 23, 24, 25, 26, 27, 28, 29, 30, 31, 32, 33, 34, 35, 36, 37, 38, 39, 40, 41, 42, 43, 44, 45, 46, 47, 48, 49, 50, 51, 52, 53, 54, 55, 56, 57, 58, 59, 60, 61, 62, 63, 64, 65, 66, 67, 68, 69, 70, 71, 72, 73, 74, 75, 76, 77, 78, 79, 80, 81, 82, 83, 84, 85] rfl (by decide +kernel)
set_option maxRecDepth 20000 in
theorem gX10_letter_X10_due : GoodIn wsX10_letter (wsV RX10 170 RX10 yX10_due wsX10_due) := goodIn_app (goodIn_of _ (by decide +kernel)) ggX10_letter_X10_due
theorem dX10_letter_0 : decode cX10_letter 0 = .ok (.aload_n 0, 1) := by decide +kernel
theorem dX10_letter_1 : decode cX10_letter 1 = .ok (.aload_n 0, 1) := by decide +kernel
theorem dX10_letter_2 : decode cX10_letter 2 = .ok (.getfield 143, 3) := by decide +kernel
theorem dX10_letter_5 : decode cX10_letter 5 = .ok (.iconst 2, 1) := by decide +kernel
theorem dX10_letter_6 : decode cX10_letter 6 = .ok (.if_icmp .ne 30, 3) := by decide +kernel
theorem dX10_letter_9 : decode cX10_letter 9 = .ok (.aload_n 0, 1) := by decide +kernel
theorem dX10_letter_10 : decode cX10_letter 10 = .ok (.getfield 167, 3) := by decide +kernel
theorem dX10_letter_13 : decode cX10_letter 13 = .ok (.aload_n 0, 1) := by decide +kernel
theorem dX10_letter_14 : decode cX10_letter 14 = .ok (.getfield 140, 3) := by decide +kernel
theorem dX10_letter_17 : decode cX10_letter 17 = .ok (.ishr, 1) := by decide +kernel
theorem dX10_letter_18 : decode cX10_letter 18 = .ok (.iconst 1, 1) := by decide +kernel
theorem dX10_letter_19 : decode cX10_letter 19 = .ok (.iand, 1) := by decide +kernel
theorem dX10_letter_20 : decode cX10_letter 20 = .ok (.iload_n 1, 1) := by decide +kernel
theorem dX10_letter_21 : decode cX10_letter 21 = .ok (.ifCond .eq 7, 3) := by decide +kernel
theorem dX10_letter_24 : decode cX10_letter 24 = .ok (.iconst 1, 1) := by decide +kernel
theorem dX10_letter_25 : decode cX10_letter 25 = .ok (.goto 4, 3) := by decide +kernel
theorem dX10_letter_28 : decode cX10_letter 28 = .ok (.iconst 0, 1) := by decide +kernel
theorem dX10_letter_29 : decode cX10_letter 29 = .ok (.if_icmp .ne 7, 3) := by decide +kernel
theorem dX10_letter_32 : decode cX10_letter 32 = .ok (.iconst 1, 1) := by decide +kernel
theorem dX10_letter_33 : decode cX10_letter 33 = .ok (.goto 4, 3) := by decide +kernel
theorem dX10_letter_36 : decode cX10_letter 36 = .ok (.iconst 0, 1) := by decide +kernel
theorem dX10_letter_37 : decode cX10_letter 37 = .ok (.invokevirtual 170, 3) := by decide +kernel
theorem dX10_letter_40 : decode cX10_letter 40 = .ok (.ireturn, 1) := by decide +kernel
set_option maxRecDepth 20000 in
theorem ggX10_program_X10_next : GoodIn wsX10_program wsX10_next := goodIn_r _ [19, 1, 20, 5, 4, 21, 22, 23, 24, 25, 26, 27, 28, 29, 18, 30, 14, 31, 32, 33, 34, 35, 36, 37, 38, 39, 40, 41, 42, 51, 52, 53, 54, 55, 56, 57, 58, 59, 60, 61, 62, 63, 64, 65, 66, 67, 68, 69, 70, 71, 72, 73, 74, 75, 76, 77, 78, 79, 80, 81, 82, 83, 84, 85, 86, 87, 88, 89, 90, 91, 92, 93, 94, 95, 96, 97] rfl (by decide +kernel)
set_option maxRecDepth 20000 in
theorem gX10_program_X10_next : GoodIn wsX10_program (wsV RX10 164 RX10 yX10_next wsX10_next) := goodIn_app (goodIn_of _ (by decide +kernel)) ggX10_program_X10_next
set_option maxRecDepth 20000 in
theorem ggX10_program_X10_due : GoodIn wsX10_program wsX10_due := goodIn_r _ [46, 5, 2, 20, 15, 16, 17, 18, 19, 1, 4, 21, 22, 23, 24, 25, 26, 27, 28, 29, 30, 14, 31, 32, 33, 34, 35, 36, 37, 38, 39, 40, 41, 42, 51, 52, 53, 54, 55, 56, 57, 58, 59, 60, 61, 62, 63, 64, 65, 66, 67, 68, 69, 70, 71, 72, 73, 74, 75, 76, 77, 78, 79, 80, 81, 82, 83, 84, 85, 86, 87, 88, 89, 90, 91, 92, 93, 94, 95, 96, 97] rfl (by decide +kernel)
set_option maxRecDepth 20000 in
theorem gX10_program_X10_due : GoodIn wsX10_program (wsV RX10 170 RX10 yX10_due wsX10_due) := goodIn_app (goodIn_of _ (by decide +kernel)) ggX10_program_X10_due
set_option maxRecDepth 20000 in
theorem ggX10_program_X10_letter : GoodIn wsX10_program wsX10_letter := goodIn_r _ [50, 4, 3, 5, 43, 44, 45, 18, 46, 2, 20, 15, 16, 17, 19, 1, 21, 22, 23, 24, 25, 26, 27, 28, 29, 30, 14, 31, 32, 33, 34, 35, 36, 37, 38, 39, 40, 41, 42, 51, 52, 53, 54, 55, 56, 57, 58, 59, 60, 61, 62, 63, 64, 65, 66, 67, 68, 69, 70, 71, 72, 73, 74, 75, 76, 77, 78, 79, 80, 81, 82, 83, 84, 85, 86, 87, 88, 89, 90, 91, 92, 93, 94, 95, 96, 97] rfl (by decide +kernel)
set_option maxRecDepth 20000 in
theorem gX10_program_X10_letter : GoodIn wsX10_program (wsV RX10 174 RX10 yX10_letter wsX10_letter) := goodIn_app (goodIn_of _ (by decide +kernel)) ggX10_program_X10_letter
theorem dX10_program_0 : decode cX10_program 0 = .ok (.aload_n 0, 1) := by decide +kernel
theorem dX10_program_1 : decode cX10_program 1 = .ok (.iconst 0, 1) := by decide +kernel
theorem dX10_program_2 : decode cX10_program 2 = .ok (.putfield 126, 3) := by decide +kernel
theorem dX10_program_5 : decode cX10_program 5 = .ok (.aload_n 0, 1) := by decide +kernel
theorem dX10_program_6 : decode cX10_program 6 = .ok (.bipush (-9), 2) := by decide +kernel
theorem dX10_program_8 : decode cX10_program 8 = .ok (.putfield 161, 3) := by decide +kernel
theorem dX10_program_11 : decode cX10_program 11 = .ok (.aload_n 0, 1) := by decide +kernel
theorem dX10_program_12 : decode cX10_program 12 = .ok (.iconst 0, 1) := by decide +kernel
theorem dX10_program_13 : decode cX10_program 13 = .ok (.putfield 167, 3) := by decide +kernel
theorem dX10_program_16 : decode cX10_program 16 = .ok (.iconst 0, 1) := by decide +kernel
theorem dX10_program_17 : decode cX10_program 17 = .ok (.istore_n 1, 1) := by decide +kernel
theorem dX10_program_18 : decode cX10_program 18 = .ok (.iconst 0, 1) := by decide +kernel
theorem dX10_program_19 : decode cX10_program 19 = .ok (.istore_n 2, 1) := by decide +kernel
theorem dX10_program_20 : decode cX10_program 20 = .ok (.iconst 0, 1) := by decide +kernel
theorem dX10_program_21 : decode cX10_program 21 = .ok (.istore_n 3, 1) := by decide +kernel
theorem dX10_program_22 : decode cX10_program 22 = .ok (.iconst 0, 1) := by decide +kernel
theorem dX10_program_23 : decode cX10_program 23 = .ok (.istore 4, 2) := by decide +kernel
theorem dX10_program_25 : decode cX10_program 25 = .ok (.aload_n 0, 1) := by decide +kernel
theorem dX10_program_26 : decode cX10_program 26 = .ok (.invokevirtual 164, 3) := by decide +kernel
theorem dX10_program_29 : decode cX10_program 29 = .ok (.aload_n 0, 1) := by decide +kernel
theorem dX10_program_30 : decode cX10_program 30 = .ok (.getfield 161, 3) := by decide +kernel
theorem dX10_program_33 : decode cX10_program 33 = .ok (.bipush (-9), 2) := by decide +kernel
theorem dX10_program_35 : decode cX10_program 35 = .ok (.if_icmp .ne 329, 3) := by decide +kernel
theorem dX10_program_38 : decode cX10_program 38 = .ok (.iload 4, 2) := by decide +kernel
theorem dX10_program_40 : decode cX10_program 40 = .ok (.ifCond .ne 324, 3) := by decide +kernel
theorem dX10_program_43 : decode cX10_program 43 = .ok (.aload_n 0, 1) := by decide +kernel
theorem dX10_program_44 : decode cX10_program 44 = .ok (.getfield 143, 3) := by decide +kernel
theorem dX10_program_47 : decode cX10_program 47 = .ok (.iconst 1, 1) := by decide +kernel
theorem dX10_program_48 : decode cX10_program 48 = .ok (.if_icmp .ne 46, 3) := by decide +kernel
theorem dX10_program_51 : decode cX10_program 51 = .ok (.aload_n 0, 1) := by decide +kernel
theorem dX10_program_52 : decode cX10_program 52 = .ok (.getfield 140, 3) := by decide +kernel
theorem dX10_program_55 : decode cX10_program 55 = .ok (.iconst 5, 1) := by decide +kernel
theorem dX10_program_56 : decode cX10_program 56 = .ok (.if_icmp .eq 9, 3) := by decide +kernel
theorem dX10_program_59 : decode cX10_program 59 = .ok (.iload_n 1, 1) := by decide +kernel
theorem dX10_program_60 : decode cX10_program 60 = .ok (.bipush 15, 2) := by decide +kernel
theorem dX10_program_62 : decode cX10_program 62 = .ok (.if_icmp .ge 32, 3) := by decide +kernel
theorem dX10_program_65 : decode cX10_program 65 = .ok (.aload_n 0, 1) := by decide +kernel
theorem dX10_program_66 : decode cX10_program 66 = .ok (.getfield 140, 3) := by decide +kernel
theorem dX10_program_69 : decode cX10_program 69 = .ok (.ifCond .ne 8, 3) := by decide +kernel
theorem dX10_program_72 : decode cX10_program 72 = .ok (.iload_n 2, 1) := by decide +kernel
theorem dX10_program_73 : decode cX10_program 73 = .ok (.iconst 4, 1) := by decide +kernel
theorem dX10_program_74 : decode cX10_program 74 = .ok (.if_icmp .ge 20, 3) := by decide +kernel
theorem dX10_program_77 : decode cX10_program 77 = .ok (.aload_n 0, 1) := by decide +kernel
theorem dX10_program_78 : decode cX10_program 78 = .ok (.getfield 140, 3) := by decide +kernel
theorem dX10_program_81 : decode cX10_program 81 = .ok (.iconst 4, 1) := by decide +kernel
theorem dX10_program_82 : decode cX10_program 82 = .ok (.if_icmp .ne 8, 3) := by decide +kernel
theorem dX10_program_85 : decode cX10_program 85 = .ok (.iload_n 3, 1) := by decide +kernel
theorem dX10_program_86 : decode cX10_program 86 = .ok (.iconst 4, 1) := by decide +kernel
theorem dX10_program_87 : decode cX10_program 87 = .ok (.if_icmp .ge 7, 3) := by decide +kernel
theorem dX10_program_90 : decode cX10_program 90 = .ok (.iconst 1, 1) := by decide +kernel
theorem dX10_program_91 : decode cX10_program 91 = .ok (.goto 4, 3) := by decide +kernel
theorem dX10_program_94 : decode cX10_program 94 = .ok (.iconst 0, 1) := by decide +kernel
theorem dX10_program_95 : decode cX10_program 95 = .ok (.istore 5, 2) := by decide +kernel
theorem dX10_program_97 : decode cX10_program 97 = .ok (.aload_n 0, 1) := by decide +kernel
theorem dX10_program_98 : decode cX10_program 98 = .ok (.iload 5, 2) := by decide +kernel
theorem dX10_program_100 : decode cX10_program 100 = .ok (.invokevirtual 170, 3) := by decide +kernel
theorem dX10_program_103 : decode cX10_program 103 = .ok (.istore 6, 2) := by decide +kernel
theorem dX10_program_105 : decode cX10_program 105 = .ok (.aload_n 0, 1) := by decide +kernel
theorem dX10_program_106 : decode cX10_program 106 = .ok (.getfield 161, 3) := by decide +kernel
theorem dX10_program_109 : decode cX10_program 109 = .ok (.bipush (-9), 2) := by decide +kernel
theorem dX10_program_111 : decode cX10_program 111 = .ok (.if_icmp .ne 250, 3) := by decide +kernel
theorem dX10_program_114 : decode cX10_program 114 = .ok (.bipush 16, 2) := by decide +kernel
theorem dX10_program_116 : decode cX10_program 116 = .ok (.iload_n 1, 1) := by decide +kernel
theorem dX10_program_117 : decode cX10_program 117 = .ok (.iadd, 1) := by decide +kernel
theorem dX10_program_118 : decode cX10_program 118 = .ok (.istore 7, 2) := by decide +kernel
theorem dX10_program_120 : decode cX10_program 120 = .ok (.aload_n 0, 1) := by decide +kernel
theorem dX10_program_121 : decode cX10_program 121 = .ok (.getfield 13, 3) := by decide +kernel
theorem dX10_program_124 : decode cX10_program 124 = .ok (.iload 7, 2) := by decide +kernel
theorem dX10_program_126 : decode cX10_program 126 = .ok (.iload 6, 2) := by decide +kernel
theorem dX10_program_128 : decode cX10_program 128 = .ok (.iastore, 1) := by decide +kernel
theorem dX10_program_129 : decode cX10_program 129 = .ok (.aload_n 0, 1) := by decide +kernel
theorem dX10_program_130 : decode cX10_program 130 = .ok (.getfield 20, 3) := by decide +kernel
theorem dX10_program_133 : decode cX10_program 133 = .ok (.iload 7, 2) := by decide +kernel
theorem dX10_program_135 : decode cX10_program 135 = .ok (.bipush (-9), 2) := by decide +kernel
theorem dX10_program_137 : decode cX10_program 137 = .ok (.iastore, 1) := by decide +kernel
theorem dX10_program_138 : decode cX10_program 138 = .ok (.aload_n 0, 1) := by decide +kernel
theorem dX10_program_139 : decode cX10_program 139 = .ok (.getfield 23, 3) := by decide +kernel
theorem dX10_program_142 : decode cX10_program 142 = .ok (.iload 7, 2) := by decide +kernel
theorem dX10_program_144 : decode cX10_program 144 = .ok (.bipush (-9), 2) := by decide +kernel
theorem dX10_program_146 : decode cX10_program 146 = .ok (.iastore, 1) := by decide +kernel
theorem dX10_program_147 : decode cX10_program 147 = .ok (.aload_n 0, 1) := by decide +kernel
theorem dX10_program_148 : decode cX10_program 148 = .ok (.getfield 26, 3) := by decide +kernel
theorem dX10_program_151 : decode cX10_program 151 = .ok (.iload 7, 2) := by decide +kernel
theorem dX10_program_153 : decode cX10_program 153 = .ok (.bipush (-9), 2) := by decide +kernel
theorem dX10_program_155 : decode cX10_program 155 = .ok (.iastore, 1) := by decide +kernel

theorem dX10_run_45 : decode cX10_run 45 = .ok (.iconst 3, 1) := by decide +kernel
theorem dX10_run_46 : decode cX10_run 46 = .ok (.aload_n 0, 1) := by decide +kernel
theorem dX10_run_47 : decode cX10_run 47 = .ok (.getfield 23, 3) := by decide +kernel
theorem dX10_run_50 : decode cX10_run 50 = .ok (.iload 6, 2) := by decide +kernel
theorem dX10_run_52 : decode cX10_run 52 = .ok (.iaload, 1) := by decide +kernel
theorem dX10_run_53 : decode cX10_run 53 = .ok (.imul, 1) := by decide +kernel
theorem dX10_run_54 : decode cX10_run 54 = .ok (.istore 9, 2) := by decide +kernel
theorem dX10_run_56 : decode cX10_run 56 = .ok (.aload_n 0, 1) := by decide +kernel
theorem dX10_run_57 : decode cX10_run 57 = .ok (.getfield 13, 3) := by decide +kernel
theorem dX10_run_60 : decode cX10_run 60 = .ok (.iload 6, 2) := by decide +kernel
theorem dX10_run_62 : decode cX10_run 62 = .ok (.iaload, 1) := by decide +kernel
theorem dX10_run_63 : decode cX10_run 63 = .ok (.ifCond .ne 140, 3) := by decide +kernel
theorem dX10_run_66 : decode cX10_run 66 = .ok (.aload_n 0, 1) := by decide +kernel
theorem dX10_run_67 : decode cX10_run 67 = .ok (.getfield 54, 3) := by decide +kernel
theorem dX10_run_70 : decode cX10_run 70 = .ok (.iload 7, 2) := by decide +kernel
theorem dX10_run_72 : decode cX10_run 72 = .ok (.aload_n 0, 1) := by decide +kernel
theorem dX10_run_73 : decode cX10_run 73 = .ok (.aload_n 0, 1) := by decide +kernel
theorem dX10_run_74 : decode cX10_run 74 = .ok (.getfield 60, 3) := by decide +kernel
theorem dX10_run_77 : decode cX10_run 77 = .ok (.iload 4, 2) := by decide +kernel
theorem dX10_run_79 : decode cX10_run 79 = .ok (.iaload, 1) := by decide +kernel
theorem dX10_run_80 : decode cX10_run 80 = .ok (.invokevirtual 206, 3) := by decide +kernel
theorem dX10_run_83 : decode cX10_run 83 = .ok (.iastore, 1) := by decide +kernel
theorem dX10_run_84 : decode cX10_run 84 = .ok (.aload_n 0, 1) := by decide +kernel
theorem dX10_run_85 : decode cX10_run 85 = .ok (.getfield 54, 3) := by decide +kernel
theorem dX10_run_88 : decode cX10_run 88 = .ok (.iload 7, 2) := by decide +kernel
theorem dX10_run_90 : decode cX10_run 90 = .ok (.iconst 1, 1) := by decide +kernel
theorem dX10_run_91 : decode cX10_run 91 = .ok (.iadd, 1) := by decide +kernel
theorem dX10_run_92 : decode cX10_run 92 = .ok (.aload_n 0, 1) := by decide +kernel
theorem dX10_run_93 : decode cX10_run 93 = .ok (.aload_n 0, 1) := by decide +kernel
theorem dX10_run_94 : decode cX10_run 94 = .ok (.getfield 60, 3) := by decide +kernel
theorem dX10_run_97 : decode cX10_run 97 = .ok (.iload 4, 2) := by decide +kernel
theorem dX10_run_99 : decode cX10_run 99 = .ok (.iconst 1, 1) := by decide +kernel
theorem dX10_run_100 : decode cX10_run 100 = .ok (.iadd, 1) := by decide +kernel
theorem dX10_run_101 : decode cX10_run 101 = .ok (.iaload, 1) := by decide +kernel
theorem dX10_run_102 : decode cX10_run 102 = .ok (.invokevirtual 206, 3) := by decide +kernel
theorem dX10_run_105 : decode cX10_run 105 = .ok (.iastore, 1) := by decide +kernel
theorem dX10_run_106 : decode cX10_run 106 = .ok (.aload_n 0, 1) := by decide +kernel
theorem dX10_run_107 : decode cX10_run 107 = .ok (.getfield 54, 3) := by decide +kernel
theorem dX10_run_110 : decode cX10_run 110 = .ok (.iload 7, 2) := by decide +kernel
theorem dX10_run_112 : decode cX10_run 112 = .ok (.iconst 2, 1) := by decide +kernel
theorem dX10_run_113 : decode cX10_run 113 = .ok (.iadd, 1) := by decide +kernel
theorem dX10_run_114 : decode cX10_run 114 = .ok (.aload_n 0, 1) := by decide +kernel
theorem dX10_run_115 : decode cX10_run 115 = .ok (.aload_n 0, 1) := by decide +kernel
theorem dX10_run_116 : decode cX10_run 116 = .ok (.getfield 39, 3) := by decide +kernel
theorem dX10_run_119 : decode cX10_run 119 = .ok (.iconst 4, 1) := by decide +kernel
theorem dX10_run_120 : decode cX10_run 120 = .ok (.iload_n 1, 1) := by decide +kernel
theorem dX10_run_121 : decode cX10_run 121 = .ok (.imul, 1) := by decide +kernel
theorem dX10_run_122 : decode cX10_run 122 = .ok (.iload 5, 2) := by decide +kernel
theorem dX10_run_124 : decode cX10_run 124 = .ok (.iadd, 1) := by decide +kernel
theorem dX10_run_125 : decode cX10_run 125 = .ok (.iaload, 1) := by decide +kernel
theorem dX10_run_126 : decode cX10_run 126 = .ok (.aload_n 0, 1) := by decide +kernel
theorem dX10_run_127 : decode cX10_run 127 = .ok (.getfield 54, 3) := by decide +kernel
theorem dX10_run_130 : decode cX10_run 130 = .ok (.iload 7, 2) := by decide +kernel
theorem dX10_run_132 : decode cX10_run 132 = .ok (.iaload, 1) := by decide +kernel
theorem dX10_run_133 : decode cX10_run 133 = .ok (.isub, 1) := by decide +kernel
theorem dX10_run_134 : decode cX10_run 134 = .ok (.aload_n 0, 1) := by decide +kernel
theorem dX10_run_135 : decode cX10_run 135 = .ok (.getfield 54, 3) := by decide +kernel
theorem dX10_run_138 : decode cX10_run 138 = .ok (.iload 7, 2) := by decide +kernel
theorem dX10_run_140 : decode cX10_run 140 = .ok (.iconst 1, 1) := by decide +kernel
theorem dX10_run_141 : decode cX10_run 141 = .ok (.iadd, 1) := by decide +kernel
theorem dX10_run_142 : decode cX10_run 142 = .ok (.iaload, 1) := by decide +kernel
theorem dX10_run_143 : decode cX10_run 143 = .ok (.isub, 1) := by decide +kernel
theorem dX10_run_144 : decode cX10_run 144 = .ok (.invokevirtual 206, 3) := by decide +kernel
theorem dX10_run_147 : decode cX10_run 147 = .ok (.iastore, 1) := by decide +kernel
theorem dX10_run_148 : decode cX10_run 148 = .ok (.iinc 4 2, 3) := by decide +kernel
theorem dX10_run_151 : decode cX10_run 151 = .ok (.iinc 5 1, 3) := by decide +kernel
theorem dX10_run_154 : decode cX10_run 154 = .ok (.iconst 0, 1) := by decide +kernel
theorem dX10_run_155 : decode cX10_run 155 = .ok (.istore 10, 2) := by decide +kernel
theorem dX10_run_157 : decode cX10_run 157 = .ok (.iload 10, 2) := by decide +kernel
theorem dX10_run_159 : decode cX10_run 159 = .ok (.iconst 3, 1) := by decide +kernel
theorem dX10_run_160 : decode cX10_run 160 = .ok (.if_icmp .ge 40, 3) := by decide +kernel
theorem dX10_run_163 : decode cX10_run 163 = .ok (.aload_n 0, 1) := by decide +kernel
theorem dX10_run_164 : decode cX10_run 164 = .ok (.getfield 26, 3) := by decide +kernel
theorem dX10_run_167 : decode cX10_run 167 = .ok (.iload 6, 2) := by decide +kernel
theorem dX10_run_169 : decode cX10_run 169 = .ok (.iaload, 1) := by decide +kernel
theorem dX10_run_170 : decode cX10_run 170 = .ok (.iload_n 3, 1) := by decide +kernel
theorem dX10_run_171 : decode cX10_run 171 = .ok (.if_icmp .eq 9, 3) := by decide +kernel
theorem dX10_run_174 : decode cX10_run 174 = .ok (.iload 10, 2) := by decide +kernel
theorem dX10_run_176 : decode cX10_run 176 = .ok (.iload_n 3, 1) := by decide +kernel
theorem dX10_run_177 : decode cX10_run 177 = .ok (.if_icmp .ne 17, 3) := by decide +kernel
theorem dX10_run_180 : decode cX10_run 180 = .ok (.aload_n 0, 1) := by decide +kernel
theorem dX10_run_181 : decode cX10_run 181 = .ok (.aload_n 0, 1) := by decide +kernel
theorem dX10_run_182 : decode cX10_run 182 = .ok (.getfield 54, 3) := by decide +kernel
theorem dX10_run_185 : decode cX10_run 185 = .ok (.iload 7, 2) := by decide +kernel
theorem dX10_run_187 : decode cX10_run 187 = .ok (.iload 10, 2) := by decide +kernel
theorem dX10_run_189 : decode cX10_run 189 = .ok (.iadd, 1) := by decide +kernel
theorem dX10_run_190 : decode cX10_run 190 = .ok (.iaload, 1) := by decide +kernel
theorem dX10_run_191 : decode cX10_run 191 = .ok (.invokevirtual 209, 3) := by decide +kernel
theorem dX10_run_194 : decode cX10_run 194 = .ok (.iinc 10 1, 3) := by decide +kernel
theorem dX10_run_197 : decode cX10_run 197 = .ok (.goto (-40), 3) := by decide +kernel
theorem dX10_run_200 : decode cX10_run 200 = .ok (.goto 286, 3) := by decide +kernel
theorem dX10_run_203 : decode cX10_run 203 = .ok (.aload_n 0, 1) := by decide +kernel
theorem dX10_run_204 : decode cX10_run 204 = .ok (.getfield 13, 3) := by decide +kernel
theorem dX10_run_207 : decode cX10_run 207 = .ok (.iload 6, 2) := by decide +kernel
theorem dX10_run_209 : decode cX10_run 209 = .ok (.iaload, 1) := by decide +kernel
theorem dX10_run_210 : decode cX10_run 210 = .ok (.iconst 1, 1) := by decide +kernel
theorem dX10_run_211 : decode cX10_run 211 = .ok (.if_icmp .ne 44, 3) := by decide +kernel
theorem dX10_run_214 : decode cX10_run 214 = .ok (.aload_n 0, 1) := by decide +kernel
theorem dX10_run_215 : decode cX10_run 215 = .ok (.getfield 54, 3) := by decide +kernel
theorem dX10_run_218 : decode cX10_run 218 = .ok (.iload 7, 2) := by decide +kernel
theorem dX10_run_220 : decode cX10_run 220 = .ok (.aload_n 0, 1) := by decide +kernel
theorem dX10_run_221 : decode cX10_run 221 = .ok (.aload_n 0, 1) := by decide +kernel
theorem dX10_run_222 : decode cX10_run 222 = .ok (.getfield 26, 3) := by decide +kernel
theorem dX10_run_225 : decode cX10_run 225 = .ok (.iload 6, 2) := by decide +kernel
theorem dX10_run_227 : decode cX10_run 227 = .ok (.iaload, 1) := by decide +kernel
theorem dX10_run_228 : decode cX10_run 228 = .ok (.invokevirtual 206, 3) := by decide +kernel
theorem dX10_run_231 : decode cX10_run 231 = .ok (.iastore, 1) := by decide +kernel
theorem dX10_run_232 : decode cX10_run 232 = .ok (.aload_n 0, 1) := by decide +kernel
theorem dX10_run_233 : decode cX10_run 233 = .ok (.getfield 54, 3) := by decide +kernel
theorem dX10_run_236 : decode cX10_run 236 = .ok (.iload 7, 2) := by decide +kernel
theorem dX10_run_238 : decode cX10_run 238 = .ok (.iconst 1, 1) := by decide +kernel
theorem dX10_run_239 : decode cX10_run 239 = .ok (.iadd, 1) := by decide +kernel
theorem dX10_run_240 : decode cX10_run 240 = .ok (.iconst 0, 1) := by decide +kernel
theorem dX10_run_241 : decode cX10_run 241 = .ok (.iastore, 1) := by decide +kernel
theorem dX10_run_242 : decode cX10_run 242 = .ok (.aload_n 0, 1) := by decide +kernel
theorem dX10_run_243 : decode cX10_run 243 = .ok (.getfield 54, 3) := by decide +kernel
theorem dX10_run_246 : decode cX10_run 246 = .ok (.iload 7, 2) := by decide +kernel
theorem dX10_run_248 : decode cX10_run 248 = .ok (.iconst 2, 1) := by decide +kernel
theorem dX10_run_249 : decode cX10_run 249 = .ok (.iadd, 1) := by decide +kernel
theorem dX10_run_250 : decode cX10_run 250 = .ok (.iconst 0, 1) := by decide +kernel
theorem dX10_run_251 : decode cX10_run 251 = .ok (.iastore, 1) := by decide +kernel
theorem dX10_run_252 : decode cX10_run 252 = .ok (.goto 234, 3) := by decide +kernel
theorem dX10_run_255 : decode cX10_run 255 = .ok (.aload_n 0, 1) := by decide +kernel
theorem dX10_run_256 : decode cX10_run 256 = .ok (.getfield 13, 3) := by decide +kernel
theorem dX10_run_259 : decode cX10_run 259 = .ok (.iload 6, 2) := by decide +kernel
theorem dX10_run_261 : decode cX10_run 261 = .ok (.iaload, 1) := by decide +kernel
theorem dX10_run_262 : decode cX10_run 262 = .ok (.iconst 2, 1) := by decide +kernel
theorem dX10_run_263 : decode cX10_run 263 = .ok (.if_icmp .eq 14, 3) := by decide +kernel
theorem dX10_run_266 : decode cX10_run 266 = .ok (.aload_n 0, 1) := by decide +kernel
theorem dX10_run_267 : decode cX10_run 267 = .ok (.getfield 13, 3) := by decide +kernel
theorem dX10_run_270 : decode cX10_run 270 = .ok (.iload 6, 2) := by decide +kernel
theorem dX10_run_272 : decode cX10_run 272 = .ok (.iaload, 1) := by decide +kernel
theorem dX10_run_273 : decode cX10_run 273 = .ok (.iconst 3, 1) := by decide +kernel
theorem dX10_run_274 : decode cX10_run 274 = .ok (.if_icmp .ne 81, 3) := by decide +kernel
theorem dX10_run_277 : decode cX10_run 277 = .ok (.iconst 0, 1) := by decide +kernel
theorem dX10_run_278 : decode cX10_run 278 = .ok (.istore 10, 2) := by decide +kernel
theorem dX10_run_280 : decode cX10_run 280 = .ok (.iload 10, 2) := by decide +kernel
theorem dX10_run_282 : decode cX10_run 282 = .ok (.iconst 3, 1) := by decide +kernel
theorem dX10_run_283 : decode cX10_run 283 = .ok (.if_icmp .ge 69, 3) := by decide +kernel
theorem dX10_run_286 : decode cX10_run 286 = .ok (.aload_n 0, 1) := by decide +kernel
theorem dX10_run_287 : decode cX10_run 287 = .ok (.getfield 54, 3) := by decide +kernel
theorem dX10_run_290 : decode cX10_run 290 = .ok (.iload 7, 2) := by decide +kernel
theorem dX10_run_292 : decode cX10_run 292 = .ok (.iload 10, 2) := by decide +kernel
theorem dX10_run_294 : decode cX10_run 294 = .ok (.iadd, 1) := by decide +kernel
theorem dX10_run_295 : decode cX10_run 295 = .ok (.aload_n 0, 1) := by decide +kernel
theorem dX10_run_296 : decode cX10_run 296 = .ok (.aload_n 0, 1) := by decide +kernel
theorem dX10_run_297 : decode cX10_run 297 = .ok (.getfield 54, 3) := by decide +kernel
theorem dX10_run_300 : decode cX10_run 300 = .ok (.iload 8, 2) := by decide +kernel
theorem dX10_run_302 : decode cX10_run 302 = .ok (.iload 10, 2) := by decide +kernel
theorem dX10_run_304 : decode cX10_run 304 = .ok (.iadd, 1) := by decide +kernel
theorem dX10_run_305 : decode cX10_run 305 = .ok (.iaload, 1) := by decide +kernel
theorem dX10_run_306 : decode cX10_run 306 = .ok (.aload_n 0, 1) := by decide +kernel
theorem dX10_run_307 : decode cX10_run 307 = .ok (.getfield 13, 3) := by decide +kernel
theorem dX10_run_310 : decode cX10_run 310 = .ok (.iload 6, 2) := by decide +kernel
theorem dX10_run_312 : decode cX10_run 312 = .ok (.iaload, 1) := by decide +kernel
theorem dX10_run_313 : decode cX10_run 313 = .ok (.iconst 2, 1) := by decide +kernel
theorem dX10_run_314 : decode cX10_run 314 = .ok (.if_icmp .ne 16, 3) := by decide +kernel
theorem dX10_run_317 : decode cX10_run 317 = .ok (.aload_n 0, 1) := by decide +kernel
theorem dX10_run_318 : decode cX10_run 318 = .ok (.getfield 54, 3) := by decide +kernel
theorem dX10_run_321 : decode cX10_run 321 = .ok (.iload 9, 2) := by decide +kernel
theorem dX10_run_323 : decode cX10_run 323 = .ok (.iload 10, 2) := by decide +kernel
theorem dX10_run_325 : decode cX10_run 325 = .ok (.iadd, 1) := by decide +kernel
theorem dX10_run_326 : decode cX10_run 326 = .ok (.iaload, 1) := by decide +kernel
theorem dX10_run_327 : decode cX10_run 327 = .ok (.goto 14, 3) := by decide +kernel
theorem dX10_run_330 : decode cX10_run 330 = .ok (.aload_n 0, 1) := by decide +kernel
theorem dX10_run_331 : decode cX10_run 331 = .ok (.getfield 54, 3) := by decide +kernel
theorem dX10_run_334 : decode cX10_run 334 = .ok (.iload 9, 2) := by decide +kernel
theorem dX10_run_336 : decode cX10_run 336 = .ok (.iload 10, 2) := by decide +kernel
theorem dX10_run_338 : decode cX10_run 338 = .ok (.iadd, 1) := by decide +kernel
theorem dX10_run_339 : decode cX10_run 339 = .ok (.iaload, 1) := by decide +kernel
theorem dX10_run_340 : decode cX10_run 340 = .ok (.ineg, 1) := by decide +kernel
theorem dX10_run_341 : decode cX10_run 341 = .ok (.iadd, 1) := by decide +kernel
theorem dX10_run_342 : decode cX10_run 342 = .ok (.invokevirtual 206, 3) := by decide +kernel
theorem dX10_run_345 : decode cX10_run 345 = .ok (.iastore, 1) := by decide +kernel
theorem dX10_run_346 : decode cX10_run 346 = .ok (.iinc 10 1, 3) := by decide +kernel
theorem dX10_run_349 : decode cX10_run 349 = .ok (.goto (-69), 3) := by decide +kernel
theorem dX10_run_352 : decode cX10_run 352 = .ok (.goto 134, 3) := by decide +kernel
theorem dX10_run_355 : decode cX10_run 355 = .ok (.aload_n 0, 1) := by decide +kernel
theorem dX10_run_356 : decode cX10_run 356 = .ok (.getfield 13, 3) := by decide +kernel
theorem dX10_run_359 : decode cX10_run 359 = .ok (.iload 6, 2) := by decide +kernel
theorem dX10_run_361 : decode cX10_run 361 = .ok (.iaload, 1) := by decide +kernel
theorem dX10_run_362 : decode cX10_run 362 = .ok (.iconst 4, 1) := by decide +kernel
theorem dX10_run_363 : decode cX10_run 363 = .ok (.if_icmp .ne 19, 3) := by decide +kernel
theorem dX10_run_366 : decode cX10_run 366 = .ok (.aload_n 0, 1) := by decide +kernel
theorem dX10_run_367 : decode cX10_run 367 = .ok (.iload 6, 2) := by decide +kernel
theorem dX10_run_369 : decode cX10_run 369 = .ok (.iload 4, 2) := by decide +kernel
theorem dX10_run_371 : decode cX10_run 371 = .ok (.iload_n 2, 1) := by decide +kernel
theorem dX10_run_372 : decode cX10_run 372 = .ok (.iload_n 3, 1) := by decide +kernel
theorem dX10_run_373 : decode cX10_run 373 = .ok (.invokevirtual 212, 3) := by decide +kernel
theorem dX10_run_376 : decode cX10_run 376 = .ok (.iinc 4 8, 3) := by decide +kernel
theorem dX10_run_379 : decode cX10_run 379 = .ok (.goto 107, 3) := by decide +kernel
theorem dX10_run_382 : decode cX10_run 382 = .ok (.aload_n 0, 1) := by decide +kernel
theorem dX10_run_383 : decode cX10_run 383 = .ok (.iconst 0, 1) := by decide +kernel
theorem dX10_run_384 : decode cX10_run 384 = .ok (.putfield 216, 3) := by decide +kernel
theorem dX10_run_387 : decode cX10_run 387 = .ok (.iconst 0, 1) := by decide +kernel
theorem dX10_run_388 : decode cX10_run 388 = .ok (.istore 10, 2) := by decide +kernel
theorem dX10_run_390 : decode cX10_run 390 = .ok (.iload 10, 2) := by decide +kernel
theorem dX10_run_392 : decode cX10_run 392 = .ok (.iconst 3, 1) := by decide +kernel
theorem dX10_run_393 : decode cX10_run 393 = .ok (.if_icmp .ge 93, 3) := by decide +kernel
theorem dX10_run_396 : decode cX10_run 396 = .ok (.aload_n 0, 1) := by decide +kernel
theorem dX10_run_397 : decode cX10_run 397 = .ok (.getfield 57, 3) := by decide +kernel
theorem dX10_run_400 : decode cX10_run 400 = .ok (.iconst 3, 1) := by decide +kernel
theorem dX10_run_401 : decode cX10_run 401 = .ok (.iload 6, 2) := by decide +kernel
theorem dX10_run_403 : decode cX10_run 403 = .ok (.imul, 1) := by decide +kernel
theorem dX10_run_404 : decode cX10_run 404 = .ok (.iload 10, 2) := by decide +kernel
theorem dX10_run_406 : decode cX10_run 406 = .ok (.iadd, 1) := by decide +kernel
theorem dX10_run_407 : decode cX10_run 407 = .ok (.aload_n 0, 1) := by decide +kernel
theorem dX10_run_408 : decode cX10_run 408 = .ok (.aload_n 0, 1) := by decide +kernel
theorem dX10_run_409 : decode cX10_run 409 = .ok (.getfield 54, 3) := by decide +kernel
theorem dX10_run_412 : decode cX10_run 412 = .ok (.iload 7, 2) := by decide +kernel
theorem dX10_run_414 : decode cX10_run 414 = .ok (.iload 10, 2) := by decide +kernel
theorem dX10_run_416 : decode cX10_run 416 = .ok (.iadd, 1) := by decide +kernel
theorem dX10_run_417 : decode cX10_run 417 = .ok (.iaload, 1) := by decide +kernel
theorem dX10_run_418 : decode cX10_run 418 = .ok (.iload_n 2, 1) := by decide +kernel
theorem dX10_run_419 : decode cX10_run 419 = .ok (.ifCond .eq 14, 3) := by decide +kernel
theorem dX10_run_422 : decode cX10_run 422 = .ok (.aload_n 0, 1) := by decide +kernel
theorem dX10_run_423 : decode cX10_run 423 = .ok (.iload 6, 2) := by decide +kernel
theorem dX10_run_425 : decode cX10_run 425 = .ok (.iload 10, 2) := by decide +kernel
theorem dX10_run_427 : decode cX10_run 427 = .ok (.invokevirtual 219, 3) := by decide +kernel
theorem dX10_run_430 : decode cX10_run 430 = .ok (.goto 4, 3) := by decide +kernel
theorem dX10_run_433 : decode cX10_run 433 = .ok (.iconst 0, 1) := by decide +kernel
theorem dX10_run_434 : decode cX10_run 434 = .ok (.iadd, 1) := by decide +kernel
theorem dX10_run_435 : decode cX10_run 435 = .ok (.invokevirtual 206, 3) := by decide +kernel
theorem dX10_run_438 : decode cX10_run 438 = .ok (.iastore, 1) := by decide +kernel
theorem dX10_run_439 : decode cX10_run 439 = .ok (.aload_n 0, 1) := by decide +kernel
theorem dX10_run_440 : decode cX10_run 440 = .ok (.aload_n 0, 1) := by decide +kernel
theorem dX10_run_441 : decode cX10_run 441 = .ok (.aload_n 0, 1) := by decide +kernel
theorem dX10_run_442 : decode cX10_run 442 = .ok (.getfield 216, 3) := by decide +kernel
theorem dX10_run_445 : decode cX10_run 445 = .ok (.aload_n 0, 1) := by decide +kernel
theorem dX10_run_446 : decode cX10_run 446 = .ok (.getfield 57, 3) := by decide +kernel
theorem dX10_run_449 : decode cX10_run 449 = .ok (.iconst 3, 1) := by decide +kernel
theorem dX10_run_450 : decode cX10_run 450 = .ok (.iload 6, 2) := by decide +kernel
theorem dX10_run_452 : decode cX10_run 452 = .ok (.imul, 1) := by decide +kernel
theorem dX10_run_453 : decode cX10_run 453 = .ok (.iload 10, 2) := by decide +kernel
theorem dX10_run_455 : decode cX10_run 455 = .ok (.iadd, 1) := by decide +kernel
theorem dX10_run_456 : decode cX10_run 456 = .ok (.iaload, 1) := by decide +kernel
theorem dX10_run_457 : decode cX10_run 457 = .ok (.iadd, 1) := by decide +kernel
theorem dX10_run_458 : decode cX10_run 458 = .ok (.invokevirtual 206, 3) := by decide +kernel
theorem dX10_run_461 : decode cX10_run 461 = .ok (.putfield 216, 3) := by decide +kernel
theorem dX10_run_464 : decode cX10_run 464 = .ok (.aload_n 0, 1) := by decide +kernel
theorem dX10_run_465 : decode cX10_run 465 = .ok (.aload_n 0, 1) := by decide +kernel
theorem dX10_run_466 : decode cX10_run 466 = .ok (.getfield 57, 3) := by decide +kernel
theorem dX10_run_469 : decode cX10_run 469 = .ok (.iconst 3, 1) := by decide +kernel
theorem dX10_run_470 : decode cX10_run 470 = .ok (.iload 6, 2) := by decide +kernel
theorem dX10_run_472 : decode cX10_run 472 = .ok (.imul, 1) := by decide +kernel
theorem dX10_run_473 : decode cX10_run 473 = .ok (.iload 10, 2) := by decide +kernel
theorem dX10_run_475 : decode cX10_run 475 = .ok (.iadd, 1) := by decide +kernel
theorem dX10_run_476 : decode cX10_run 476 = .ok (.iaload, 1) := by decide +kernel
theorem dX10_run_477 : decode cX10_run 477 = .ok (.invokevirtual 209, 3) := by decide +kernel
theorem dX10_run_480 : decode cX10_run 480 = .ok (.iinc 10 1, 3) := by decide +kernel
theorem dX10_run_483 : decode cX10_run 483 = .ok (.goto (-93), 3) := by decide +kernel
theorem dX10_run_486 : decode cX10_run 486 = .ok (.iconst 0, 1) := by decide +kernel
theorem dX10_run_487 : decode cX10_run 487 = .ok (.istore 10, 2) := by decide +kernel
theorem dX10_run_489 : decode cX10_run 489 = .ok (.iload 10, 2) := by decide +kernel
theorem dX10_run_491 : decode cX10_run 491 = .ok (.iconst 3, 1) := by decide +kernel
theorem dX10_run_492 : decode cX10_run 492 = .ok (.if_icmp .ge 42, 3) := by decide +kernel
theorem dX10_run_495 : decode cX10_run 495 = .ok (.aload_n 0, 1) := by decide +kernel
theorem dX10_run_496 : decode cX10_run 496 = .ok (.getfield 13, 3) := by decide +kernel
theorem dX10_run_499 : decode cX10_run 499 = .ok (.iload 6, 2) := by decide +kernel
theorem dX10_run_501 : decode cX10_run 501 = .ok (.iaload, 1) := by decide +kernel
theorem dX10_run_502 : decode cX10_run 502 = .ok (.iconst 5, 1) := by decide +kernel
theorem dX10_run_503 : decode cX10_run 503 = .ok (.if_icmp .eq 31, 3) := by decide +kernel
theorem dX10_run_506 : decode cX10_run 506 = .ok (.aload_n 0, 1) := by decide +kernel
theorem dX10_run_507 : decode cX10_run 507 = .ok (.getfield 57, 3) := by decide +kernel
theorem dX10_run_510 : decode cX10_run 510 = .ok (.iconst 3, 1) := by decide +kernel
theorem dX10_run_511 : decode cX10_run 511 = .ok (.iload 6, 2) := by decide +kernel
theorem dX10_run_513 : decode cX10_run 513 = .ok (.imul, 1) := by decide +kernel
theorem dX10_run_514 : decode cX10_run 514 = .ok (.iload 10, 2) := by decide +kernel
theorem dX10_run_516 : decode cX10_run 516 = .ok (.iadd, 1) := by decide +kernel
theorem dX10_run_517 : decode cX10_run 517 = .ok (.aload_n 0, 1) := by decide +kernel
theorem dX10_run_518 : decode cX10_run 518 = .ok (.getfield 54, 3) := by decide +kernel
theorem dX10_run_521 : decode cX10_run 521 = .ok (.iload 7, 2) := by decide +kernel
theorem dX10_run_523 : decode cX10_run 523 = .ok (.iload 10, 2) := by decide +kernel
theorem dX10_run_525 : decode cX10_run 525 = .ok (.iadd, 1) := by decide +kernel
theorem dX10_run_526 : decode cX10_run 526 = .ok (.iaload, 1) := by decide +kernel
theorem dX10_run_527 : decode cX10_run 527 = .ok (.iastore, 1) := by decide +kernel
theorem dX10_run_528 : decode cX10_run 528 = .ok (.iinc 10 1, 3) := by decide +kernel
theorem dX10_run_531 : decode cX10_run 531 = .ok (.goto (-42), 3) := by decide +kernel
theorem dX10_run_534 : decode cX10_run 534 = .ok (.iinc 6 1, 3) := by decide +kernel
theorem dX10_run_537 : decode cX10_run 537 = .ok (.goto (-523), 3) := by decide +kernel
theorem dX10_run_540 : decode cX10_run 540 = .ok (.return_, 1) := by decide +kernel
set_option maxRecDepth 20000 in
theorem ggX10_multiply_X10_mod : GoodIn wsX10_multiply wsX10_mod := goodIn_r _ [12, 13, 28, 29, 30, 31, 32, 33, 34, 35, 36, 37, 38, 39, 40, 41, 42, 43, 44, 45, 46, 47, 48, 49, 50, 51, 52, 53, 54, 55, 56, 57, 58, 59, 60, 61, 62, 63, 64, 65, 66, 67, 68, 69, 70, 71, 72, 73, 74] (by decide +kernel) (by decide +kernel)
set_option maxRecDepth 20000 in
theorem gX10_multiply_X10_mod : GoodIn wsX10_multiply (wsV RX10 206 RX10 yX10_mod wsX10_mod) := goodIn_app (goodIn_of _ (by decide +kernel)) ggX10_multiply_X10_mod
set_option maxRecDepth 20000 in
theorem ggX10_multiply_X10_lieOf : GoodIn wsX10_multiply wsX10_lieOf := goodIn_r _ [17, 18, 19, 20, 21, 28, 29, 30, 31, 32, 33, 34, 35, 36, 37, 38, 39, 40, 41, 42, 43, 44, 45, 46, 47, 48, 49, 50, 51, 52, 53, 54, 55, 56, 57, 58, 59, 60, 61, 62, 63, 64, 65, 66, 67, 68, 69, 70, 71, 72, 73, 74] (by decide +kernel) (by decide +kernel)
set_option maxRecDepth 20000 in
theorem gX10_multiply_X10_lieOf : GoodIn wsX10_multiply (wsV RX10 219 RX10 yX10_lieOf wsX10_lieOf) := goodIn_app (goodIn_of _ (by decide +kernel)) ggX10_multiply_X10_lieOf
set_option maxRecDepth 20000 in
theorem ggX10_multiply_X10_see : GoodIn wsX10_multiply wsX10_see := goodIn_r _ [25, 26, 27, 28, 29, 30, 31, 32, 33, 34, 35, 36, 37, 38, 39, 40, 41, 42, 43, 44, 45, 46, 47, 48, 49, 50, 51, 52, 53, 54, 55, 56, 57, 58, 59, 60, 61, 62, 63, 64, 65, 66, 67, 68, 69, 70, 71, 72, 73, 74] (by decide +kernel) (by decide +kernel)
set_option maxRecDepth 20000 in
theorem gX10_multiply_X10_see : GoodIn wsX10_multiply (wsV RX10 209 RX10 yX10_see wsX10_see) := goodIn_app (goodIn_of _ (by decide +kernel)) ggX10_multiply_X10_see
theorem dX10_multiply_0 : decode cX10_multiply 0 = .ok (.iconst 0, 1) := by decide +kernel
theorem dX10_multiply_1 : decode cX10_multiply 1 = .ok (.istore 5, 2) := by decide +kernel
theorem dX10_multiply_3 : decode cX10_multiply 3 = .ok (.iload 5, 2) := by decide +kernel
theorem dX10_multiply_5 : decode cX10_multiply 5 = .ok (.bipush 8, 2) := by decide +kernel
theorem dX10_multiply_7 : decode cX10_multiply 7 = .ok (.if_icmp .ge 29, 3) := by decide +kernel
theorem dX10_multiply_10 : decode cX10_multiply 10 = .ok (.aload_n 0, 1) := by decide +kernel
theorem dX10_multiply_11 : decode cX10_multiply 11 = .ok (.getfield 69, 3) := by decide +kernel
theorem dX10_multiply_14 : decode cX10_multiply 14 = .ok (.iload 5, 2) := by decide +kernel
theorem dX10_multiply_16 : decode cX10_multiply 16 = .ok (.aload_n 0, 1) := by decide +kernel
theorem dX10_multiply_17 : decode cX10_multiply 17 = .ok (.aload_n 0, 1) := by decide +kernel
theorem dX10_multiply_18 : decode cX10_multiply 18 = .ok (.getfield 60, 3) := by decide +kernel
theorem dX10_multiply_21 : decode cX10_multiply 21 = .ok (.iload_n 2, 1) := by decide +kernel
theorem dX10_multiply_22 : decode cX10_multiply 22 = .ok (.iload 5, 2) := by decide +kernel
theorem dX10_multiply_24 : decode cX10_multiply 24 = .ok (.iadd, 1) := by decide +kernel
theorem dX10_multiply_25 : decode cX10_multiply 25 = .ok (.iaload, 1) := by decide +kernel
theorem dX10_multiply_26 : decode cX10_multiply 26 = .ok (.invokevirtual 206, 3) := by decide +kernel
theorem dX10_multiply_29 : decode cX10_multiply 29 = .ok (.iastore, 1) := by decide +kernel
theorem dX10_multiply_30 : decode cX10_multiply 30 = .ok (.iinc 5 1, 3) := by decide +kernel
theorem dX10_multiply_33 : decode cX10_multiply 33 = .ok (.goto (-30), 3) := by decide +kernel
theorem dX10_multiply_36 : decode cX10_multiply 36 = .ok (.aload_n 0, 1) := by decide +kernel
theorem dX10_multiply_37 : decode cX10_multiply 37 = .ok (.getfield 69, 3) := by decide +kernel
theorem dX10_multiply_40 : decode cX10_multiply 40 = .ok (.iconst 0, 1) := by decide +kernel
theorem dX10_multiply_41 : decode cX10_multiply 41 = .ok (.iaload, 1) := by decide +kernel
theorem dX10_multiply_42 : decode cX10_multiply 42 = .ok (.aload_n 0, 1) := by decide +kernel
theorem dX10_multiply_43 : decode cX10_multiply 43 = .ok (.getfield 69, 3) := by decide +kernel
theorem dX10_multiply_46 : decode cX10_multiply 46 = .ok (.iconst 1, 1) := by decide +kernel
theorem dX10_multiply_47 : decode cX10_multiply 47 = .ok (.iaload, 1) := by decide +kernel
theorem dX10_multiply_48 : decode cX10_multiply 48 = .ok (.iadd, 1) := by decide +kernel
theorem dX10_multiply_49 : decode cX10_multiply 49 = .ok (.aload_n 0, 1) := by decide +kernel
theorem dX10_multiply_50 : decode cX10_multiply 50 = .ok (.getfield 69, 3) := by decide +kernel
theorem dX10_multiply_53 : decode cX10_multiply 53 = .ok (.iconst 2, 1) := by decide +kernel
theorem dX10_multiply_54 : decode cX10_multiply 54 = .ok (.iaload, 1) := by decide +kernel
theorem dX10_multiply_55 : decode cX10_multiply 55 = .ok (.iadd, 1) := by decide +kernel
theorem dX10_multiply_56 : decode cX10_multiply 56 = .ok (.istore 5, 2) := by decide +kernel
theorem dX10_multiply_58 : decode cX10_multiply 58 = .ok (.aload_n 0, 1) := by decide +kernel
theorem dX10_multiply_59 : decode cX10_multiply 59 = .ok (.getfield 69, 3) := by decide +kernel
theorem dX10_multiply_62 : decode cX10_multiply 62 = .ok (.iconst 3, 1) := by decide +kernel
theorem dX10_multiply_63 : decode cX10_multiply 63 = .ok (.iaload, 1) := by decide +kernel
theorem dX10_multiply_64 : decode cX10_multiply 64 = .ok (.aload_n 0, 1) := by decide +kernel
theorem dX10_multiply_65 : decode cX10_multiply 65 = .ok (.getfield 69, 3) := by decide +kernel
theorem dX10_multiply_68 : decode cX10_multiply 68 = .ok (.iconst 4, 1) := by decide +kernel
theorem dX10_multiply_69 : decode cX10_multiply 69 = .ok (.iaload, 1) := by decide +kernel
theorem dX10_multiply_70 : decode cX10_multiply 70 = .ok (.iadd, 1) := by decide +kernel
theorem dX10_multiply_71 : decode cX10_multiply 71 = .ok (.aload_n 0, 1) := by decide +kernel
theorem dX10_multiply_72 : decode cX10_multiply 72 = .ok (.getfield 69, 3) := by decide +kernel
theorem dX10_multiply_75 : decode cX10_multiply 75 = .ok (.iconst 5, 1) := by decide +kernel
theorem dX10_multiply_76 : decode cX10_multiply 76 = .ok (.iaload, 1) := by decide +kernel
theorem dX10_multiply_77 : decode cX10_multiply 77 = .ok (.iadd, 1) := by decide +kernel
theorem dX10_multiply_78 : decode cX10_multiply 78 = .ok (.istore 6, 2) := by decide +kernel
theorem dX10_multiply_80 : decode cX10_multiply 80 = .ok (.aload_n 0, 1) := by decide +kernel
theorem dX10_multiply_81 : decode cX10_multiply 81 = .ok (.getfield 69, 3) := by decide +kernel
theorem dX10_multiply_84 : decode cX10_multiply 84 = .ok (.bipush 8, 2) := by decide +kernel
theorem dX10_multiply_86 : decode cX10_multiply 86 = .ok (.aload_n 0, 1) := by decide +kernel
theorem dX10_multiply_87 : decode cX10_multiply 87 = .ok (.iload 5, 2) := by decide +kernel
theorem dX10_multiply_89 : decode cX10_multiply 89 = .ok (.iload 6, 2) := by decide +kernel
theorem dX10_multiply_91 : decode cX10_multiply 91 = .ok (.imul, 1) := by decide +kernel
theorem dX10_multiply_92 : decode cX10_multiply 92 = .ok (.aload_n 0, 1) := by decide +kernel
theorem dX10_multiply_93 : decode cX10_multiply 93 = .ok (.getfield 69, 3) := by decide +kernel
theorem dX10_multiply_96 : decode cX10_multiply 96 = .ok (.bipush 6, 2) := by decide +kernel
theorem dX10_multiply_98 : decode cX10_multiply 98 = .ok (.iaload, 1) := by decide +kernel
theorem dX10_multiply_99 : decode cX10_multiply 99 = .ok (.isub, 1) := by decide +kernel
theorem dX10_multiply_100 : decode cX10_multiply 100 = .ok (.aload_n 0, 1) := by decide +kernel
theorem dX10_multiply_101 : decode cX10_multiply 101 = .ok (.getfield 69, 3) := by decide +kernel
theorem dX10_multiply_104 : decode cX10_multiply 104 = .ok (.bipush 7, 2) := by decide +kernel
theorem dX10_multiply_106 : decode cX10_multiply 106 = .ok (.iaload, 1) := by decide +kernel
theorem dX10_multiply_107 : decode cX10_multiply 107 = .ok (.isub, 1) := by decide +kernel
theorem dX10_multiply_108 : decode cX10_multiply 108 = .ok (.invokevirtual 206, 3) := by decide +kernel
theorem dX10_multiply_111 : decode cX10_multiply 111 = .ok (.iastore, 1) := by decide +kernel
theorem dX10_multiply_112 : decode cX10_multiply 112 = .ok (.iconst 0, 1) := by decide +kernel
theorem dX10_multiply_113 : decode cX10_multiply 113 = .ok (.istore 7, 2) := by decide +kernel
theorem dX10_multiply_115 : decode cX10_multiply 115 = .ok (.iconst 0, 1) := by decide +kernel
theorem dX10_multiply_116 : decode cX10_multiply 116 = .ok (.istore 8, 2) := by decide +kernel
theorem dX10_multiply_118 : decode cX10_multiply 118 = .ok (.iconst 0, 1) := by decide +kernel
theorem dX10_multiply_119 : decode cX10_multiply 119 = .ok (.istore 9, 2) := by decide +kernel
theorem dX10_multiply_121 : decode cX10_multiply 121 = .ok (.iload 9, 2) := by decide +kernel
theorem dX10_multiply_123 : decode cX10_multiply 123 = .ok (.iconst 3, 1) := by decide +kernel
theorem dX10_multiply_124 : decode cX10_multiply 124 = .ok (.if_icmp .ge 133, 3) := by decide +kernel
theorem dX10_multiply_127 : decode cX10_multiply 127 = .ok (.aload_n 0, 1) := by decide +kernel
theorem dX10_multiply_128 : decode cX10_multiply 128 = .ok (.getfield 66, 3) := by decide +kernel
theorem dX10_multiply_131 : decode cX10_multiply 131 = .ok (.iload 9, 2) := by decide +kernel
theorem dX10_multiply_133 : decode cX10_multiply 133 = .ok (.aload_n 0, 1) := by decide +kernel
theorem dX10_multiply_134 : decode cX10_multiply 134 = .ok (.aload_n 0, 1) := by decide +kernel
theorem dX10_multiply_135 : decode cX10_multiply 135 = .ok (.getfield 54, 3) := by decide +kernel
theorem dX10_multiply_138 : decode cX10_multiply 138 = .ok (.iconst 3, 1) := by decide +kernel
theorem dX10_multiply_139 : decode cX10_multiply 139 = .ok (.aload_n 0, 1) := by decide +kernel
theorem dX10_multiply_140 : decode cX10_multiply 140 = .ok (.getfield 20, 3) := by decide +kernel
theorem dX10_multiply_143 : decode cX10_multiply 143 = .ok (.iload_n 1, 1) := by decide +kernel
theorem dX10_multiply_144 : decode cX10_multiply 144 = .ok (.iaload, 1) := by decide +kernel
theorem dX10_multiply_145 : decode cX10_multiply 145 = .ok (.imul, 1) := by decide +kernel
theorem dX10_multiply_146 : decode cX10_multiply 146 = .ok (.iload 9, 2) := by decide +kernel
theorem dX10_multiply_148 : decode cX10_multiply 148 = .ok (.iadd, 1) := by decide +kernel
theorem dX10_multiply_149 : decode cX10_multiply 149 = .ok (.iaload, 1) := by decide +kernel
theorem dX10_multiply_150 : decode cX10_multiply 150 = .ok (.aload_n 0, 1) := by decide +kernel
theorem dX10_multiply_151 : decode cX10_multiply 151 = .ok (.getfield 69, 3) := by decide +kernel
theorem dX10_multiply_154 : decode cX10_multiply 154 = .ok (.iload 9, 2) := by decide +kernel
theorem dX10_multiply_156 : decode cX10_multiply 156 = .ok (.iaload, 1) := by decide +kernel
theorem dX10_multiply_157 : decode cX10_multiply 157 = .ok (.isub, 1) := by decide +kernel
theorem dX10_multiply_158 : decode cX10_multiply 158 = .ok (.iload_n 3, 1) := by decide +kernel
theorem dX10_multiply_159 : decode cX10_multiply 159 = .ok (.ifCond .eq 13, 3) := by decide +kernel
theorem dX10_multiply_162 : decode cX10_multiply 162 = .ok (.aload_n 0, 1) := by decide +kernel
theorem dX10_multiply_163 : decode cX10_multiply 163 = .ok (.iload_n 1, 1) := by decide +kernel
theorem dX10_multiply_164 : decode cX10_multiply 164 = .ok (.iload 9, 2) := by decide +kernel
theorem dX10_multiply_166 : decode cX10_multiply 166 = .ok (.invokevirtual 219, 3) := by decide +kernel
theorem dX10_multiply_169 : decode cX10_multiply 169 = .ok (.goto 4, 3) := by decide +kernel
theorem dX10_multiply_172 : decode cX10_multiply 172 = .ok (.iconst 0, 1) := by decide +kernel
theorem dX10_multiply_173 : decode cX10_multiply 173 = .ok (.iadd, 1) := by decide +kernel
theorem dX10_multiply_174 : decode cX10_multiply 174 = .ok (.invokevirtual 206, 3) := by decide +kernel
theorem dX10_multiply_177 : decode cX10_multiply 177 = .ok (.iastore, 1) := by decide +kernel
theorem dX10_multiply_178 : decode cX10_multiply 178 = .ok (.aload_n 0, 1) := by decide +kernel
theorem dX10_multiply_179 : decode cX10_multiply 179 = .ok (.getfield 66, 3) := by decide +kernel
theorem dX10_multiply_182 : decode cX10_multiply 182 = .ok (.iconst 3, 1) := by decide +kernel
theorem dX10_multiply_183 : decode cX10_multiply 183 = .ok (.iload 9, 2) := by decide +kernel
theorem dX10_multiply_185 : decode cX10_multiply 185 = .ok (.iadd, 1) := by decide +kernel
theorem dX10_multiply_186 : decode cX10_multiply 186 = .ok (.aload_n 0, 1) := by decide +kernel
theorem dX10_multiply_187 : decode cX10_multiply 187 = .ok (.aload_n 0, 1) := by decide +kernel
theorem dX10_multiply_188 : decode cX10_multiply 188 = .ok (.getfield 54, 3) := by decide +kernel
theorem dX10_multiply_191 : decode cX10_multiply 191 = .ok (.iconst 3, 1) := by decide +kernel
theorem dX10_multiply_192 : decode cX10_multiply 192 = .ok (.aload_n 0, 1) := by decide +kernel
theorem dX10_multiply_193 : decode cX10_multiply 193 = .ok (.getfield 23, 3) := by decide +kernel
theorem dX10_multiply_196 : decode cX10_multiply 196 = .ok (.iload_n 1, 1) := by decide +kernel
theorem dX10_multiply_197 : decode cX10_multiply 197 = .ok (.iaload, 1) := by decide +kernel
theorem dX10_multiply_198 : decode cX10_multiply 198 = .ok (.imul, 1) := by decide +kernel
theorem dX10_multiply_199 : decode cX10_multiply 199 = .ok (.iload 9, 2) := by decide +kernel
theorem dX10_multiply_201 : decode cX10_multiply 201 = .ok (.iadd, 1) := by decide +kernel
theorem dX10_multiply_202 : decode cX10_multiply 202 = .ok (.iaload, 1) := by decide +kernel
theorem dX10_multiply_203 : decode cX10_multiply 203 = .ok (.aload_n 0, 1) := by decide +kernel
theorem dX10_multiply_204 : decode cX10_multiply 204 = .ok (.getfield 69, 3) := by decide +kernel
theorem dX10_multiply_207 : decode cX10_multiply 207 = .ok (.iconst 3, 1) := by decide +kernel
theorem dX10_multiply_208 : decode cX10_multiply 208 = .ok (.iload 9, 2) := by decide +kernel
theorem dX10_multiply_210 : decode cX10_multiply 210 = .ok (.iadd, 1) := by decide +kernel
theorem dX10_multiply_211 : decode cX10_multiply 211 = .ok (.iaload, 1) := by decide +kernel
theorem dX10_multiply_212 : decode cX10_multiply 212 = .ok (.isub, 1) := by decide +kernel
theorem dX10_multiply_213 : decode cX10_multiply 213 = .ok (.invokevirtual 206, 3) := by decide +kernel
theorem dX10_multiply_216 : decode cX10_multiply 216 = .ok (.iastore, 1) := by decide +kernel
theorem dX10_multiply_217 : decode cX10_multiply 217 = .ok (.aload_n 0, 1) := by decide +kernel
theorem dX10_multiply_218 : decode cX10_multiply 218 = .ok (.iload 7, 2) := by decide +kernel
theorem dX10_multiply_220 : decode cX10_multiply 220 = .ok (.aload_n 0, 1) := by decide +kernel
theorem dX10_multiply_221 : decode cX10_multiply 221 = .ok (.getfield 66, 3) := by decide +kernel
theorem dX10_multiply_224 : decode cX10_multiply 224 = .ok (.iload 9, 2) := by decide +kernel
theorem dX10_multiply_226 : decode cX10_multiply 226 = .ok (.iaload, 1) := by decide +kernel
theorem dX10_multiply_227 : decode cX10_multiply 227 = .ok (.iadd, 1) := by decide +kernel
theorem dX10_multiply_228 : decode cX10_multiply 228 = .ok (.invokevirtual 206, 3) := by decide +kernel
theorem dX10_multiply_231 : decode cX10_multiply 231 = .ok (.istore 7, 2) := by decide +kernel
theorem dX10_multiply_233 : decode cX10_multiply 233 = .ok (.aload_n 0, 1) := by decide +kernel
theorem dX10_multiply_234 : decode cX10_multiply 234 = .ok (.iload 8, 2) := by decide +kernel
theorem dX10_multiply_236 : decode cX10_multiply 236 = .ok (.aload_n 0, 1) := by decide +kernel
theorem dX10_multiply_237 : decode cX10_multiply 237 = .ok (.getfield 66, 3) := by decide +kernel
theorem dX10_multiply_240 : decode cX10_multiply 240 = .ok (.iconst 3, 1) := by decide +kernel
theorem dX10_multiply_241 : decode cX10_multiply 241 = .ok (.iload 9, 2) := by decide +kernel
theorem dX10_multiply_243 : decode cX10_multiply 243 = .ok (.iadd, 1) := by decide +kernel
theorem dX10_multiply_244 : decode cX10_multiply 244 = .ok (.iaload, 1) := by decide +kernel
theorem dX10_multiply_245 : decode cX10_multiply 245 = .ok (.iadd, 1) := by decide +kernel
theorem dX10_multiply_246 : decode cX10_multiply 246 = .ok (.invokevirtual 206, 3) := by decide +kernel
theorem dX10_multiply_249 : decode cX10_multiply 249 = .ok (.istore 8, 2) := by decide +kernel
theorem dX10_multiply_251 : decode cX10_multiply 251 = .ok (.iinc 9 1, 3) := by decide +kernel
theorem dX10_multiply_254 : decode cX10_multiply 254 = .ok (.goto (-133), 3) := by decide +kernel
theorem dX10_multiply_257 : decode cX10_multiply 257 = .ok (.aload_n 0, 1) := by decide +kernel
theorem dX10_multiply_258 : decode cX10_multiply 258 = .ok (.aload_n 0, 1) := by decide +kernel
theorem dX10_multiply_259 : decode cX10_multiply 259 = .ok (.getfield 69, 3) := by decide +kernel
theorem dX10_multiply_262 : decode cX10_multiply 262 = .ok (.iload 4, 2) := by decide +kernel
theorem dX10_multiply_264 : decode cX10_multiply 264 = .ok (.iaload, 1) := by decide +kernel
theorem dX10_multiply_265 : decode cX10_multiply 265 = .ok (.invokevirtual 209, 3) := by decide +kernel
theorem dX10_multiply_268 : decode cX10_multiply 268 = .ok (.aload_n 0, 1) := by decide +kernel
theorem dX10_multiply_269 : decode cX10_multiply 269 = .ok (.aload_n 0, 1) := by decide +kernel
theorem dX10_multiply_270 : decode cX10_multiply 270 = .ok (.getfield 69, 3) := by decide +kernel
theorem dX10_multiply_273 : decode cX10_multiply 273 = .ok (.iconst 3, 1) := by decide +kernel
theorem dX10_multiply_274 : decode cX10_multiply 274 = .ok (.iload 4, 2) := by decide +kernel
theorem dX10_multiply_276 : decode cX10_multiply 276 = .ok (.iadd, 1) := by decide +kernel
theorem dX10_multiply_277 : decode cX10_multiply 277 = .ok (.iaload, 1) := by decide +kernel
theorem dX10_multiply_278 : decode cX10_multiply 278 = .ok (.invokevirtual 209, 3) := by decide +kernel
theorem dX10_multiply_281 : decode cX10_multiply 281 = .ok (.aload_n 0, 1) := by decide +kernel
theorem dX10_multiply_282 : decode cX10_multiply 282 = .ok (.aload_n 0, 1) := by decide +kernel
theorem dX10_multiply_283 : decode cX10_multiply 283 = .ok (.getfield 69, 3) := by decide +kernel
theorem dX10_multiply_286 : decode cX10_multiply 286 = .ok (.bipush 6, 2) := by decide +kernel
theorem dX10_multiply_288 : decode cX10_multiply 288 = .ok (.iload 4, 2) := by decide +kernel
theorem dX10_multiply_290 : decode cX10_multiply 290 = .ok (.iadd, 1) := by decide +kernel
theorem dX10_multiply_291 : decode cX10_multiply 291 = .ok (.iaload, 1) := by decide +kernel
theorem dX10_multiply_292 : decode cX10_multiply 292 = .ok (.invokevirtual 209, 3) := by decide +kernel
theorem dX10_multiply_295 : decode cX10_multiply 295 = .ok (.iconst 0, 1) := by decide +kernel
theorem dX10_multiply_296 : decode cX10_multiply 296 = .ok (.istore 9, 2) := by decide +kernel
theorem dX10_multiply_298 : decode cX10_multiply 298 = .ok (.iload 9, 2) := by decide +kernel
theorem dX10_multiply_300 : decode cX10_multiply 300 = .ok (.bipush 6, 2) := by decide +kernel
theorem dX10_multiply_302 : decode cX10_multiply 302 = .ok (.if_icmp .ge 20, 3) := by decide +kernel
theorem dX10_multiply_305 : decode cX10_multiply 305 = .ok (.aload_n 0, 1) := by decide +kernel
theorem dX10_multiply_306 : decode cX10_multiply 306 = .ok (.aload_n 0, 1) := by decide +kernel
theorem dX10_multiply_307 : decode cX10_multiply 307 = .ok (.getfield 66, 3) := by decide +kernel
theorem dX10_multiply_310 : decode cX10_multiply 310 = .ok (.iload 9, 2) := by decide +kernel
theorem dX10_multiply_312 : decode cX10_multiply 312 = .ok (.iaload, 1) := by decide +kernel
theorem dX10_multiply_313 : decode cX10_multiply 313 = .ok (.invokevirtual 209, 3) := by decide +kernel
theorem dX10_multiply_316 : decode cX10_multiply 316 = .ok (.iinc 9 1, 3) := by decide +kernel
theorem dX10_multiply_319 : decode cX10_multiply 319 = .ok (.goto (-21), 3) := by decide +kernel
theorem dX10_multiply_322 : decode cX10_multiply 322 = .ok (.iconst 0, 1) := by decide +kernel
theorem dX10_multiply_323 : decode cX10_multiply 323 = .ok (.istore 9, 2) := by decide +kernel
theorem dX10_multiply_325 : decode cX10_multiply 325 = .ok (.iload 9, 2) := by decide +kernel
theorem dX10_multiply_327 : decode cX10_multiply 327 = .ok (.iconst 3, 1) := by decide +kernel
theorem dX10_multiply_328 : decode cX10_multiply 328 = .ok (.if_icmp .ge 78, 3) := by decide +kernel
theorem dX10_multiply_331 : decode cX10_multiply 331 = .ok (.aload_n 0, 1) := by decide +kernel
theorem dX10_multiply_332 : decode cX10_multiply 332 = .ok (.getfield 54, 3) := by decide +kernel
theorem dX10_multiply_335 : decode cX10_multiply 335 = .ok (.iconst 3, 1) := by decide +kernel
theorem dX10_multiply_336 : decode cX10_multiply 336 = .ok (.aload_n 0, 1) := by decide +kernel
theorem dX10_multiply_337 : decode cX10_multiply 337 = .ok (.getfield 17, 3) := by decide +kernel
theorem dX10_multiply_340 : decode cX10_multiply 340 = .ok (.iload_n 1, 1) := by decide +kernel
theorem dX10_multiply_341 : decode cX10_multiply 341 = .ok (.iaload, 1) := by decide +kernel
theorem dX10_multiply_342 : decode cX10_multiply 342 = .ok (.imul, 1) := by decide +kernel
theorem dX10_multiply_343 : decode cX10_multiply 343 = .ok (.iload 9, 2) := by decide +kernel
theorem dX10_multiply_345 : decode cX10_multiply 345 = .ok (.iadd, 1) := by decide +kernel
theorem dX10_multiply_346 : decode cX10_multiply 346 = .ok (.aload_n 0, 1) := by decide +kernel
theorem dX10_multiply_347 : decode cX10_multiply 347 = .ok (.aload_n 0, 1) := by decide +kernel
theorem dX10_multiply_348 : decode cX10_multiply 348 = .ok (.getfield 69, 3) := by decide +kernel
theorem dX10_multiply_351 : decode cX10_multiply 351 = .ok (.bipush 6, 2) := by decide +kernel
theorem dX10_multiply_353 : decode cX10_multiply 353 = .ok (.iload 9, 2) := by decide +kernel
theorem dX10_multiply_355 : decode cX10_multiply 355 = .ok (.iadd, 1) := by decide +kernel
theorem dX10_multiply_356 : decode cX10_multiply 356 = .ok (.iaload, 1) := by decide +kernel
theorem dX10_multiply_357 : decode cX10_multiply 357 = .ok (.iload 7, 2) := by decide +kernel
theorem dX10_multiply_359 : decode cX10_multiply 359 = .ok (.aload_n 0, 1) := by decide +kernel
theorem dX10_multiply_360 : decode cX10_multiply 360 = .ok (.getfield 69, 3) := by decide +kernel
theorem dX10_multiply_363 : decode cX10_multiply 363 = .ok (.iconst 3, 1) := by decide +kernel
theorem dX10_multiply_364 : decode cX10_multiply 364 = .ok (.iload 9, 2) := by decide +kernel
theorem dX10_multiply_366 : decode cX10_multiply 366 = .ok (.iadd, 1) := by decide +kernel
theorem dX10_multiply_367 : decode cX10_multiply 367 = .ok (.iaload, 1) := by decide +kernel
theorem dX10_multiply_368 : decode cX10_multiply 368 = .ok (.imul, 1) := by decide +kernel
theorem dX10_multiply_369 : decode cX10_multiply 369 = .ok (.iadd, 1) := by decide +kernel
theorem dX10_multiply_370 : decode cX10_multiply 370 = .ok (.iload 8, 2) := by decide +kernel
theorem dX10_multiply_372 : decode cX10_multiply 372 = .ok (.aload_n 0, 1) := by decide +kernel
theorem dX10_multiply_373 : decode cX10_multiply 373 = .ok (.getfield 69, 3) := by decide +kernel
theorem dX10_multiply_376 : decode cX10_multiply 376 = .ok (.iload 9, 2) := by decide +kernel
theorem dX10_multiply_378 : decode cX10_multiply 378 = .ok (.iaload, 1) := by decide +kernel
theorem dX10_multiply_379 : decode cX10_multiply 379 = .ok (.imul, 1) := by decide +kernel
theorem dX10_multiply_380 : decode cX10_multiply 380 = .ok (.iadd, 1) := by decide +kernel
theorem dX10_multiply_381 : decode cX10_multiply 381 = .ok (.iload 9, 2) := by decide +kernel
theorem dX10_multiply_383 : decode cX10_multiply 383 = .ok (.ifCond .ne 11, 3) := by decide +kernel
theorem dX10_multiply_386 : decode cX10_multiply 386 = .ok (.iload 7, 2) := by decide +kernel
theorem dX10_multiply_388 : decode cX10_multiply 388 = .ok (.iload 8, 2) := by decide +kernel
theorem dX10_multiply_390 : decode cX10_multiply 390 = .ok (.imul, 1) := by decide +kernel
theorem dX10_multiply_391 : decode cX10_multiply 391 = .ok (.goto 4, 3) := by decide +kernel
theorem dX10_multiply_394 : decode cX10_multiply 394 = .ok (.iconst 0, 1) := by decide +kernel
theorem dX10_multiply_395 : decode cX10_multiply 395 = .ok (.iadd, 1) := by decide +kernel
theorem dX10_multiply_396 : decode cX10_multiply 396 = .ok (.invokevirtual 206, 3) := by decide +kernel
theorem dX10_multiply_399 : decode cX10_multiply 399 = .ok (.iastore, 1) := by decide +kernel
theorem dX10_multiply_400 : decode cX10_multiply 400 = .ok (.iinc 9 1, 3) := by decide +kernel
theorem dX10_multiply_403 : decode cX10_multiply 403 = .ok (.goto (-78), 3) := by decide +kernel
theorem dX10_multiply_406 : decode cX10_multiply 406 = .ok (.return_, 1) := by decide +kernel
set_option maxRecDepth 20000 in
theorem ggX10_runAsTold_X10_run : GoodIn wsX10_runAsTold wsX10_run := goodIn_r _ [7, 8, 9, 10, 11, 12, 13, 14, 1, 15, 16, 17, 18, 19, 20, 21, 6, 22, 23, 24, 25, 26, 27, 28, 29, 30, 31, 32, 33, 34, 35, 36, 37, 38, 39, 40, 41, 42, 43, 44, 45, 46, 47, 48, 49, 50, 51, 52, 53, 54, 55, 56, 57, 58, 59, 60, 61, 62, 63, 64, 65, 66, 67, 68, 69, 70, 71, 72, 73, 74, 75, 76, 77, 78, 79, 80, 81, 82, 83, 84, 85, 86, 87, 88, 89] (by decide +kernel) (by decide +kernel)
set_option maxRecDepth 20000 in
theorem gX10_runAsTold_X10_run : GoodIn wsX10_runAsTold (wsV RX10 223 RX10 yX10_run wsX10_run) := goodIn_app (goodIn_of _ (by decide +kernel)) ggX10_runAsTold_X10_run
theorem dX10_runAsTold_0 : decode cX10_runAsTold 0 = .ok (.iconst 0, 1) := by decide +kernel
theorem dX10_runAsTold_1 : decode cX10_runAsTold 1 = .ok (.istore_n 2, 1) := by decide +kernel
theorem dX10_runAsTold_2 : decode cX10_runAsTold 2 = .ok (.iload_n 2, 1) := by decide +kernel
theorem dX10_runAsTold_3 : decode cX10_runAsTold 3 = .ok (.bipush 40, 2) := by decide +kernel
theorem dX10_runAsTold_5 : decode cX10_runAsTold 5 = .ok (.if_icmp .ge 21, 3) := by decide +kernel
theorem dX10_runAsTold_8 : decode cX10_runAsTold 8 = .ok (.aload_n 0, 1) := by decide +kernel
theorem dX10_runAsTold_9 : decode cX10_runAsTold 9 = .ok (.getfield 60, 3) := by decide +kernel
theorem dX10_runAsTold_12 : decode cX10_runAsTold 12 = .ok (.iload_n 2, 1) := by decide +kernel
theorem dX10_runAsTold_13 : decode cX10_runAsTold 13 = .ok (.aload_n 0, 1) := by decide +kernel
theorem dX10_runAsTold_14 : decode cX10_runAsTold 14 = .ok (.getfield 42, 3) := by decide +kernel
theorem dX10_runAsTold_17 : decode cX10_runAsTold 17 = .ok (.iload_n 2, 1) := by decide +kernel
theorem dX10_runAsTold_18 : decode cX10_runAsTold 18 = .ok (.iaload, 1) := by decide +kernel
theorem dX10_runAsTold_19 : decode cX10_runAsTold 19 = .ok (.iastore, 1) := by decide +kernel
theorem dX10_runAsTold_20 : decode cX10_runAsTold 20 = .ok (.iinc 2 1, 3) := by decide +kernel
theorem dX10_runAsTold_23 : decode cX10_runAsTold 23 = .ok (.goto (-21), 3) := by decide +kernel
theorem dX10_runAsTold_26 : decode cX10_runAsTold 26 = .ok (.aload_n 0, 1) := by decide +kernel
theorem dX10_runAsTold_27 : decode cX10_runAsTold 27 = .ok (.iconst 0, 1) := by decide +kernel
theorem dX10_runAsTold_28 : decode cX10_runAsTold 28 = .ok (.iconst 1, 1) := by decide +kernel
theorem dX10_runAsTold_29 : decode cX10_runAsTold 29 = .ok (.iload_n 1, 1) := by decide +kernel
theorem dX10_runAsTold_30 : decode cX10_runAsTold 30 = .ok (.invokevirtual 223, 3) := by decide +kernel
theorem dX10_runAsTold_33 : decode cX10_runAsTold 33 = .ok (.return_, 1) := by decide +kernel
set_option maxRecDepth 20000 in
theorem ggX10_end_X10_runAsTold : GoodIn wsX10_end wsX10_runAsTold := goodIn_r _ [6, 7, 8, 9, 10, 11, 5, 12, 13, 14, 15, 16, 17, 18, 19, 20, 21, 1, 22, 23, 24, 25, 26, 27, 28, 29, 30, 31, 32, 33, 34, 35, 36, 37, 38, 39, 40, 41, 42, 43, 44, 45, 46, 47, 48, 49, 50, 51, 52, 53, 54, 55, 56, 57, 58, 59, 60, 61, 62, 63, 64, 65, 66, 67, 68, 69, 70, 71, 72, 73, 74, 75, 76, 77, 78, 79, 80, 81, 82, 83, 84, 85, 86, 87, 88, 89, 90, 91, 92, 93] (by decide +kernel) (by decide +kernel)
set_option maxRecDepth 20000 in
theorem gX10_end_X10_runAsTold : GoodIn wsX10_end (wsV RX10 227 RX10 yX10_runAsTold wsX10_runAsTold) := goodIn_app (goodIn_of _ (by decide +kernel)) ggX10_end_X10_runAsTold
theorem dX10_end_0 : decode cX10_end 0 = .ok (.aload_n 0, 1) := by decide +kernel
theorem dX10_end_1 : decode cX10_end 1 = .ok (.iconst 0, 1) := by decide +kernel
theorem dX10_end_2 : decode cX10_end 2 = .ok (.invokevirtual 227, 3) := by decide +kernel
theorem dX10_end_5 : decode cX10_end 5 = .ok (.aload_n 0, 1) := by decide +kernel
theorem dX10_end_6 : decode cX10_end 6 = .ok (.getfield 216, 3) := by decide +kernel
theorem dX10_end_9 : decode cX10_end 9 = .ok (.ireturn, 1) := by decide +kernel
set_option maxRecDepth 20000 in
theorem ggX10_share_X10_isItem : GoodIn wsX10_share wsX10_isItem := goodIn_r _ [6, 7, 8, 9, 5, 10, 58, 59, 60, 61, 62, 63, 64, 65, 66, 67, 68, 69, 70, 71, 72, 73, 74, 75, 76, 77, 78, 79, 80, 81, 82, 83, 84, 85, 86, 87, 88, 89, 90, 91, 92, 93, 94, 95, 96, 97, 98, 99, 100, 101, 102, 103, 104] (by decide +kernel) (by decide +kernel)
set_option maxRecDepth 20000 in
theorem gX10_share_X10_isItem : GoodIn wsX10_share (wsV RX10 180 RX10 yX10_isItem wsX10_isItem) := goodIn_app (goodIn_of _ (by decide +kernel)) ggX10_share_X10_isItem
set_option maxRecDepth 20000 in
theorem ggX10_share_X10_isHand : GoodIn wsX10_share wsX10_isHand := goodIn_r _ [13, 14, 8, 9, 5, 10] (by decide +kernel) (by decide +kernel)
set_option maxRecDepth 20000 in
theorem gX10_share_X10_isHand : GoodIn wsX10_share (va_wsS RX10 200 yX10_isHand wsX10_isHand) := goodIn_app (goodIn_of _ (by decide +kernel)) ggX10_share_X10_isHand
set_option maxRecDepth 20000 in
theorem ggX10_share_X10_runAsTold : GoodIn wsX10_share wsX10_runAsTold := goodIn_r _ [18, 19, 20, 21, 22, 23, 5, 24, 25, 7, 26, 27, 28, 29, 30, 31, 32, 33, 1, 34, 35, 36, 37, 38, 39, 40, 41, 42, 43, 44, 45, 46, 47, 48, 49, 50, 51, 52, 53, 54, 55, 56, 57, 58, 59, 60, 61, 62, 63, 64, 65, 66, 67, 68, 69, 70, 71, 72, 73, 74, 75, 76, 77, 78, 79, 80, 81, 82, 83, 84, 85, 86, 87, 88, 89, 90, 91, 92, 93, 94, 95, 96, 97, 98, 99, 100, 101, 102, 103, 104] (by decide +kernel) (by decide +kernel)
set_option maxRecDepth 20000 in
theorem gX10_share_X10_runAsTold : GoodIn wsX10_share (wsV RX10 227 RX10 yX10_runAsTold wsX10_runAsTold) := goodIn_app (goodIn_of _ (by decide +kernel)) ggX10_share_X10_runAsTold
theorem dX10_share_0 : decode cX10_share 0 = .ok (.aload_n 0, 1) := by decide +kernel
theorem dX10_share_1 : decode cX10_share 1 = .ok (.iload_n 1, 1) := by decide +kernel
theorem dX10_share_2 : decode cX10_share 2 = .ok (.invokevirtual 180, 3) := by decide +kernel
theorem dX10_share_5 : decode cX10_share 5 = .ok (.ifCond .eq 10, 3) := by decide +kernel
theorem dX10_share_8 : decode cX10_share 8 = .ok (.iload_n 2, 1) := by decide +kernel
theorem dX10_share_9 : decode cX10_share 9 = .ok (.invokestatic 200, 3) := by decide +kernel
theorem dX10_share_12 : decode cX10_share 12 = .ok (.ifCond .ne 5, 3) := by decide +kernel
theorem dX10_share_15 : decode cX10_share 15 = .ok (.iconst (-1), 1) := by decide +kernel
theorem dX10_share_16 : decode cX10_share 16 = .ok (.ireturn, 1) := by decide +kernel
theorem dX10_share_17 : decode cX10_share 17 = .ok (.aload_n 0, 1) := by decide +kernel
theorem dX10_share_18 : decode cX10_share 18 = .ok (.iconst 0, 1) := by decide +kernel
theorem dX10_share_19 : decode cX10_share 19 = .ok (.invokevirtual 227, 3) := by decide +kernel
theorem dX10_share_22 : decode cX10_share 22 = .ok (.aload_n 0, 1) := by decide +kernel
theorem dX10_share_23 : decode cX10_share 23 = .ok (.getfield 57, 3) := by decide +kernel
theorem dX10_share_26 : decode cX10_share 26 = .ok (.iconst 3, 1) := by decide +kernel
theorem dX10_share_27 : decode cX10_share 27 = .ok (.iload_n 1, 1) := by decide +kernel
theorem dX10_share_28 : decode cX10_share 28 = .ok (.imul, 1) := by decide +kernel
theorem dX10_share_29 : decode cX10_share 29 = .ok (.iload_n 2, 1) := by decide +kernel
theorem dX10_share_30 : decode cX10_share 30 = .ok (.iadd, 1) := by decide +kernel
theorem dX10_share_31 : decode cX10_share 31 = .ok (.iaload, 1) := by decide +kernel
theorem dX10_share_32 : decode cX10_share 32 = .ok (.ireturn, 1) := by decide +kernel
set_option maxRecDepth 20000 in
theorem ggX10_seen_X10_isHand : GoodIn wsX10_seen wsX10_isHand := goodIn_r _ [6, 7, 8, 9, 5, 10] (by decide +kernel) (by decide +kernel)
set_option maxRecDepth 20000 in
theorem gX10_seen_X10_isHand : GoodIn wsX10_seen (va_wsS RX10 200 yX10_isHand wsX10_isHand) := goodIn_app (goodIn_of _ (by decide +kernel)) ggX10_seen_X10_isHand
set_option maxRecDepth 20000 in
theorem ggX10_seen_X10_runAsTold : GoodIn wsX10_seen wsX10_runAsTold := goodIn_r _ [14, 15, 16, 17, 18, 19, 5, 20, 1, 21, 22, 23, 24, 25, 26, 27, 28, 29, 30, 31, 32, 33, 34, 35, 36, 37, 38, 39, 2, 40, 41, 42, 43, 44, 45, 46, 47, 48, 49, 50, 51, 52, 53, 54, 55, 56, 57, 58, 59, 60, 61, 62, 63, 64, 65, 66, 67, 68, 69, 70, 71, 72, 73, 74, 75, 76, 77, 78, 79, 80, 81, 82, 83, 84, 85, 86, 87, 88, 89, 90, 91, 92, 93, 94, 95, 96, 97, 98, 99, 100] (by decide +kernel) (by decide +kernel)
set_option maxRecDepth 20000 in
theorem gX10_seen_X10_runAsTold : GoodIn wsX10_seen (wsV RX10 227 RX10 yX10_runAsTold wsX10_runAsTold) := goodIn_app (goodIn_of _ (by decide +kernel)) ggX10_seen_X10_runAsTold
theorem dX10_seen_0 : decode cX10_seen 0 = .ok (.iload_n 1, 1) := by decide +kernel
theorem dX10_seen_1 : decode cX10_seen 1 = .ok (.invokestatic 200, 3) := by decide +kernel
theorem dX10_seen_4 : decode cX10_seen 4 = .ok (.ifCond .eq 8, 3) := by decide +kernel
theorem dX10_seen_7 : decode cX10_seen 7 = .ok (.iload_n 2, 1) := by decide +kernel
theorem dX10_seen_8 : decode cX10_seen 8 = .ok (.iconst (-1), 1) := by decide +kernel
theorem dX10_seen_9 : decode cX10_seen 9 = .ok (.if_icmp .ge 5, 3) := by decide +kernel
theorem dX10_seen_12 : decode cX10_seen 12 = .ok (.iconst (-1), 1) := by decide +kernel
theorem dX10_seen_13 : decode cX10_seen 13 = .ok (.ireturn, 1) := by decide +kernel
theorem dX10_seen_14 : decode cX10_seen 14 = .ok (.aload_n 0, 1) := by decide +kernel
theorem dX10_seen_15 : decode cX10_seen 15 = .ok (.iload_n 1, 1) := by decide +kernel
theorem dX10_seen_16 : decode cX10_seen 16 = .ok (.invokevirtual 227, 3) := by decide +kernel
theorem dX10_seen_19 : decode cX10_seen 19 = .ok (.iload_n 2, 1) := by decide +kernel
theorem dX10_seen_20 : decode cX10_seen 20 = .ok (.ifCond .ge 10, 3) := by decide +kernel
theorem dX10_seen_23 : decode cX10_seen 23 = .ok (.aload_n 0, 1) := by decide +kernel
theorem dX10_seen_24 : decode cX10_seen 24 = .ok (.getfield 203, 3) := by decide +kernel
theorem dX10_seen_27 : decode cX10_seen 27 = .ok (.goto 21, 3) := by decide +kernel
theorem dX10_seen_30 : decode cX10_seen 30 = .ok (.iload_n 2, 1) := by decide +kernel
theorem dX10_seen_31 : decode cX10_seen 31 = .ok (.aload_n 0, 1) := by decide +kernel
theorem dX10_seen_32 : decode cX10_seen 32 = .ok (.getfield 203, 3) := by decide +kernel
theorem dX10_seen_35 : decode cX10_seen 35 = .ok (.if_icmp .ge 12, 3) := by decide +kernel
theorem dX10_seen_38 : decode cX10_seen 38 = .ok (.aload_n 0, 1) := by decide +kernel
theorem dX10_seen_39 : decode cX10_seen 39 = .ok (.getfield 63, 3) := by decide +kernel
theorem dX10_seen_42 : decode cX10_seen 42 = .ok (.iload_n 2, 1) := by decide +kernel
theorem dX10_seen_43 : decode cX10_seen 43 = .ok (.iaload, 1) := by decide +kernel
theorem dX10_seen_44 : decode cX10_seen 44 = .ok (.goto 4, 3) := by decide +kernel
theorem dX10_seen_47 : decode cX10_seen 47 = .ok (.iconst (-1), 1) := by decide +kernel
theorem dX10_seen_48 : decode cX10_seen 48 = .ok (.ireturn, 1) := by decide +kernel
set_option maxRecDepth 20000 in
theorem ggX10_lotsTaken_X10_countOf : GoodIn wsX10_lotsTaken wsX10_countOf := goodIn_r _ [5, 6, 7, 8, 9, 10, 11, 12, 13, 14, 15, 16, 17, 18, 19, 20, 21, 22, 23, 24, 25, 26, 27, 28, 29, 30, 31, 32, 33, 34, 35, 36, 37, 38, 39, 40, 41, 42, 43, 44, 45, 46, 47, 48, 49, 50, 51, 52, 53, 54] (by decide +kernel) (by decide +kernel)
set_option maxRecDepth 20000 in
theorem gX10_lotsTaken_X10_countOf : GoodIn wsX10_lotsTaken (wsV RX10 192 RX10 yX10_countOf wsX10_countOf) := goodIn_app (goodIn_of _ (by decide +kernel)) ggX10_lotsTaken_X10_countOf
theorem dX10_lotsTaken_0 : decode cX10_lotsTaken 0 = .ok (.iconst 2, 1) := by decide +kernel
theorem dX10_lotsTaken_1 : decode cX10_lotsTaken 1 = .ok (.aload_n 0, 1) := by decide +kernel
theorem dX10_lotsTaken_2 : decode cX10_lotsTaken 2 = .ok (.iconst 0, 1) := by decide +kernel
theorem dX10_lotsTaken_3 : decode cX10_lotsTaken 3 = .ok (.invokevirtual 192, 3) := by decide +kernel
theorem dX10_lotsTaken_6 : decode cX10_lotsTaken 6 = .ok (.imul, 1) := by decide +kernel
theorem dX10_lotsTaken_7 : decode cX10_lotsTaken 7 = .ok (.bipush 8, 2) := by decide +kernel
theorem dX10_lotsTaken_9 : decode cX10_lotsTaken 9 = .ok (.aload_n 0, 1) := by decide +kernel
theorem dX10_lotsTaken_10 : decode cX10_lotsTaken 10 = .ok (.iconst 4, 1) := by decide +kernel
theorem dX10_lotsTaken_11 : decode cX10_lotsTaken 11 = .ok (.invokevirtual 192, 3) := by decide +kernel
theorem dX10_lotsTaken_14 : decode cX10_lotsTaken 14 = .ok (.imul, 1) := by decide +kernel
theorem dX10_lotsTaken_15 : decode cX10_lotsTaken 15 = .ok (.iadd, 1) := by decide +kernel
theorem dX10_lotsTaken_16 : decode cX10_lotsTaken 16 = .ok (.ireturn, 1) := by decide +kernel
theorem dX10_power_0 : decode cX10_power 0 = .ok (.iconst 1, 1) := by decide +kernel
theorem dX10_power_1 : decode cX10_power 1 = .ok (.istore_n 2, 1) := by decide +kernel
theorem dX10_power_2 : decode cX10_power 2 = .ok (.iconst 0, 1) := by decide +kernel
theorem dX10_power_3 : decode cX10_power 3 = .ok (.istore_n 3, 1) := by decide +kernel
theorem dX10_power_4 : decode cX10_power 4 = .ok (.iload_n 3, 1) := by decide +kernel
theorem dX10_power_5 : decode cX10_power 5 = .ok (.iload_n 1, 1) := by decide +kernel
theorem dX10_power_6 : decode cX10_power 6 = .ok (.if_icmp .ge 23, 3) := by decide +kernel
theorem dX10_power_9 : decode cX10_power 9 = .ok (.iload_n 2, 1) := by decide +kernel
theorem dX10_power_10 : decode cX10_power 10 = .ok (.sipush 4096, 3) := by decide +kernel
theorem dX10_power_13 : decode cX10_power 13 = .ok (.if_icmp .gt 16, 3) := by decide +kernel
theorem dX10_power_16 : decode cX10_power 16 = .ok (.iload_n 2, 1) := by decide +kernel
theorem dX10_power_17 : decode cX10_power 17 = .ok (.aload_n 0, 1) := by decide +kernel
theorem dX10_power_18 : decode cX10_power 18 = .ok (.getfield 35, 3) := by decide +kernel
theorem dX10_power_21 : decode cX10_power 21 = .ok (.imul, 1) := by decide +kernel
theorem dX10_power_22 : decode cX10_power 22 = .ok (.istore_n 2, 1) := by decide +kernel
theorem dX10_power_23 : decode cX10_power 23 = .ok (.iinc 3 1, 3) := by decide +kernel
theorem dX10_power_26 : decode cX10_power 26 = .ok (.goto (-22), 3) := by decide +kernel
theorem dX10_power_29 : decode cX10_power 29 = .ok (.iload_n 2, 1) := by decide +kernel
theorem dX10_power_30 : decode cX10_power 30 = .ok (.sipush 4096, 3) := by decide +kernel
theorem dX10_power_33 : decode cX10_power 33 = .ok (.if_icmp .le 9, 3) := by decide +kernel
theorem dX10_power_36 : decode cX10_power 36 = .ok (.sipush 4097, 3) := by decide +kernel
theorem dX10_power_39 : decode cX10_power 39 = .ok (.goto 4, 3) := by decide +kernel
theorem dX10_power_42 : decode cX10_power 42 = .ok (.iload_n 2, 1) := by decide +kernel
theorem dX10_power_43 : decode cX10_power 43 = .ok (.ireturn, 1) := by decide +kernel
set_option maxRecDepth 20000 in
theorem ggX10_findRows_X10_lotsTaken : GoodIn wsX10_findRows wsX10_lotsTaken := goodIn_r _ [10, 11, 12, 13, 9, 14, 15, 16, 55, 56, 57, 58, 59, 60, 61, 62, 63, 64, 65, 66, 67, 68, 69, 70, 71, 72, 73, 74, 75, 76, 77, 78, 79, 80, 81, 82, 83, 84, 85, 86, 87, 88, 89, 90, 91, 92, 93, 94, 95, 96, 97, 98, 99, 100, 101] (by decide +kernel) (by decide +kernel)
set_option maxRecDepth 20000 in
theorem gX10_findRows_X10_lotsTaken : GoodIn wsX10_findRows (wsV RX10 230 RX10 yX10_lotsTaken wsX10_lotsTaken) := goodIn_app (goodIn_of _ (by decide +kernel)) ggX10_findRows_X10_lotsTaken
set_option maxRecDepth 20000 in
theorem ggX10_findRows_X10_run : GoodIn wsX10_findRows wsX10_run := goodIn_r _ [20, 3, 15, 21, 22, 23, 16, 24, 1, 25, 26, 27, 28, 29, 30, 31, 9, 32, 2, 33, 34, 35, 36, 4, 37, 38, 39, 40, 41, 42, 43, 44, 45, 46, 47, 48, 49, 50, 55, 56, 57, 58, 59, 60, 61, 62, 63, 64, 65, 66, 67, 68, 69, 70, 71, 72, 73, 74, 75, 76, 77, 78, 79, 80, 81, 82, 83, 84, 85, 86, 87, 88, 89, 90, 91, 92, 93, 94, 95, 96, 97, 98, 99, 100, 101] (by decide +kernel) (by decide +kernel)
set_option maxRecDepth 20000 in
theorem gX10_findRows_X10_run : GoodIn wsX10_findRows (wsV RX10 223 RX10 yX10_run wsX10_run) := goodIn_app (goodIn_of _ (by decide +kernel)) ggX10_findRows_X10_run
set_option maxRecDepth 20000 in
theorem ggX10_findRows_X10_order : GoodIn wsX10_findRows wsX10_order := goodIn_r _ [54, 5, 55, 56, 57, 58, 59, 60, 61, 62, 63, 64, 65, 66, 67, 68, 69, 70, 71, 72, 73, 74, 75, 76, 77, 78, 79, 80, 81, 82, 83, 84, 85, 86, 87, 88, 89, 90, 91, 92, 93, 94, 95, 96, 97, 98, 99, 100, 101] (by decide +kernel) (by decide +kernel)
set_option maxRecDepth 20000 in
theorem gX10_findRows_X10_order : GoodIn wsX10_findRows (wsV RX10 233 RX10 yX10_order wsX10_order) := goodIn_app (goodIn_of _ (by decide +kernel)) ggX10_findRows_X10_order
theorem dX10_findRows_0 : decode cX10_findRows 0 = .ok (.aload_n 0, 1) := by decide +kernel
theorem dX10_findRows_1 : decode cX10_findRows 1 = .ok (.invokevirtual 230, 3) := by decide +kernel
theorem dX10_findRows_4 : decode cX10_findRows 4 = .ok (.istore 4, 2) := by decide +kernel
theorem dX10_findRows_6 : decode cX10_findRows 6 = .ok (.iconst 0, 1) := by decide +kernel
theorem dX10_findRows_7 : decode cX10_findRows 7 = .ok (.istore 5, 2) := by decide +kernel
theorem dX10_findRows_9 : decode cX10_findRows 9 = .ok (.iload 5, 2) := by decide +kernel
theorem dX10_findRows_11 : decode cX10_findRows 11 = .ok (.iload_n 3, 1) := by decide +kernel
theorem dX10_findRows_12 : decode cX10_findRows 12 = .ok (.if_icmp .ge 114, 3) := by decide +kernel
theorem dX10_findRows_15 : decode cX10_findRows 15 = .ok (.iload 5, 2) := by decide +kernel
theorem dX10_findRows_17 : decode cX10_findRows 17 = .ok (.istore 6, 2) := by decide +kernel

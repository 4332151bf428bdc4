theorem dX10_opened_187 : decode cX10_opened 187 = .ok (.istore 6, 2) := by decide +kernel
theorem dX10_opened_189 : decode cX10_opened 189 = .ok (.iload 9, 2) := by decide +kernel
theorem dX10_opened_191 : decode cX10_opened 191 = .ok (.aload_n 0, 1) := by decide +kernel
theorem dX10_opened_192 : decode cX10_opened 192 = .ok (.getfield 85, 3) := by decide +kernel
theorem dX10_opened_195 : decode cX10_opened 195 = .ok (.irem, 1) := by decide +kernel
theorem dX10_opened_196 : decode cX10_opened 196 = .ok (.istore 7, 2) := by decide +kernel
theorem dX10_opened_198 : decode cX10_opened 198 = .ok (.iload 10, 2) := by decide +kernel
theorem dX10_opened_200 : decode cX10_opened 200 = .ok (.istore 8, 2) := by decide +kernel
theorem dX10_opened_202 : decode cX10_opened 202 = .ok (.iload 6, 2) := by decide +kernel
theorem dX10_opened_204 : decode cX10_opened 204 = .ok (.iload 11, 2) := by decide +kernel
theorem dX10_opened_206 : decode cX10_opened 206 = .ok (.iload 5, 2) := by decide +kernel
theorem dX10_opened_208 : decode cX10_opened 208 = .ok (.if_icmp .ne 7, 3) := by decide +kernel
theorem dX10_opened_211 : decode cX10_opened 211 = .ok (.iconst 1, 1) := by decide +kernel
theorem dX10_opened_212 : decode cX10_opened 212 = .ok (.goto 4, 3) := by decide +kernel
theorem dX10_opened_215 : decode cX10_opened 215 = .ok (.iconst 0, 1) := by decide +kernel
theorem dX10_opened_216 : decode cX10_opened 216 = .ok (.iadd, 1) := by decide +kernel
theorem dX10_opened_217 : decode cX10_opened 217 = .ok (.istore 6, 2) := by decide +kernel
theorem dX10_opened_219 : decode cX10_opened 219 = .ok (.iinc 9 1, 3) := by decide +kernel
theorem dX10_opened_222 : decode cX10_opened 222 = .ok (.goto (-180), 3) := by decide +kernel
theorem dX10_opened_225 : decode cX10_opened 225 = .ok (.iload 6, 2) := by decide +kernel
theorem dX10_opened_227 : decode cX10_opened 227 = .ok (.iconst 1, 1) := by decide +kernel
theorem dX10_opened_228 : decode cX10_opened 228 = .ok (.if_icmp .ne 22, 3) := by decide +kernel
theorem dX10_opened_231 : decode cX10_opened 231 = .ok (.iconst 2, 1) := by decide +kernel
theorem dX10_opened_232 : decode cX10_opened 232 = .ok (.iload 5, 2) := by decide +kernel
theorem dX10_opened_234 : decode cX10_opened 234 = .ok (.iload_n 2, 1) := by decide +kernel
theorem dX10_opened_235 : decode cX10_opened 235 = .ok (.isub, 1) := by decide +kernel
theorem dX10_opened_236 : decode cX10_opened 236 = .ok (.imul, 1) := by decide +kernel
theorem dX10_opened_237 : decode cX10_opened 237 = .ok (.iload_n 1, 1) := by decide +kernel
theorem dX10_opened_238 : decode cX10_opened 238 = .ok (.invokestatic 251, 3) := by decide +kernel
theorem dX10_opened_241 : decode cX10_opened 241 = .ok (.iload_n 2, 1) := by decide +kernel
theorem dX10_opened_242 : decode cX10_opened 242 = .ok (.isub, 1) := by decide +kernel
theorem dX10_opened_243 : decode cX10_opened 243 = .ok (.if_icmp .le 7, 3) := by decide +kernel
theorem dX10_opened_246 : decode cX10_opened 246 = .ok (.iconst 1, 1) := by decide +kernel
theorem dX10_opened_247 : decode cX10_opened 247 = .ok (.goto 4, 3) := by decide +kernel
theorem dX10_opened_250 : decode cX10_opened 250 = .ok (.iconst 0, 1) := by decide +kernel
theorem dX10_opened_251 : decode cX10_opened 251 = .ok (.istore 9, 2) := by decide +kernel
theorem dX10_opened_253 : decode cX10_opened 253 = .ok (.iload 9, 2) := by decide +kernel
theorem dX10_opened_255 : decode cX10_opened 255 = .ok (.ifCond .ne 8, 3) := by decide +kernel
theorem dX10_opened_258 : decode cX10_opened 258 = .ok (.bipush (-9), 2) := by decide +kernel
theorem dX10_opened_260 : decode cX10_opened 260 = .ok (.goto 18, 3) := by decide +kernel
theorem dX10_opened_263 : decode cX10_opened 263 = .ok (.iload_n 3, 1) := by decide +kernel
theorem dX10_opened_264 : decode cX10_opened 264 = .ok (.ifCond .ne 8, 3) := by decide +kernel
theorem dX10_opened_267 : decode cX10_opened 267 = .ok (.iload 7, 2) := by decide +kernel
theorem dX10_opened_269 : decode cX10_opened 269 = .ok (.goto 9, 3) := by decide +kernel
theorem dX10_opened_272 : decode cX10_opened 272 = .ok (.iload_n 1, 1) := by decide +kernel
theorem dX10_opened_273 : decode cX10_opened 273 = .ok (.iload 8, 2) := by decide +kernel
theorem dX10_opened_275 : decode cX10_opened 275 = .ok (.iconst (-1), 1) := by decide +kernel
theorem dX10_opened_276 : decode cX10_opened 276 = .ok (.ixor, 1) := by decide +kernel
theorem dX10_opened_277 : decode cX10_opened 277 = .ok (.iand, 1) := by decide +kernel
theorem dX10_opened_278 : decode cX10_opened 278 = .ok (.ireturn, 1) := by decide +kernel
set_option maxRecDepth 20000 in
theorem ggX10_isSet_X10_in : GoodIn wsX10_isSet wsX10_in := goodIn_r _ [5] rfl (by decide +kernel)
set_option maxRecDepth 20000 in
theorem gX10_isSet_X10_in : GoodIn wsX10_isSet (va_wsS RX10 117 yX10_in wsX10_in) := goodIn_app (goodIn_of _ (by decide +kernel)) ggX10_isSet_X10_in
theorem dX10_isSet_0 : decode cX10_isSet 0 = .ok (.iload_n 1, 1) := by decide +kernel
theorem dX10_isSet_1 : decode cX10_isSet 1 = .ok (.i2l, 1) := by decide +kernel
theorem dX10_isSet_2 : decode cX10_isSet 2 = .ok (.lconst 0, 1) := by decide +kernel
theorem dX10_isSet_3 : decode cX10_isSet 3 = .ok (.iconst 1, 1) := by decide +kernel
theorem dX10_isSet_4 : decode cX10_isSet 4 = .ok (.aload_n 0, 1) := by decide +kernel
theorem dX10_isSet_5 : decode cX10_isSet 5 = .ok (.getfield 91, 3) := by decide +kernel
theorem dX10_isSet_8 : decode cX10_isSet 8 = .ok (.ishl, 1) := by decide +kernel
theorem dX10_isSet_9 : decode cX10_isSet 9 = .ok (.iconst 1, 1) := by decide +kernel
theorem dX10_isSet_10 : decode cX10_isSet 10 = .ok (.isub, 1) := by decide +kernel
theorem dX10_isSet_11 : decode cX10_isSet 11 = .ok (.i2l, 1) := by decide +kernel
theorem dX10_isSet_12 : decode cX10_isSet 12 = .ok (.invokestatic 117, 3) := by decide +kernel
theorem dX10_isSet_15 : decode cX10_isSet 15 = .ok (.ireturn, 1) := by decide +kernel
set_option maxRecDepth 20000 in
theorem ggX10_open_X10_isSet : GoodIn wsX10_open wsX10_isSet := goodIn_r _ [8, 1, 9, 10, 7, 11, 26, 27, 28, 29, 30, 31, 32, 33, 34, 35, 36, 37, 38, 39, 40, 41, 42, 43, 44, 45, 46, 47, 48, 49, 50, 51, 52, 53, 54, 55, 56, 57, 58, 59, 60, 61, 62, 63, 64, 65, 66, 67, 68, 69, 70, 71, 72] rfl (by decide +kernel)
set_option maxRecDepth 20000 in
theorem gX10_open_X10_isSet : GoodIn wsX10_open (wsV RX10 273 RX10 yX10_isSet wsX10_isSet) := goodIn_app (goodIn_of _ (by decide +kernel)) ggX10_open_X10_isSet
set_option maxRecDepth 20000 in
theorem ggX10_open_X10_in : GoodIn wsX10_open wsX10_in := goodIn_r _ [11] rfl (by decide +kernel)
set_option maxRecDepth 20000 in
theorem gX10_open_X10_in : GoodIn wsX10_open (va_wsS RX10 117 yX10_in wsX10_in) := goodIn_app (goodIn_of _ (by decide +kernel)) ggX10_open_X10_in
set_option maxRecDepth 20000 in
theorem ggX10_open_X10_pointOf : GoodIn wsX10_open wsX10_pointOf := goodIn_r _ [15, 16, 17, 18, 26, 27, 28, 29, 30, 31, 32, 33, 34, 35, 36, 37, 38, 39, 40, 41, 42, 43, 44, 45, 46, 47, 48, 49, 50, 51, 52, 53, 54, 55, 56, 57, 58, 59, 60, 61, 62, 63, 64, 65, 66, 67, 68, 69, 70, 71, 72] rfl (by decide +kernel)
set_option maxRecDepth 20000 in
theorem gX10_open_X10_pointOf : GoodIn wsX10_open (wsV RX10 270 RX10 yX10_pointOf wsX10_pointOf) := goodIn_app (goodIn_of _ (by decide +kernel)) ggX10_open_X10_pointOf
set_option maxRecDepth 20000 in
theorem ggX10_open_X10_opened : GoodIn wsX10_open wsX10_opened := goodIn_r _ [22, 18, 1, 2, 23, 24, 7, 25, 26, 27, 28, 29, 30, 31, 32, 33, 34, 35, 36, 37, 38, 39, 40, 41, 42, 43, 44, 45, 46, 47, 48, 49, 50, 51, 52, 53, 54, 55, 56, 57, 58, 59, 60, 61, 62, 63, 64, 65, 66, 67, 68, 69, 70, 71, 72] rfl (by decide +kernel)
set_option maxRecDepth 20000 in
theorem gX10_open_X10_opened : GoodIn wsX10_open (wsV RX10 276 RX10 yX10_opened wsX10_opened) := goodIn_app (goodIn_of _ (by decide +kernel)) ggX10_open_X10_opened
theorem dX10_open_0 : decode cX10_open 0 = .ok (.aload_n 0, 1) := by decide +kernel
theorem dX10_open_1 : decode cX10_open 1 = .ok (.iload_n 1, 1) := by decide +kernel
theorem dX10_open_2 : decode cX10_open 2 = .ok (.invokevirtual 273, 3) := by decide +kernel
theorem dX10_open_5 : decode cX10_open 5 = .ok (.ifCond .eq 13, 3) := by decide +kernel
theorem dX10_open_8 : decode cX10_open 8 = .ok (.iload_n 2, 1) := by decide +kernel
theorem dX10_open_9 : decode cX10_open 9 = .ok (.i2l, 1) := by decide +kernel
theorem dX10_open_10 : decode cX10_open 10 = .ok (.lconst 0, 1) := by decide +kernel
theorem dX10_open_11 : decode cX10_open 11 = .ok (.lconst 1, 1) := by decide +kernel
theorem dX10_open_12 : decode cX10_open 12 = .ok (.invokestatic 117, 3) := by decide +kernel
theorem dX10_open_15 : decode cX10_open 15 = .ok (.ifCond .ne 5, 3) := by decide +kernel
theorem dX10_open_18 : decode cX10_open 18 = .ok (.iconst (-1), 1) := by decide +kernel
theorem dX10_open_19 : decode cX10_open 19 = .ok (.ireturn, 1) := by decide +kernel
theorem dX10_open_20 : decode cX10_open 20 = .ok (.iconst 0, 1) := by decide +kernel
theorem dX10_open_21 : decode cX10_open 21 = .ok (.istore_n 3, 1) := by decide +kernel
theorem dX10_open_22 : decode cX10_open 22 = .ok (.iload_n 3, 1) := by decide +kernel
theorem dX10_open_23 : decode cX10_open 23 = .ok (.aload_n 0, 1) := by decide +kernel
theorem dX10_open_24 : decode cX10_open 24 = .ok (.getfield 91, 3) := by decide +kernel
theorem dX10_open_27 : decode cX10_open 27 = .ok (.if_icmp .ge 20, 3) := by decide +kernel
theorem dX10_open_30 : decode cX10_open 30 = .ok (.aload_n 0, 1) := by decide +kernel
theorem dX10_open_31 : decode cX10_open 31 = .ok (.getfield 109, 3) := by decide +kernel
theorem dX10_open_34 : decode cX10_open 34 = .ok (.iload_n 3, 1) := by decide +kernel
theorem dX10_open_35 : decode cX10_open 35 = .ok (.aload_n 0, 1) := by decide +kernel
theorem dX10_open_36 : decode cX10_open 36 = .ok (.iload_n 3, 1) := by decide +kernel
theorem dX10_open_37 : decode cX10_open 37 = .ok (.invokevirtual 270, 3) := by decide +kernel
theorem dX10_open_40 : decode cX10_open 40 = .ok (.iastore, 1) := by decide +kernel
theorem dX10_open_41 : decode cX10_open 41 = .ok (.iinc 3 1, 3) := by decide +kernel
theorem dX10_open_44 : decode cX10_open 44 = .ok (.goto (-22), 3) := by decide +kernel
theorem dX10_open_47 : decode cX10_open 47 = .ok (.aload_n 0, 1) := by decide +kernel
theorem dX10_open_48 : decode cX10_open 48 = .ok (.iload_n 1, 1) := by decide +kernel
theorem dX10_open_49 : decode cX10_open 49 = .ok (.aload_n 0, 1) := by decide +kernel
theorem dX10_open_50 : decode cX10_open 50 = .ok (.getfield 88, 3) := by decide +kernel
theorem dX10_open_53 : decode cX10_open 53 = .ok (.iload_n 2, 1) := by decide +kernel
theorem dX10_open_54 : decode cX10_open 54 = .ok (.invokevirtual 276, 3) := by decide +kernel
theorem dX10_open_57 : decode cX10_open 57 = .ok (.ireturn, 1) := by decide +kernel
set_option maxRecDepth 20000 in
theorem ggX10_product_X10_isSet : GoodIn wsX10_product wsX10_isSet := goodIn_r _ [9, 2, 10, 11, 8, 12, 26, 27, 28, 29, 30, 31, 32, 33, 34, 35, 36, 37, 38, 39, 40, 41, 42, 43, 44, 45, 46, 47, 48, 49, 50, 51, 52, 53, 54, 55, 56, 57, 58, 59, 60, 61, 62, 63, 64, 65, 66, 67, 68, 69, 70, 71, 72] rfl (by decide +kernel)
set_option maxRecDepth 20000 in
theorem gX10_product_X10_isSet : GoodIn wsX10_product (wsV RX10 273 RX10 yX10_isSet wsX10_isSet) := goodIn_app (goodIn_of _ (by decide +kernel)) ggX10_product_X10_isSet
set_option maxRecDepth 20000 in
theorem ggX10_product_X10_in : GoodIn wsX10_product wsX10_in := goodIn_r _ [12] rfl (by decide +kernel)
set_option maxRecDepth 20000 in
theorem gX10_product_X10_in : GoodIn wsX10_product (va_wsS RX10 117 yX10_in wsX10_in) := goodIn_app (goodIn_of _ (by decide +kernel)) ggX10_product_X10_in
set_option maxRecDepth 20000 in
theorem ggX10_product_X10_bitsIn : GoodIn wsX10_product wsX10_bitsIn := goodIn_r _ [15] rfl (by decide +kernel)
set_option maxRecDepth 20000 in
theorem gX10_product_X10_bitsIn : GoodIn wsX10_product (va_wsS RX10 251 yX10_bitsIn wsX10_bitsIn) := goodIn_app (goodIn_of _ (by decide +kernel)) ggX10_product_X10_bitsIn
set_option maxRecDepth 20000 in
theorem ggX10_product_X10_pointOf : GoodIn wsX10_product wsX10_pointOf := goodIn_r _ [19, 20, 21, 4, 26, 27, 28, 29, 30, 31, 32, 33, 34, 35, 36, 37, 38, 39, 40, 41, 42, 43, 44, 45, 46, 47, 48, 49, 50, 51, 52, 53, 54, 55, 56, 57, 58, 59, 60, 61, 62, 63, 64, 65, 66, 67, 68, 69, 70, 71, 72] rfl (by decide +kernel)
set_option maxRecDepth 20000 in
theorem gX10_product_X10_pointOf : GoodIn wsX10_product (wsV RX10 270 RX10 yX10_pointOf wsX10_pointOf) := goodIn_app (goodIn_of _ (by decide +kernel)) ggX10_product_X10_pointOf
set_option maxRecDepth 20000 in
theorem ggX10_product_X10_opened : GoodIn wsX10_product wsX10_opened := goodIn_r _ [25, 4, 2, 3, 13, 14, 8, 15, 26, 27, 28, 29, 30, 31, 32, 33, 34, 35, 36, 37, 38, 39, 40, 41, 42, 43, 44, 45, 46, 47, 48, 49, 50, 51, 52, 53, 54, 55, 56, 57, 58, 59, 60, 61, 62, 63, 64, 65, 66, 67, 68, 69, 70, 71, 72] rfl (by decide +kernel)
set_option maxRecDepth 20000 in
theorem gX10_product_X10_opened : GoodIn wsX10_product (wsV RX10 276 RX10 yX10_opened wsX10_opened) := goodIn_app (goodIn_of _ (by decide +kernel)) ggX10_product_X10_opened
theorem dX10_product_0 : decode cX10_product 0 = .ok (.aload_n 0, 1) := by decide +kernel
theorem dX10_product_1 : decode cX10_product 1 = .ok (.iload_n 1, 1) := by decide +kernel
theorem dX10_product_2 : decode cX10_product 2 = .ok (.invokevirtual 273, 3) := by decide +kernel
theorem dX10_product_5 : decode cX10_product 5 = .ok (.ifCond .eq 13, 3) := by decide +kernel
theorem dX10_product_8 : decode cX10_product 8 = .ok (.iload_n 2, 1) := by decide +kernel
theorem dX10_product_9 : decode cX10_product 9 = .ok (.i2l, 1) := by decide +kernel
theorem dX10_product_10 : decode cX10_product 10 = .ok (.lconst 0, 1) := by decide +kernel
theorem dX10_product_11 : decode cX10_product 11 = .ok (.lconst 1, 1) := by decide +kernel
theorem dX10_product_12 : decode cX10_product 12 = .ok (.invokestatic 117, 3) := by decide +kernel
theorem dX10_product_15 : decode cX10_product 15 = .ok (.ifCond .ne 5, 3) := by decide +kernel
theorem dX10_product_18 : decode cX10_product 18 = .ok (.iconst (-1), 1) := by decide +kernel
theorem dX10_product_19 : decode cX10_product 19 = .ok (.ireturn, 1) := by decide +kernel
theorem dX10_product_20 : decode cX10_product 20 = .ok (.iload_n 1, 1) := by decide +kernel
theorem dX10_product_21 : decode cX10_product 21 = .ok (.invokestatic 251, 3) := by decide +kernel
theorem dX10_product_24 : decode cX10_product 24 = .ok (.iconst 2, 1) := by decide +kernel
theorem dX10_product_25 : decode cX10_product 25 = .ok (.aload_n 0, 1) := by decide +kernel
theorem dX10_product_26 : decode cX10_product 26 = .ok (.getfield 88, 3) := by decide +kernel
theorem dX10_product_29 : decode cX10_product 29 = .ok (.imul, 1) := by decide +kernel
theorem dX10_product_30 : decode cX10_product 30 = .ok (.if_icmp .gt 6, 3) := by decide +kernel
theorem dX10_product_33 : decode cX10_product 33 = .ok (.bipush (-2), 2) := by decide +kernel
theorem dX10_product_35 : decode cX10_product 35 = .ok (.ireturn, 1) := by decide +kernel
theorem dX10_product_36 : decode cX10_product 36 = .ok (.iconst 0, 1) := by decide +kernel
theorem dX10_product_37 : decode cX10_product 37 = .ok (.istore_n 3, 1) := by decide +kernel
theorem dX10_product_38 : decode cX10_product 38 = .ok (.iload_n 3, 1) := by decide +kernel
theorem dX10_product_39 : decode cX10_product 39 = .ok (.aload_n 0, 1) := by decide +kernel
theorem dX10_product_40 : decode cX10_product 40 = .ok (.getfield 91, 3) := by decide +kernel
theorem dX10_product_43 : decode cX10_product 43 = .ok (.if_icmp .ge 31, 3) := by decide +kernel
theorem dX10_product_46 : decode cX10_product 46 = .ok (.aload_n 0, 1) := by decide +kernel
theorem dX10_product_47 : decode cX10_product 47 = .ok (.getfield 109, 3) := by decide +kernel
theorem dX10_product_50 : decode cX10_product 50 = .ok (.iload_n 3, 1) := by decide +kernel
theorem dX10_product_51 : decode cX10_product 51 = .ok (.aload_n 0, 1) := by decide +kernel
theorem dX10_product_52 : decode cX10_product 52 = .ok (.iload_n 3, 1) := by decide +kernel
theorem dX10_product_53 : decode cX10_product 53 = .ok (.invokevirtual 270, 3) := by decide +kernel
theorem dX10_product_56 : decode cX10_product 56 = .ok (.aload_n 0, 1) := by decide +kernel
theorem dX10_product_57 : decode cX10_product 57 = .ok (.iload_n 3, 1) := by decide +kernel
theorem dX10_product_58 : decode cX10_product 58 = .ok (.invokevirtual 270, 3) := by decide +kernel
theorem dX10_product_61 : decode cX10_product 61 = .ok (.imul, 1) := by decide +kernel
theorem dX10_product_62 : decode cX10_product 62 = .ok (.aload_n 0, 1) := by decide +kernel
theorem dX10_product_63 : decode cX10_product 63 = .ok (.getfield 85, 3) := by decide +kernel
theorem dX10_product_66 : decode cX10_product 66 = .ok (.irem, 1) := by decide +kernel
theorem dX10_product_67 : decode cX10_product 67 = .ok (.iastore, 1) := by decide +kernel
theorem dX10_product_68 : decode cX10_product 68 = .ok (.iinc 3 1, 3) := by decide +kernel
theorem dX10_product_71 : decode cX10_product 71 = .ok (.goto (-33), 3) := by decide +kernel
theorem dX10_product_74 : decode cX10_product 74 = .ok (.aload_n 0, 1) := by decide +kernel
theorem dX10_product_75 : decode cX10_product 75 = .ok (.iload_n 1, 1) := by decide +kernel
theorem dX10_product_76 : decode cX10_product 76 = .ok (.iconst 2, 1) := by decide +kernel
theorem dX10_product_77 : decode cX10_product 77 = .ok (.aload_n 0, 1) := by decide +kernel
theorem dX10_product_78 : decode cX10_product 78 = .ok (.getfield 88, 3) := by decide +kernel
theorem dX10_product_81 : decode cX10_product 81 = .ok (.imul, 1) := by decide +kernel
theorem dX10_product_82 : decode cX10_product 82 = .ok (.iload_n 2, 1) := by decide +kernel
theorem dX10_product_83 : decode cX10_product 83 = .ok (.invokevirtual 276, 3) := by decide +kernel
theorem dX10_product_86 : decode cX10_product 86 = .ok (.ireturn, 1) := by decide +kernel
set_option maxRecDepth 20000 in
theorem ggX10_month_X10_in : GoodIn wsX10_month wsX10_in := goodIn_r _ [6] rfl (by decide +kernel)
set_option maxRecDepth 20000 in
theorem gX10_month_X10_in : GoodIn wsX10_month (va_wsS RX10 117 yX10_in wsX10_in) := goodIn_app (goodIn_of _ (by decide +kernel)) ggX10_month_X10_in
theorem dX10_month_0 : decode cX10_month 0 = .ok (.iload_n 1, 1) := by decide +kernel
theorem dX10_month_1 : decode cX10_month 1 = .ok (.i2l, 1) := by decide +kernel
theorem dX10_month_2 : decode cX10_month 2 = .ok (.lconst 0, 1) := by decide +kernel
theorem dX10_month_3 : decode cX10_month 3 = .ok (.lconst 1, 1) := by decide +kernel
theorem dX10_month_4 : decode cX10_month 4 = .ok (.invokestatic 117, 3) := by decide +kernel
theorem dX10_month_7 : decode cX10_month 7 = .ok (.ifCond .ne 5, 3) := by decide +kernel
theorem dX10_month_10 : decode cX10_month 10 = .ok (.iconst (-1), 1) := by decide +kernel
theorem dX10_month_11 : decode cX10_month 11 = .ok (.ireturn, 1) := by decide +kernel
theorem dX10_month_12 : decode cX10_month 12 = .ok (.aload_n 0, 1) := by decide +kernel
theorem dX10_month_13 : decode cX10_month 13 = .ok (.getfield 261, 3) := by decide +kernel
theorem dX10_month_16 : decode cX10_month 16 = .ok (.bipush 29, 2) := by decide +kernel
theorem dX10_month_18 : decode cX10_month 18 = .ok (.if_icmp .ne 6, 3) := by decide +kernel
theorem dX10_month_21 : decode cX10_month 21 = .ok (.bipush (-3), 2) := by decide +kernel
theorem dX10_month_23 : decode cX10_month 23 = .ok (.ireturn, 1) := by decide +kernel
theorem dX10_month_24 : decode cX10_month 24 = .ok (.aload_n 0, 1) := by decide +kernel
theorem dX10_month_25 : decode cX10_month 25 = .ok (.dup, 1) := by decide +kernel
theorem dX10_month_26 : decode cX10_month 26 = .ok (.getfield 261, 3) := by decide +kernel
theorem dX10_month_29 : decode cX10_month 29 = .ok (.iconst 1, 1) := by decide +kernel
theorem dX10_month_30 : decode cX10_month 30 = .ok (.iadd, 1) := by decide +kernel
theorem dX10_month_31 : decode cX10_month 31 = .ok (.putfield 261, 3) := by decide +kernel
theorem dX10_month_34 : decode cX10_month 34 = .ok (.aload_n 0, 1) := by decide +kernel
theorem dX10_month_35 : decode cX10_month 35 = .ok (.getfield 100, 3) := by decide +kernel
theorem dX10_month_38 : decode cX10_month 38 = .ok (.aload_n 0, 1) := by decide +kernel
theorem dX10_month_39 : decode cX10_month 39 = .ok (.getfield 261, 3) := by decide +kernel
theorem dX10_month_42 : decode cX10_month 42 = .ok (.iload_n 1, 1) := by decide +kernel
theorem dX10_month_43 : decode cX10_month 43 = .ok (.iastore, 1) := by decide +kernel
theorem dX10_month_44 : decode cX10_month 44 = .ok (.aload_n 0, 1) := by decide +kernel
theorem dX10_month_45 : decode cX10_month 45 = .ok (.getfield 261, 3) := by decide +kernel
theorem dX10_month_48 : decode cX10_month 48 = .ok (.ireturn, 1) := by decide +kernel
set_option maxRecDepth 20000 in
theorem ggX10_steal_X10_isPoint : GoodIn wsX10_steal wsX10_isPoint := goodIn_r _ [9, 10, 11, 12, 8, 13, 14, 15, 16, 17, 18, 19, 20, 21, 22, 23, 24, 25, 26, 27, 28, 29, 30, 31, 32, 33, 34, 35, 36, 37, 38, 39, 40, 41, 42, 43, 44, 45, 46, 47, 48, 49, 50, 51, 52, 53, 54, 55, 56, 57, 58, 59, 60] rfl (by decide +kernel)
set_option maxRecDepth 20000 in
theorem gX10_steal_X10_isPoint : GoodIn wsX10_steal (wsV RX10 267 RX10 yX10_isPoint wsX10_isPoint) := goodIn_app (goodIn_of _ (by decide +kernel)) ggX10_steal_X10_isPoint
theorem dX10_steal_0 : decode cX10_steal 0 = .ok (.aload_n 0, 1) := by decide +kernel
theorem dX10_steal_1 : decode cX10_steal 1 = .ok (.iload_n 1, 1) := by decide +kernel
theorem dX10_steal_2 : decode cX10_steal 2 = .ok (.invokevirtual 267, 3) := by decide +kernel
theorem dX10_steal_5 : decode cX10_steal 5 = .ok (.ifCond .ne 5, 3) := by decide +kernel
theorem dX10_steal_8 : decode cX10_steal 8 = .ok (.iconst (-1), 1) := by decide +kernel
theorem dX10_steal_9 : decode cX10_steal 9 = .ok (.ireturn, 1) := by decide +kernel
theorem dX10_steal_10 : decode cX10_steal 10 = .ok (.aload_n 0, 1) := by decide +kernel
theorem dX10_steal_11 : decode cX10_steal 11 = .ok (.getfield 264, 3) := by decide +kernel
theorem dX10_steal_14 : decode cX10_steal 14 = .ok (.bipush 30, 2) := by decide +kernel
theorem dX10_steal_16 : decode cX10_steal 16 = .ok (.if_icmp .ne 6, 3) := by decide +kernel
theorem dX10_steal_19 : decode cX10_steal 19 = .ok (.bipush (-3), 2) := by decide +kernel
theorem dX10_steal_21 : decode cX10_steal 21 = .ok (.ireturn, 1) := by decide +kernel
theorem dX10_steal_22 : decode cX10_steal 22 = .ok (.aload_n 0, 1) := by decide +kernel
theorem dX10_steal_23 : decode cX10_steal 23 = .ok (.getfield 103, 3) := by decide +kernel
theorem dX10_steal_26 : decode cX10_steal 26 = .ok (.aload_n 0, 1) := by decide +kernel
theorem dX10_steal_27 : decode cX10_steal 27 = .ok (.getfield 264, 3) := by decide +kernel
theorem dX10_steal_30 : decode cX10_steal 30 = .ok (.iload_n 1, 1) := by decide +kernel
theorem dX10_steal_31 : decode cX10_steal 31 = .ok (.iastore, 1) := by decide +kernel
theorem dX10_steal_32 : decode cX10_steal 32 = .ok (.aload_n 0, 1) := by decide +kernel
theorem dX10_steal_33 : decode cX10_steal 33 = .ok (.getfield 106, 3) := by decide +kernel
theorem dX10_steal_36 : decode cX10_steal 36 = .ok (.aload_n 0, 1) := by decide +kernel
theorem dX10_steal_37 : decode cX10_steal 37 = .ok (.getfield 264, 3) := by decide +kernel
theorem dX10_steal_40 : decode cX10_steal 40 = .ok (.aload_n 0, 1) := by decide +kernel
theorem dX10_steal_41 : decode cX10_steal 41 = .ok (.getfield 261, 3) := by decide +kernel
theorem dX10_steal_44 : decode cX10_steal 44 = .ok (.iastore, 1) := by decide +kernel
theorem dX10_steal_45 : decode cX10_steal 45 = .ok (.aload_n 0, 1) := by decide +kernel
theorem dX10_steal_46 : decode cX10_steal 46 = .ok (.dup, 1) := by decide +kernel
theorem dX10_steal_47 : decode cX10_steal 47 = .ok (.getfield 264, 3) := by decide +kernel
theorem dX10_steal_50 : decode cX10_steal 50 = .ok (.iconst 1, 1) := by decide +kernel
theorem dX10_steal_51 : decode cX10_steal 51 = .ok (.iadd, 1) := by decide +kernel
theorem dX10_steal_52 : decode cX10_steal 52 = .ok (.putfield 264, 3) := by decide +kernel
theorem dX10_steal_55 : decode cX10_steal 55 = .ok (.aload_n 0, 1) := by decide +kernel
theorem dX10_steal_56 : decode cX10_steal 56 = .ok (.getfield 264, 3) := by decide +kernel
theorem dX10_steal_59 : decode cX10_steal 59 = .ok (.ireturn, 1) := by decide +kernel
set_option maxRecDepth 20000 in
theorem ggX10_known_X10_in : GoodIn wsX10_known wsX10_in := goodIn_r _ [10] rfl (by decide +kernel)
set_option maxRecDepth 20000 in
theorem gX10_known_X10_in : GoodIn wsX10_known (va_wsS RX10 117 yX10_in wsX10_in) := goodIn_app (goodIn_of _ (by decide +kernel)) ggX10_known_X10_in
set_option maxRecDepth 20000 in
theorem ggX10_known_X10_bitsIn : GoodIn wsX10_known wsX10_bitsIn := goodIn_r _ [13] rfl (by decide +kernel)
set_option maxRecDepth 20000 in
theorem gX10_known_X10_bitsIn : GoodIn wsX10_known (va_wsS RX10 251 yX10_bitsIn wsX10_bitsIn) := goodIn_app (goodIn_of _ (by decide +kernel)) ggX10_known_X10_bitsIn
theorem dX10_known_0 : decode cX10_known 0 = .ok (.iload_n 1, 1) := by decide +kernel
theorem dX10_known_1 : decode cX10_known 1 = .ok (.i2l, 1) := by decide +kernel
theorem dX10_known_2 : decode cX10_known 2 = .ok (.lconst 0, 1) := by decide +kernel
theorem dX10_known_3 : decode cX10_known 3 = .ok (.lconst 1, 1) := by decide +kernel
theorem dX10_known_4 : decode cX10_known 4 = .ok (.invokestatic 117, 3) := by decide +kernel
theorem dX10_known_7 : decode cX10_known 7 = .ok (.ifCond .ne 5, 3) := by decide +kernel
theorem dX10_known_10 : decode cX10_known 10 = .ok (.iconst (-1), 1) := by decide +kernel
theorem dX10_known_11 : decode cX10_known 11 = .ok (.ireturn, 1) := by decide +kernel
theorem dX10_known_12 : decode cX10_known 12 = .ok (.iconst 0, 1) := by decide +kernel
theorem dX10_known_13 : decode cX10_known 13 = .ok (.istore_n 2, 1) := by decide +kernel
theorem dX10_known_14 : decode cX10_known 14 = .ok (.iconst 0, 1) := by decide +kernel
theorem dX10_known_15 : decode cX10_known 15 = .ok (.istore_n 3, 1) := by decide +kernel
theorem dX10_known_16 : decode cX10_known 16 = .ok (.iconst 0, 1) := by decide +kernel
theorem dX10_known_17 : decode cX10_known 17 = .ok (.istore 4, 2) := by decide +kernel
theorem dX10_known_19 : decode cX10_known 19 = .ok (.iload 4, 2) := by decide +kernel
theorem dX10_known_21 : decode cX10_known 21 = .ok (.aload_n 0, 1) := by decide +kernel
theorem dX10_known_22 : decode cX10_known 22 = .ok (.getfield 261, 3) := by decide +kernel
theorem dX10_known_25 : decode cX10_known 25 = .ok (.if_icmp .gt 98, 3) := by decide +kernel
theorem dX10_known_28 : decode cX10_known 28 = .ok (.iload 4, 2) := by decide +kernel
theorem dX10_known_30 : decode cX10_known 30 = .ok (.ifCond .le 18, 3) := by decide +kernel
theorem dX10_known_33 : decode cX10_known 33 = .ok (.aload_n 0, 1) := by decide +kernel
theorem dX10_known_34 : decode cX10_known 34 = .ok (.getfield 100, 3) := by decide +kernel
theorem dX10_known_37 : decode cX10_known 37 = .ok (.iload 4, 2) := by decide +kernel
theorem dX10_known_39 : decode cX10_known 39 = .ok (.iaload, 1) := by decide +kernel
theorem dX10_known_40 : decode cX10_known 40 = .ok (.iconst 1, 1) := by decide +kernel
theorem dX10_known_41 : decode cX10_known 41 = .ok (.if_icmp .ne 7, 3) := by decide +kernel
theorem dX10_known_44 : decode cX10_known 44 = .ok (.iconst 0, 1) := by decide +kernel
theorem dX10_known_45 : decode cX10_known 45 = .ok (.goto 4, 3) := by decide +kernel
theorem dX10_known_48 : decode cX10_known 48 = .ok (.iload_n 2, 1) := by decide +kernel
theorem dX10_known_49 : decode cX10_known 49 = .ok (.istore_n 2, 1) := by decide +kernel
theorem dX10_known_50 : decode cX10_known 50 = .ok (.iconst 0, 1) := by decide +kernel
theorem dX10_known_51 : decode cX10_known 51 = .ok (.istore 5, 2) := by decide +kernel
theorem dX10_known_53 : decode cX10_known 53 = .ok (.iload 5, 2) := by decide +kernel
theorem dX10_known_55 : decode cX10_known 55 = .ok (.aload_n 0, 1) := by decide +kernel
theorem dX10_known_56 : decode cX10_known 56 = .ok (.getfield 264, 3) := by decide +kernel
theorem dX10_known_59 : decode cX10_known 59 = .ok (.if_icmp .ge 37, 3) := by decide +kernel
theorem dX10_known_62 : decode cX10_known 62 = .ok (.iload_n 2, 1) := by decide +kernel
theorem dX10_known_63 : decode cX10_known 63 = .ok (.aload_n 0, 1) := by decide +kernel
theorem dX10_known_64 : decode cX10_known 64 = .ok (.getfield 106, 3) := by decide +kernel
theorem dX10_known_67 : decode cX10_known 67 = .ok (.iload 5, 2) := by decide +kernel
theorem dX10_known_69 : decode cX10_known 69 = .ok (.iaload, 1) := by decide +kernel
theorem dX10_known_70 : decode cX10_known 70 = .ok (.iload 4, 2) := by decide +kernel
theorem dX10_known_72 : decode cX10_known 72 = .ok (.if_icmp .ne 15, 3) := by decide +kernel
theorem dX10_known_75 : decode cX10_known 75 = .ok (.iconst 1, 1) := by decide +kernel
theorem dX10_known_76 : decode cX10_known 76 = .ok (.aload_n 0, 1) := by decide +kernel
theorem dX10_known_77 : decode cX10_known 77 = .ok (.getfield 103, 3) := by decide +kernel
theorem dX10_known_80 : decode cX10_known 80 = .ok (.iload 5, 2) := by decide +kernel
theorem dX10_known_82 : decode cX10_known 82 = .ok (.iaload, 1) := by decide +kernel
theorem dX10_known_83 : decode cX10_known 83 = .ok (.ishl, 1) := by decide +kernel
theorem dX10_known_84 : decode cX10_known 84 = .ok (.goto 4, 3) := by decide +kernel
theorem dX10_known_87 : decode cX10_known 87 = .ok (.iconst 0, 1) := by decide +kernel
theorem dX10_known_88 : decode cX10_known 88 = .ok (.ior, 1) := by decide +kernel
theorem dX10_known_89 : decode cX10_known 89 = .ok (.istore_n 2, 1) := by decide +kernel
theorem dX10_known_90 : decode cX10_known 90 = .ok (.iinc 5 1, 3) := by decide +kernel
theorem dX10_known_93 : decode cX10_known 93 = .ok (.goto (-40), 3) := by decide +kernel
theorem dX10_known_96 : decode cX10_known 96 = .ok (.iload_n 3, 1) := by decide +kernel
theorem dX10_known_97 : decode cX10_known 97 = .ok (.ifCond .ne 14, 3) := by decide +kernel
theorem dX10_known_100 : decode cX10_known 100 = .ok (.iload_n 2, 1) := by decide +kernel
theorem dX10_known_101 : decode cX10_known 101 = .ok (.invokestatic 251, 3) := by decide +kernel
theorem dX10_known_104 : decode cX10_known 104 = .ok (.aload_n 0, 1) := by decide +kernel
theorem dX10_known_105 : decode cX10_known 105 = .ok (.getfield 88, 3) := by decide +kernel
theorem dX10_known_108 : decode cX10_known 108 = .ok (.if_icmp .le 7, 3) := by decide +kernel
theorem dX10_known_111 : decode cX10_known 111 = .ok (.iconst 1, 1) := by decide +kernel
theorem dX10_known_112 : decode cX10_known 112 = .ok (.goto 4, 3) := by decide +kernel
theorem dX10_known_115 : decode cX10_known 115 = .ok (.iconst 0, 1) := by decide +kernel
theorem dX10_known_116 : decode cX10_known 116 = .ok (.istore_n 3, 1) := by decide +kernel
theorem dX10_known_117 : decode cX10_known 117 = .ok (.iinc 4 1, 3) := by decide +kernel
theorem dX10_known_120 : decode cX10_known 120 = .ok (.goto (-101), 3) := by decide +kernel
theorem dX10_known_123 : decode cX10_known 123 = .ok (.iload_n 1, 1) := by decide +kernel
theorem dX10_known_124 : decode cX10_known 124 = .ok (.ifCond .ne 15, 3) := by decide +kernel
theorem dX10_known_127 : decode cX10_known 127 = .ok (.iload_n 3, 1) := by decide +kernel
theorem dX10_known_128 : decode cX10_known 128 = .ok (.ifCond .eq 7, 3) := by decide +kernel
theorem dX10_known_131 : decode cX10_known 131 = .ok (.iconst 1, 1) := by decide +kernel
theorem dX10_known_132 : decode cX10_known 132 = .ok (.goto 24, 3) := by decide +kernel
theorem dX10_known_135 : decode cX10_known 135 = .ok (.iconst 0, 1) := by decide +kernel
theorem dX10_known_136 : decode cX10_known 136 = .ok (.goto 20, 3) := by decide +kernel
theorem dX10_known_139 : decode cX10_known 139 = .ok (.iload_n 3, 1) := by decide +kernel
theorem dX10_known_140 : decode cX10_known 140 = .ok (.ifCond .eq 7, 3) := by decide +kernel
theorem dX10_known_143 : decode cX10_known 143 = .ok (.iconst 0, 1) := by decide +kernel
theorem dX10_known_144 : decode cX10_known 144 = .ok (.goto 12, 3) := by decide +kernel
theorem dX10_known_147 : decode cX10_known 147 = .ok (.aload_n 0, 1) := by decide +kernel
theorem dX10_known_148 : decode cX10_known 148 = .ok (.getfield 88, 3) := by decide +kernel
theorem dX10_known_151 : decode cX10_known 151 = .ok (.iload_n 2, 1) := by decide +kernel
theorem dX10_known_152 : decode cX10_known 152 = .ok (.invokestatic 251, 3) := by decide +kernel
theorem dX10_known_155 : decode cX10_known 155 = .ok (.isub, 1) := by decide +kernel
theorem dX10_known_156 : decode cX10_known 156 = .ok (.ireturn, 1) := by decide +kernel
set_option maxRecDepth 20000 in
theorem ggX10_weight_X10_in : GoodIn wsX10_weight wsX10_in := goodIn_r _ [15] rfl (by decide +kernel)
set_option maxRecDepth 20000 in
theorem gX10_weight_X10_in : GoodIn wsX10_weight (va_wsS RX10 117 yX10_in wsX10_in) := goodIn_app (goodIn_of _ (by decide +kernel)) ggX10_weight_X10_in
set_option maxRecDepth 20000 in
theorem ggX10_weight_X10_isItem : GoodIn wsX10_weight wsX10_isItem := goodIn_r _ [19, 20, 12, 13, 14, 15, 21, 22, 23, 24, 25, 26, 27, 28, 29, 30, 31, 32, 33, 34, 35, 36, 37, 38, 39, 40, 41, 42, 43, 44, 45, 46, 47, 48, 49, 50, 51, 52, 53, 54, 55, 56, 57, 58, 59, 60, 61, 62, 63, 64, 65, 66, 67] rfl (by decide +kernel)
set_option maxRecDepth 20000 in
theorem gX10_weight_X10_isItem : GoodIn wsX10_weight (wsV RX10 180 RX10 yX10_isItem wsX10_isItem) := goodIn_app (goodIn_of _ (by decide +kernel)) ggX10_weight_X10_isItem
theorem dX10_weight_0 : decode cX10_weight 0 = .ok (.iload_n 1, 1) := by decide +kernel
theorem dX10_weight_1 : decode cX10_weight 1 = .ok (.i2l, 1) := by decide +kernel
theorem dX10_weight_2 : decode cX10_weight 2 = .ok (.lconst 0, 1) := by decide +kernel
theorem dX10_weight_3 : decode cX10_weight 3 = .ok (.ldc2_w 280, 3) := by decide +kernel
theorem dX10_weight_6 : decode cX10_weight 6 = .ok (.invokestatic 117, 3) := by decide +kernel
theorem dX10_weight_9 : decode cX10_weight 9 = .ok (.ifCond .eq 11, 3) := by decide +kernel
theorem dX10_weight_12 : decode cX10_weight 12 = .ok (.aload_n 0, 1) := by decide +kernel
theorem dX10_weight_13 : decode cX10_weight 13 = .ok (.iload_n 2, 1) := by decide +kernel
theorem dX10_weight_14 : decode cX10_weight 14 = .ok (.invokevirtual 180, 3) := by decide +kernel
theorem dX10_weight_17 : decode cX10_weight 17 = .ok (.ifCond .ne 5, 3) := by decide +kernel
theorem dX10_weight_20 : decode cX10_weight 20 = .ok (.iconst (-1), 1) := by decide +kernel
theorem dX10_weight_21 : decode cX10_weight 21 = .ok (.ireturn, 1) := by decide +kernel
theorem dX10_weight_22 : decode cX10_weight 22 = .ok (.iconst 3, 1) := by decide +kernel
theorem dX10_weight_23 : decode cX10_weight 23 = .ok (.aload_n 0, 1) := by decide +kernel
theorem dX10_weight_24 : decode cX10_weight 24 = .ok (.getfield 13, 3) := by decide +kernel
theorem dX10_weight_27 : decode cX10_weight 27 = .ok (.iload_n 2, 1) := by decide +kernel
theorem dX10_weight_28 : decode cX10_weight 28 = .ok (.iaload, 1) := by decide +kernel
theorem dX10_weight_29 : decode cX10_weight 29 = .ok (.ifCond .ne 7, 3) := by decide +kernel
theorem dX10_weight_32 : decode cX10_weight 32 = .ok (.iconst 2, 1) := by decide +kernel
theorem dX10_weight_33 : decode cX10_weight 33 = .ok (.goto 19, 3) := by decide +kernel
theorem dX10_weight_36 : decode cX10_weight 36 = .ok (.aload_n 0, 1) := by decide +kernel
theorem dX10_weight_37 : decode cX10_weight 37 = .ok (.getfield 13, 3) := by decide +kernel
theorem dX10_weight_40 : decode cX10_weight 40 = .ok (.iload_n 2, 1) := by decide +kernel
theorem dX10_weight_41 : decode cX10_weight 41 = .ok (.iaload, 1) := by decide +kernel
theorem dX10_weight_42 : decode cX10_weight 42 = .ok (.iconst 4, 1) := by decide +kernel
theorem dX10_weight_43 : decode cX10_weight 43 = .ok (.if_icmp .ne 8, 3) := by decide +kernel
theorem dX10_weight_46 : decode cX10_weight 46 = .ok (.bipush 8, 2) := by decide +kernel
theorem dX10_weight_48 : decode cX10_weight 48 = .ok (.goto 4, 3) := by decide +kernel
theorem dX10_weight_51 : decode cX10_weight 51 = .ok (.iconst 0, 1) := by decide +kernel
theorem dX10_weight_52 : decode cX10_weight 52 = .ok (.iadd, 1) := by decide +kernel
theorem dX10_weight_53 : decode cX10_weight 53 = .ok (.istore_n 3, 1) := by decide +kernel
theorem dX10_weight_54 : decode cX10_weight 54 = .ok (.iconst 3, 1) := by decide +kernel
theorem dX10_weight_55 : decode cX10_weight 55 = .ok (.aload_n 0, 1) := by decide +kernel
theorem dX10_weight_56 : decode cX10_weight 56 = .ok (.getfield 88, 3) := by decide +kernel
theorem dX10_weight_59 : decode cX10_weight 59 = .ok (.iadd, 1) := by decide +kernel
theorem dX10_weight_60 : decode cX10_weight 60 = .ok (.istore 4, 2) := by decide +kernel
theorem dX10_weight_62 : decode cX10_weight 62 = .ok (.aload_n 0, 1) := by decide +kernel
theorem dX10_weight_63 : decode cX10_weight 63 = .ok (.getfield 13, 3) := by decide +kernel
theorem dX10_weight_66 : decode cX10_weight 66 = .ok (.iload_n 2, 1) := by decide +kernel
theorem dX10_weight_67 : decode cX10_weight 67 = .ok (.iaload, 1) := by decide +kernel
theorem dX10_weight_68 : decode cX10_weight 68 = .ok (.ifCond .ne 20, 3) := by decide +kernel
theorem dX10_weight_71 : decode cX10_weight 71 = .ok (.aload_n 0, 1) := by decide +kernel
theorem dX10_weight_72 : decode cX10_weight 72 = .ok (.getfield 26, 3) := by decide +kernel
theorem dX10_weight_75 : decode cX10_weight 75 = .ok (.iload_n 2, 1) := by decide +kernel
theorem dX10_weight_76 : decode cX10_weight 76 = .ok (.iaload, 1) := by decide +kernel
theorem dX10_weight_77 : decode cX10_weight 77 = .ok (.ifCond .ne 7, 3) := by decide +kernel
theorem dX10_weight_80 : decode cX10_weight 80 = .ok (.iconst 3, 1) := by decide +kernel
theorem dX10_weight_81 : decode cX10_weight 81 = .ok (.goto 37, 3) := by decide +kernel
theorem dX10_weight_84 : decode cX10_weight 84 = .ok (.iconst 1, 1) := by decide +kernel
theorem dX10_weight_85 : decode cX10_weight 85 = .ok (.goto 33, 3) := by decide +kernel
theorem dX10_weight_88 : decode cX10_weight 88 = .ok (.aload_n 0, 1) := by decide +kernel
theorem dX10_weight_89 : decode cX10_weight 89 = .ok (.getfield 13, 3) := by decide +kernel
theorem dX10_weight_92 : decode cX10_weight 92 = .ok (.iload_n 2, 1) := by decide +kernel
theorem dX10_weight_93 : decode cX10_weight 93 = .ok (.iaload, 1) := by decide +kernel
theorem dX10_weight_94 : decode cX10_weight 94 = .ok (.iconst 4, 1) := by decide +kernel
theorem dX10_weight_95 : decode cX10_weight 95 = .ok (.if_icmp .ne 8, 3) := by decide +kernel
theorem dX10_weight_98 : decode cX10_weight 98 = .ok (.bipush 9, 2) := by decide +kernel
theorem dX10_weight_100 : decode cX10_weight 100 = .ok (.goto 18, 3) := by decide +kernel
theorem dX10_weight_103 : decode cX10_weight 103 = .ok (.aload_n 0, 1) := by decide +kernel
theorem dX10_weight_104 : decode cX10_weight 104 = .ok (.getfield 13, 3) := by decide +kernel
theorem dX10_weight_107 : decode cX10_weight 107 = .ok (.iload_n 2, 1) := by decide +kernel
theorem dX10_weight_108 : decode cX10_weight 108 = .ok (.iaload, 1) := by decide +kernel
theorem dX10_weight_109 : decode cX10_weight 109 = .ok (.iconst 5, 1) := by decide +kernel
theorem dX10_weight_110 : decode cX10_weight 110 = .ok (.if_icmp .ne 7, 3) := by decide +kernel
theorem dX10_weight_113 : decode cX10_weight 113 = .ok (.iconst 3, 1) := by decide +kernel
theorem dX10_weight_114 : decode cX10_weight 114 = .ok (.goto 4, 3) := by decide +kernel
theorem dX10_weight_117 : decode cX10_weight 117 = .ok (.iconst 0, 1) := by decide +kernel
theorem dX10_weight_118 : decode cX10_weight 118 = .ok (.istore 5, 2) := by decide +kernel
theorem dX10_weight_120 : decode cX10_weight 120 = .ok (.aload_n 0, 1) := by decide +kernel
theorem dX10_weight_121 : decode cX10_weight 121 = .ok (.dup, 1) := by decide +kernel
theorem dX10_weight_122 : decode cX10_weight 122 = .ok (.getfield 282, 3) := by decide +kernel
theorem dX10_weight_125 : decode cX10_weight 125 = .ok (.iload_n 1, 1) := by decide +kernel
theorem dX10_weight_126 : decode cX10_weight 126 = .ok (.ifCond .ne 7, 3) := by decide +kernel
theorem dX10_weight_129 : decode cX10_weight 129 = .ok (.lconst 1, 1) := by decide +kernel
theorem dX10_weight_130 : decode cX10_weight 130 = .ok (.goto 50, 3) := by decide +kernel
theorem dX10_weight_133 : decode cX10_weight 133 = .ok (.iload_n 1, 1) := by decide +kernel
theorem dX10_weight_134 : decode cX10_weight 134 = .ok (.iconst 1, 1) := by decide +kernel
theorem dX10_weight_135 : decode cX10_weight 135 = .ok (.if_icmp .ne 9, 3) := by decide +kernel
theorem dX10_weight_138 : decode cX10_weight 138 = .ok (.ldc2_w 286, 3) := by decide +kernel
theorem dX10_weight_141 : decode cX10_weight 141 = .ok (.goto 39, 3) := by decide +kernel
theorem dX10_weight_144 : decode cX10_weight 144 = .ok (.iload_n 1, 1) := by decide +kernel
theorem dX10_weight_145 : decode cX10_weight 145 = .ok (.iconst 2, 1) := by decide +kernel
theorem dX10_weight_146 : decode cX10_weight 146 = .ok (.if_icmp .ne 9, 3) := by decide +kernel
theorem dX10_weight_149 : decode cX10_weight 149 = .ok (.ldc2_w 288, 3) := by decide +kernel
theorem dX10_weight_152 : decode cX10_weight 152 = .ok (.goto 28, 3) := by decide +kernel
theorem dX10_weight_155 : decode cX10_weight 155 = .ok (.iload_n 1, 1) := by decide +kernel
theorem dX10_weight_156 : decode cX10_weight 156 = .ok (.iconst 3, 1) := by decide +kernel
theorem dX10_weight_157 : decode cX10_weight 157 = .ok (.if_icmp .ne 9, 3) := by decide +kernel
theorem dX10_weight_160 : decode cX10_weight 160 = .ok (.ldc2_w 290, 3) := by decide +kernel
theorem dX10_weight_163 : decode cX10_weight 163 = .ok (.goto 17, 3) := by decide +kernel
theorem dX10_weight_166 : decode cX10_weight 166 = .ok (.iload_n 1, 1) := by decide +kernel
theorem dX10_weight_167 : decode cX10_weight 167 = .ok (.iconst 4, 1) := by decide +kernel
theorem dX10_weight_168 : decode cX10_weight 168 = .ok (.if_icmp .ne 9, 3) := by decide +kernel
theorem dX10_weight_171 : decode cX10_weight 171 = .ok (.ldc2_w 292, 3) := by decide +kernel
theorem dX10_weight_174 : decode cX10_weight 174 = .ok (.goto 6, 3) := by decide +kernel
theorem dX10_weight_177 : decode cX10_weight 177 = .ok (.ldc2_w 294, 3) := by decide +kernel
theorem dX10_weight_180 : decode cX10_weight 180 = .ok (.ladd, 1) := by decide +kernel
theorem dX10_weight_181 : decode cX10_weight 181 = .ok (.putfield 282, 3) := by decide +kernel
theorem dX10_weight_184 : decode cX10_weight 184 = .ok (.iload_n 1, 1) := by decide +kernel
theorem dX10_weight_185 : decode cX10_weight 185 = .ok (.ifCond .ne 7, 3) := by decide +kernel
theorem dX10_weight_188 : decode cX10_weight 188 = .ok (.iconst 3, 1) := by decide +kernel
theorem dX10_weight_189 : decode cX10_weight 189 = .ok (.goto 52, 3) := by decide +kernel
theorem dX10_weight_192 : decode cX10_weight 192 = .ok (.iload_n 1, 1) := by decide +kernel
theorem dX10_weight_193 : decode cX10_weight 193 = .ok (.iconst 1, 1) := by decide +kernel
theorem dX10_weight_194 : decode cX10_weight 194 = .ok (.if_icmp .ne 7, 3) := by decide +kernel
theorem dX10_weight_197 : decode cX10_weight 197 = .ok (.iload_n 3, 1) := by decide +kernel
theorem dX10_weight_198 : decode cX10_weight 198 = .ok (.goto 43, 3) := by decide +kernel
theorem dX10_weight_201 : decode cX10_weight 201 = .ok (.iload_n 1, 1) := by decide +kernel
theorem dX10_weight_202 : decode cX10_weight 202 = .ok (.iconst 2, 1) := by decide +kernel
theorem dX10_weight_203 : decode cX10_weight 203 = .ok (.if_icmp .ne 8, 3) := by decide +kernel
theorem dX10_weight_206 : decode cX10_weight 206 = .ok (.iload 4, 2) := by decide +kernel
theorem dX10_weight_208 : decode cX10_weight 208 = .ok (.goto 33, 3) := by decide +kernel
theorem dX10_weight_211 : decode cX10_weight 211 = .ok (.iload_n 1, 1) := by decide +kernel
theorem dX10_weight_212 : decode cX10_weight 212 = .ok (.iconst 3, 1) := by decide +kernel
theorem dX10_weight_213 : decode cX10_weight 213 = .ok (.if_icmp .ne 12, 3) := by decide +kernel
theorem dX10_weight_216 : decode cX10_weight 216 = .ok (.iload_n 3, 1) := by decide +kernel
theorem dX10_weight_217 : decode cX10_weight 217 = .ok (.aload_n 0, 1) := by decide +kernel
theorem dX10_weight_218 : decode cX10_weight 218 = .ok (.getfield 35, 3) := by decide +kernel
theorem dX10_weight_221 : decode cX10_weight 221 = .ok (.imul, 1) := by decide +kernel
theorem dX10_weight_222 : decode cX10_weight 222 = .ok (.goto 19, 3) := by decide +kernel
theorem dX10_weight_225 : decode cX10_weight 225 = .ok (.iload_n 1, 1) := by decide +kernel
theorem dX10_weight_226 : decode cX10_weight 226 = .ok (.iconst 4, 1) := by decide +kernel
theorem dX10_weight_227 : decode cX10_weight 227 = .ok (.if_icmp .ne 10, 3) := by decide +kernel
theorem dX10_weight_230 : decode cX10_weight 230 = .ok (.iconst 2, 1) := by decide +kernel
theorem dX10_weight_231 : decode cX10_weight 231 = .ok (.iload 4, 2) := by decide +kernel
theorem dX10_weight_233 : decode cX10_weight 233 = .ok (.imul, 1) := by decide +kernel
theorem dX10_weight_234 : decode cX10_weight 234 = .ok (.goto 7, 3) := by decide +kernel
theorem dX10_weight_237 : decode cX10_weight 237 = .ok (.iconst 3, 1) := by decide +kernel
theorem dX10_weight_238 : decode cX10_weight 238 = .ok (.iload 5, 2) := by decide +kernel
theorem dX10_weight_240 : decode cX10_weight 240 = .ok (.iadd, 1) := by decide +kernel
theorem dX10_weight_241 : decode cX10_weight 241 = .ok (.ireturn, 1) := by decide +kernel
set_option maxRecDepth 20000 in
theorem ggX10_count_X10_countOf : GoodIn wsX10_count wsX10_countOf := goodIn_r _ [10, 1, 11, 16, 17, 18, 19, 20, 21, 22, 23, 24, 25, 26, 27, 28, 29, 30, 31, 32, 33, 34, 35, 36, 37, 38, 39, 40, 41, 42, 43, 44, 45, 46, 47, 48, 49, 50, 51, 52, 53, 54, 55, 56, 57, 58, 59, 60, 61, 62] rfl (by decide +kernel)
set_option maxRecDepth 20000 in
theorem gX10_count_X10_countOf : GoodIn wsX10_count (wsV RX10 192 RX10 yX10_countOf wsX10_countOf) := goodIn_app (goodIn_of _ (by decide +kernel)) ggX10_count_X10_countOf
set_option maxRecDepth 20000 in
theorem ggX10_count_X10_lotsTaken : GoodIn wsX10_count wsX10_lotsTaken := goodIn_r _ [15, 6, 7, 8, 9, 10, 1, 11, 16, 17, 18, 19, 20, 21, 22, 23, 24, 25, 26, 27, 28, 29, 30, 31, 32, 33, 34, 35, 36, 37, 38, 39, 40, 41, 42, 43, 44, 45, 46, 47, 48, 49, 50, 51, 52, 53, 54, 55, 56, 57, 58, 59, 60, 61, 62] rfl (by decide +kernel)
set_option maxRecDepth 20000 in
theorem gX10_count_X10_lotsTaken : GoodIn wsX10_count (wsV RX10 230 RX10 yX10_lotsTaken wsX10_lotsTaken) := goodIn_app (goodIn_of _ (by decide +kernel)) ggX10_count_X10_lotsTaken
theorem dX10_count_0 : decode cX10_count 0 = .ok (.iload_n 1, 1) := by decide +kernel
theorem dX10_count_1 : decode cX10_count 1 = .ok (.tableswitch 89 0 7 #[47, 52, 58, 64, 69, 74, 79, 84], 47) := by decide +kernel
theorem dX10_count_48 : decode cX10_count 48 = .ok (.aload_n 0, 1) := by decide +kernel
theorem dX10_count_49 : decode cX10_count 49 = .ok (.getfield 112, 3) := by decide +kernel
theorem dX10_count_52 : decode cX10_count 52 = .ok (.ireturn, 1) := by decide +kernel
theorem dX10_count_53 : decode cX10_count 53 = .ok (.aload_n 0, 1) := by decide +kernel
theorem dX10_count_54 : decode cX10_count 54 = .ok (.iconst 0, 1) := by decide +kernel
theorem dX10_count_55 : decode cX10_count 55 = .ok (.invokevirtual 192, 3) := by decide +kernel

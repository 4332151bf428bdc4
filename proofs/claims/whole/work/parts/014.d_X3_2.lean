theorem dX4_go__161 : decode cX4_go_ 161 = .ok (.iaload, 1) := by decide +kernel
theorem dX4_go__162 : decode cX4_go_ 162 = .ok (.iload_n 2, 1) := by decide +kernel
theorem dX4_go__163 : decode cX4_go_ 163 = .ok (.if_icmp .ne 7, 3) := by decide +kernel
theorem dX4_go__166 : decode cX4_go_ 166 = .ok (.iconst 1, 1) := by decide +kernel
theorem dX4_go__167 : decode cX4_go_ 167 = .ok (.goto 4, 3) := by decide +kernel
theorem dX4_go__170 : decode cX4_go_ 170 = .ok (.iconst 0, 1) := by decide +kernel
theorem dX4_go__171 : decode cX4_go_ 171 = .ok (.aload_n 1, 1) := by decide +kernel
theorem dX4_go__172 : decode cX4_go_ 172 = .ok (.iload_n 3, 1) := by decide +kernel
theorem dX4_go__173 : decode cX4_go_ 173 = .ok (.aload_n 0, 1) := by decide +kernel
theorem dX4_go__174 : decode cX4_go_ 174 = .ok (.getfield 62, 3) := by decide +kernel
theorem dX4_go__177 : decode cX4_go_ 177 = .ok (.invokevirtual 83, 3) := by decide +kernel
theorem dX4_go__180 : decode cX4_go_ 180 = .ok (.aload 4, 2) := by decide +kernel
theorem dX4_go__182 : decode cX4_go_ 182 = .ok (.invokevirtual 86, 3) := by decide +kernel
theorem dX4_go__185 : decode cX4_go_ 185 = .ok (.goto 84, 3) := by decide +kernel
theorem dX4_go__188 : decode cX4_go_ 188 = .ok (.aload_n 0, 1) := by decide +kernel
theorem dX4_go__189 : decode cX4_go_ 189 = .ok (.iload 10, 2) := by decide +kernel
theorem dX4_go__191 : decode cX4_go_ 191 = .ok (.aload 6, 2) := by decide +kernel
theorem dX4_go__193 : decode cX4_go_ 193 = .ok (.iload 9, 2) := by decide +kernel
theorem dX4_go__195 : decode cX4_go_ 195 = .ok (.iconst 4, 1) := by decide +kernel
theorem dX4_go__196 : decode cX4_go_ 196 = .ok (.iadd, 1) := by decide +kernel
theorem dX4_go__197 : decode cX4_go_ 197 = .ok (.iaload, 1) := by decide +kernel
theorem dX4_go__198 : decode cX4_go_ 198 = .ok (.invokevirtual 90, 3) := by decide +kernel
theorem dX4_go__201 : decode cX4_go_ 201 = .ok (.goto 68, 3) := by decide +kernel
theorem dX4_go__204 : decode cX4_go_ 204 = .ok (.aload_n 0, 1) := by decide +kernel
theorem dX4_go__205 : decode cX4_go_ 205 = .ok (.iload 10, 2) := by decide +kernel
theorem dX4_go__207 : decode cX4_go_ 207 = .ok (.iload 11, 2) := by decide +kernel
theorem dX4_go__209 : decode cX4_go_ 209 = .ok (.iload 12, 2) := by decide +kernel
theorem dX4_go__211 : decode cX4_go_ 211 = .ok (.iconst 1, 1) := by decide +kernel
theorem dX4_go__212 : decode cX4_go_ 212 = .ok (.invokevirtual 94, 3) := by decide +kernel
theorem dX4_go__215 : decode cX4_go_ 215 = .ok (.goto 54, 3) := by decide +kernel
theorem dX4_go__218 : decode cX4_go_ 218 = .ok (.aload_n 0, 1) := by decide +kernel
theorem dX4_go__219 : decode cX4_go_ 219 = .ok (.iload 10, 2) := by decide +kernel
theorem dX4_go__221 : decode cX4_go_ 221 = .ok (.iload 11, 2) := by decide +kernel
theorem dX4_go__223 : decode cX4_go_ 223 = .ok (.iload 12, 2) := by decide +kernel
theorem dX4_go__225 : decode cX4_go_ 225 = .ok (.iconst (-1), 1) := by decide +kernel
theorem dX4_go__226 : decode cX4_go_ 226 = .ok (.invokevirtual 94, 3) := by decide +kernel
theorem dX4_go__229 : decode cX4_go_ 229 = .ok (.goto 40, 3) := by decide +kernel
theorem dX4_go__232 : decode cX4_go_ 232 = .ok (.aload_n 0, 1) := by decide +kernel
theorem dX4_go__233 : decode cX4_go_ 233 = .ok (.aload 4, 2) := by decide +kernel
theorem dX4_go__235 : decode cX4_go_ 235 = .ok (.invokevirtual 98, 3) := by decide +kernel
theorem dX4_go__238 : decode cX4_go_ 238 = .ok (.aload_n 0, 1) := by decide +kernel
theorem dX4_go__239 : decode cX4_go_ 239 = .ok (.iload 11, 2) := by decide +kernel
theorem dX4_go__241 : decode cX4_go_ 241 = .ok (.iload 12, 2) := by decide +kernel
theorem dX4_go__243 : decode cX4_go_ 243 = .ok (.aload 5, 2) := by decide +kernel
theorem dX4_go__245 : decode cX4_go_ 245 = .ok (.iload 8, 2) := by decide +kernel
theorem dX4_go__247 : decode cX4_go_ 247 = .ok (.invokevirtual 102, 3) := by decide +kernel
theorem dX4_go__250 : decode cX4_go_ 250 = .ok (.aload_n 0, 1) := by decide +kernel
theorem dX4_go__251 : decode cX4_go_ 251 = .ok (.iload 10, 2) := by decide +kernel
theorem dX4_go__253 : decode cX4_go_ 253 = .ok (.invokevirtual 106, 3) := by decide +kernel
theorem dX4_go__256 : decode cX4_go_ 256 = .ok (.goto 13, 3) := by decide +kernel
theorem dX4_go__259 : decode cX4_go_ 259 = .ok (.aload_n 0, 1) := by decide +kernel
theorem dX4_go__260 : decode cX4_go_ 260 = .ok (.iload 10, 2) := by decide +kernel
theorem dX4_go__262 : decode cX4_go_ 262 = .ok (.aload 5, 2) := by decide +kernel
theorem dX4_go__264 : decode cX4_go_ 264 = .ok (.iload 8, 2) := by decide +kernel
theorem dX4_go__266 : decode cX4_go_ 266 = .ok (.invokevirtual 110, 3) := by decide +kernel
theorem dX4_go__269 : decode cX4_go_ 269 = .ok (.iinc 8 3, 3) := by decide +kernel
theorem dX4_go__272 : decode cX4_go_ 272 = .ok (.iinc 9 6, 3) := by decide +kernel
theorem dX4_go__275 : decode cX4_go_ 275 = .ok (.goto (-204), 3) := by decide +kernel
theorem dX4_go__278 : decode cX4_go_ 278 = .ok (.return_, 1) := by decide +kernel
set_option maxRecDepth 20000 in
theorem ggX4_shareOf_X9_at : GoodIn wsX4_shareOf wsX9_at := goodIn_r _ [4] rfl (by decide +kernel)
set_option maxRecDepth 20000 in
theorem gX4_shareOf_X9_at_n114 : GoodIn wsX4_shareOf (wsX9_at) := ggX4_shareOf_X9_at
theorem dX4_shareOf_0 : decode cX4_shareOf 0 = .ok (.aload_n 0, 1) := by decide +kernel
theorem dX4_shareOf_1 : decode cX4_shareOf 1 = .ok (.getfield 9, 3) := by decide +kernel
theorem dX4_shareOf_4 : decode cX4_shareOf 4 = .ok (.iload_n 1, 1) := by decide +kernel
theorem dX4_shareOf_5 : decode cX4_shareOf 5 = .ok (.iconst 3, 1) := by decide +kernel
theorem dX4_shareOf_6 : decode cX4_shareOf 6 = .ok (.imul, 1) := by decide +kernel
theorem dX4_shareOf_7 : decode cX4_shareOf 7 = .ok (.iload_n 2, 1) := by decide +kernel
theorem dX4_shareOf_8 : decode cX4_shareOf 8 = .ok (.iadd, 1) := by decide +kernel
theorem dX4_shareOf_9 : decode cX4_shareOf 9 = .ok (.invokestatic 114, 3) := by decide +kernel
theorem dX4_shareOf_12 : decode cX4_shareOf 12 = .ok (.ireturn, 1) := by decide +kernel
set_option maxRecDepth 20000 in
theorem ggX4_endShown_X9_at : GoodIn wsX4_endShown wsX9_at := goodIn_r _ [5] rfl (by decide +kernel)
set_option maxRecDepth 20000 in
theorem gX4_endShown_X9_at_n114 : GoodIn wsX4_endShown (wsX9_at) := ggX4_endShown_X9_at
set_option maxRecDepth 20000 in
theorem ggX4_endShown_X9_mod : GoodIn wsX4_endShown wsX9_mod := goodIn_r _ [7] rfl (by decide +kernel)
set_option maxRecDepth 20000 in
theorem gX4_endShown_X9_mod_n118 : GoodIn wsX4_endShown (wsX9_mod) := ggX4_endShown_X9_mod
theorem dX4_endShown_0 : decode cX4_endShown 0 = .ok (.aload_n 0, 1) := by decide +kernel
theorem dX4_endShown_1 : decode cX4_endShown 1 = .ok (.getfield 15, 3) := by decide +kernel
theorem dX4_endShown_4 : decode cX4_endShown 4 = .ok (.iconst 0, 1) := by decide +kernel
theorem dX4_endShown_5 : decode cX4_endShown 5 = .ok (.invokestatic 114, 3) := by decide +kernel
theorem dX4_endShown_8 : decode cX4_endShown 8 = .ok (.aload_n 0, 1) := by decide +kernel
theorem dX4_endShown_9 : decode cX4_endShown 9 = .ok (.getfield 15, 3) := by decide +kernel
theorem dX4_endShown_12 : decode cX4_endShown 12 = .ok (.iconst 1, 1) := by decide +kernel
theorem dX4_endShown_13 : decode cX4_endShown 13 = .ok (.invokestatic 114, 3) := by decide +kernel
theorem dX4_endShown_16 : decode cX4_endShown 16 = .ok (.iadd, 1) := by decide +kernel
theorem dX4_endShown_17 : decode cX4_endShown 17 = .ok (.aload_n 0, 1) := by decide +kernel
theorem dX4_endShown_18 : decode cX4_endShown 18 = .ok (.getfield 15, 3) := by decide +kernel
theorem dX4_endShown_21 : decode cX4_endShown 21 = .ok (.iconst 2, 1) := by decide +kernel
theorem dX4_endShown_22 : decode cX4_endShown 22 = .ok (.invokestatic 114, 3) := by decide +kernel
theorem dX4_endShown_25 : decode cX4_endShown 25 = .ok (.iadd, 1) := by decide +kernel
theorem dX4_endShown_26 : decode cX4_endShown 26 = .ok (.aload_n 0, 1) := by decide +kernel
theorem dX4_endShown_27 : decode cX4_endShown 27 = .ok (.getfield 52, 3) := by decide +kernel
theorem dX4_endShown_30 : decode cX4_endShown 30 = .ok (.invokestatic 118, 3) := by decide +kernel
theorem dX4_endShown_33 : decode cX4_endShown 33 = .ok (.ireturn, 1) := by decide +kernel
theorem dX4_isPlace_0 : decode cX4_isPlace 0 = .ok (.iload_n 1, 1) := by decide +kernel
theorem dX4_isPlace_1 : decode cX4_isPlace 1 = .ok (.ifCond .lt 18, 3) := by decide +kernel
theorem dX4_isPlace_4 : decode cX4_isPlace 4 = .ok (.iload_n 1, 1) := by decide +kernel
theorem dX4_isPlace_5 : decode cX4_isPlace 5 = .ok (.aload_n 0, 1) := by decide +kernel
theorem dX4_isPlace_6 : decode cX4_isPlace 6 = .ok (.getfield 9, 3) := by decide +kernel
theorem dX4_isPlace_9 : decode cX4_isPlace 9 = .ok (.arraylength, 1) := by decide +kernel
theorem dX4_isPlace_10 : decode cX4_isPlace 10 = .ok (.iconst 3, 1) := by decide +kernel
theorem dX4_isPlace_11 : decode cX4_isPlace 11 = .ok (.isub, 1) := by decide +kernel
theorem dX4_isPlace_12 : decode cX4_isPlace 12 = .ok (.if_icmp .gt 7, 3) := by decide +kernel
theorem dX4_isPlace_15 : decode cX4_isPlace 15 = .ok (.iconst 1, 1) := by decide +kernel
theorem dX4_isPlace_16 : decode cX4_isPlace 16 = .ok (.goto 4, 3) := by decide +kernel
theorem dX4_isPlace_19 : decode cX4_isPlace 19 = .ok (.iconst 0, 1) := by decide +kernel
theorem dX4_isPlace_20 : decode cX4_isPlace 20 = .ok (.ireturn, 1) := by decide +kernel
set_option maxRecDepth 20000 in
theorem ggX4_look_X9_put : GoodIn wsX4_look wsX9_put := goodIn_r _ [7] rfl (by decide +kernel)
set_option maxRecDepth 20000 in
theorem gX4_look_X9_put_n121 : GoodIn wsX4_look (wsX9_put) := ggX4_look_X9_put
theorem dX4_look_0 : decode cX4_look 0 = .ok (.aload_n 0, 1) := by decide +kernel
theorem dX4_look_1 : decode cX4_look 1 = .ok (.aload_n 0, 1) := by decide +kernel
theorem dX4_look_2 : decode cX4_look 2 = .ok (.getfield 56, 3) := by decide +kernel
theorem dX4_look_5 : decode cX4_look 5 = .ok (.aload_n 0, 1) := by decide +kernel
theorem dX4_look_6 : decode cX4_look 6 = .ok (.getfield 52, 3) := by decide +kernel
theorem dX4_look_9 : decode cX4_look 9 = .ok (.imul, 1) := by decide +kernel
theorem dX4_look_10 : decode cX4_look 10 = .ok (.iload_n 1, 1) := by decide +kernel
theorem dX4_look_11 : decode cX4_look 11 = .ok (.iadd, 1) := by decide +kernel
theorem dX4_look_12 : decode cX4_look 12 = .ok (.putfield 56, 3) := by decide +kernel
theorem dX4_look_15 : decode cX4_look 15 = .ok (.aload_n 0, 1) := by decide +kernel
theorem dX4_look_16 : decode cX4_look 16 = .ok (.getfield 24, 3) := by decide +kernel
theorem dX4_look_19 : decode cX4_look 19 = .ok (.aload_n 0, 1) := by decide +kernel
theorem dX4_look_20 : decode cX4_look 20 = .ok (.getfield 53, 3) := by decide +kernel
theorem dX4_look_23 : decode cX4_look 23 = .ok (.iload_n 1, 1) := by decide +kernel
theorem dX4_look_24 : decode cX4_look 24 = .ok (.invokestatic 121, 3) := by decide +kernel
theorem dX4_look_27 : decode cX4_look 27 = .ok (.aload_n 0, 1) := by decide +kernel
theorem dX4_look_28 : decode cX4_look 28 = .ok (.dup, 1) := by decide +kernel
theorem dX4_look_29 : decode cX4_look 29 = .ok (.getfield 53, 3) := by decide +kernel
theorem dX4_look_32 : decode cX4_look 32 = .ok (.iconst 1, 1) := by decide +kernel
theorem dX4_look_33 : decode cX4_look 33 = .ok (.iadd, 1) := by decide +kernel
theorem dX4_look_34 : decode cX4_look 34 = .ok (.putfield 53, 3) := by decide +kernel
theorem dX4_look_37 : decode cX4_look 37 = .ok (.return_, 1) := by decide +kernel
set_option maxRecDepth 20000 in
theorem ggX4_drawLot_X9_at : GoodIn wsX4_drawLot wsX9_at := goodIn_r _ [5] rfl (by decide +kernel)
set_option maxRecDepth 20000 in
theorem gX4_drawLot_X9_at_n114 : GoodIn wsX4_drawLot (wsX9_at) := ggX4_drawLot_X9_at
set_option maxRecDepth 20000 in
theorem ggX4_drawLot_X9_mod : GoodIn wsX4_drawLot wsX9_mod := goodIn_r _ [7] rfl (by decide +kernel)
set_option maxRecDepth 20000 in
theorem gX4_drawLot_X9_mod_n118 : GoodIn wsX4_drawLot (wsX9_mod) := ggX4_drawLot_X9_mod
theorem dX4_drawLot_0 : decode cX4_drawLot 0 = .ok (.aload_n 1, 1) := by decide +kernel
theorem dX4_drawLot_1 : decode cX4_drawLot 1 = .ok (.aload_n 0, 1) := by decide +kernel
theorem dX4_drawLot_2 : decode cX4_drawLot 2 = .ok (.getfield 59, 3) := by decide +kernel
theorem dX4_drawLot_5 : decode cX4_drawLot 5 = .ok (.invokestatic 114, 3) := by decide +kernel
theorem dX4_drawLot_8 : decode cX4_drawLot 8 = .ok (.aload_n 0, 1) := by decide +kernel
theorem dX4_drawLot_9 : decode cX4_drawLot 9 = .ok (.getfield 52, 3) := by decide +kernel
theorem dX4_drawLot_12 : decode cX4_drawLot 12 = .ok (.invokestatic 118, 3) := by decide +kernel
theorem dX4_drawLot_15 : decode cX4_drawLot 15 = .ok (.istore_n 2, 1) := by decide +kernel
theorem dX4_drawLot_16 : decode cX4_drawLot 16 = .ok (.aload_n 0, 1) := by decide +kernel
theorem dX4_drawLot_17 : decode cX4_drawLot 17 = .ok (.dup, 1) := by decide +kernel
theorem dX4_drawLot_18 : decode cX4_drawLot 18 = .ok (.getfield 59, 3) := by decide +kernel
theorem dX4_drawLot_21 : decode cX4_drawLot 21 = .ok (.iconst 1, 1) := by decide +kernel
theorem dX4_drawLot_22 : decode cX4_drawLot 22 = .ok (.iadd, 1) := by decide +kernel
theorem dX4_drawLot_23 : decode cX4_drawLot 23 = .ok (.putfield 59, 3) := by decide +kernel
theorem dX4_drawLot_26 : decode cX4_drawLot 26 = .ok (.iload_n 2, 1) := by decide +kernel
theorem dX4_drawLot_27 : decode cX4_drawLot 27 = .ok (.ireturn, 1) := by decide +kernel
set_option maxRecDepth 20000 in
theorem ggX4_cut_X4_drawLot : GoodIn wsX4_cut wsX4_drawLot := goodIn_r _ [9, 10, 3, 11, 12, 13, 14, 15, 29, 30, 31, 32, 33, 34, 35, 36, 37, 38, 39, 40, 41] rfl (by decide +kernel)
set_option maxRecDepth 20000 in
theorem gX4_cut_X4_drawLot : GoodIn wsX4_cut (wsV RX4 125 RX4 yX4_drawLot wsX4_drawLot) := goodIn_app (goodIn_of _ (by decide +kernel)) ggX4_cut_X4_drawLot
set_option maxRecDepth 20000 in
theorem ggX4_cut_X4_isPlace : GoodIn wsX4_cut wsX4_isPlace := goodIn_r _ [19, 2, 29, 30, 31, 32, 33, 34, 35, 36, 37, 38, 39, 40, 41] rfl (by decide +kernel)
set_option maxRecDepth 20000 in
theorem gX4_cut_X4_isPlace : GoodIn wsX4_cut (wsV RX4 129 RX4 yX4_isPlace wsX4_isPlace) := goodIn_app (goodIn_of _ (by decide +kernel)) ggX4_cut_X4_isPlace
set_option maxRecDepth 20000 in
theorem ggX4_cut_X9_mod : GoodIn wsX4_cut wsX9_mod := goodIn_r _ [15] rfl (by decide +kernel)
set_option maxRecDepth 20000 in
theorem gX4_cut_X9_mod_n118 : GoodIn wsX4_cut (wsX9_mod) := ggX4_cut_X9_mod
set_option maxRecDepth 20000 in
theorem ggX4_cut_X4_look : GoodIn wsX4_cut wsX4_look := goodIn_r _ [23, 24, 3, 25, 26, 27, 12, 28, 29, 30, 31, 32, 33, 34, 35, 36, 37, 38, 39, 40, 41] rfl (by decide +kernel)
set_option maxRecDepth 20000 in
theorem gX4_cut_X4_look : GoodIn wsX4_cut (wsV RX4 133 RX4 yX4_look wsX4_look) := goodIn_app (goodIn_of _ (by decide +kernel)) ggX4_cut_X4_look
theorem dX4_cut_0 : decode cX4_cut 0 = .ok (.aload_n 0, 1) := by decide +kernel
theorem dX4_cut_1 : decode cX4_cut 1 = .ok (.dup, 1) := by decide +kernel
theorem dX4_cut_2 : decode cX4_cut 2 = .ok (.getfield 62, 3) := by decide +kernel
theorem dX4_cut_5 : decode cX4_cut 5 = .ok (.iconst 1, 1) := by decide +kernel
theorem dX4_cut_6 : decode cX4_cut 6 = .ok (.iadd, 1) := by decide +kernel
theorem dX4_cut_7 : decode cX4_cut 7 = .ok (.putfield 62, 3) := by decide +kernel
theorem dX4_cut_10 : decode cX4_cut 10 = .ok (.aload_n 0, 1) := by decide +kernel
theorem dX4_cut_11 : decode cX4_cut 11 = .ok (.aload 4, 2) := by decide +kernel
theorem dX4_cut_13 : decode cX4_cut 13 = .ok (.invokevirtual 125, 3) := by decide +kernel
theorem dX4_cut_16 : decode cX4_cut 16 = .ok (.istore 5, 2) := by decide +kernel
theorem dX4_cut_18 : decode cX4_cut 18 = .ok (.aload_n 0, 1) := by decide +kernel
theorem dX4_cut_19 : decode cX4_cut 19 = .ok (.aload 4, 2) := by decide +kernel
theorem dX4_cut_21 : decode cX4_cut 21 = .ok (.invokevirtual 125, 3) := by decide +kernel
theorem dX4_cut_24 : decode cX4_cut 24 = .ok (.istore 6, 2) := by decide +kernel
theorem dX4_cut_26 : decode cX4_cut 26 = .ok (.aload_n 0, 1) := by decide +kernel
theorem dX4_cut_27 : decode cX4_cut 27 = .ok (.iload_n 1, 1) := by decide +kernel
theorem dX4_cut_28 : decode cX4_cut 28 = .ok (.invokevirtual 129, 3) := by decide +kernel
theorem dX4_cut_31 : decode cX4_cut 31 = .ok (.ifCond .ne 4, 3) := by decide +kernel
theorem dX4_cut_34 : decode cX4_cut 34 = .ok (.return_, 1) := by decide +kernel
theorem dX4_cut_35 : decode cX4_cut 35 = .ok (.aload_n 0, 1) := by decide +kernel
theorem dX4_cut_36 : decode cX4_cut 36 = .ok (.getfield 9, 3) := by decide +kernel
theorem dX4_cut_39 : decode cX4_cut 39 = .ok (.iload_n 1, 1) := by decide +kernel
theorem dX4_cut_40 : decode cX4_cut 40 = .ok (.iload 5, 2) := by decide +kernel
theorem dX4_cut_42 : decode cX4_cut 42 = .ok (.iastore, 1) := by decide +kernel
theorem dX4_cut_43 : decode cX4_cut 43 = .ok (.aload_n 0, 1) := by decide +kernel
theorem dX4_cut_44 : decode cX4_cut 44 = .ok (.getfield 9, 3) := by decide +kernel
theorem dX4_cut_47 : decode cX4_cut 47 = .ok (.iload_n 1, 1) := by decide +kernel
theorem dX4_cut_48 : decode cX4_cut 48 = .ok (.iconst 1, 1) := by decide +kernel
theorem dX4_cut_49 : decode cX4_cut 49 = .ok (.iadd, 1) := by decide +kernel
theorem dX4_cut_50 : decode cX4_cut 50 = .ok (.iload 6, 2) := by decide +kernel
theorem dX4_cut_52 : decode cX4_cut 52 = .ok (.iastore, 1) := by decide +kernel
theorem dX4_cut_53 : decode cX4_cut 53 = .ok (.aload_n 0, 1) := by decide +kernel
theorem dX4_cut_54 : decode cX4_cut 54 = .ok (.getfield 9, 3) := by decide +kernel
theorem dX4_cut_57 : decode cX4_cut 57 = .ok (.iload_n 1, 1) := by decide +kernel
theorem dX4_cut_58 : decode cX4_cut 58 = .ok (.iconst 2, 1) := by decide +kernel
theorem dX4_cut_59 : decode cX4_cut 59 = .ok (.iadd, 1) := by decide +kernel
theorem dX4_cut_60 : decode cX4_cut 60 = .ok (.iload_n 3, 1) := by decide +kernel
theorem dX4_cut_61 : decode cX4_cut 61 = .ok (.iload 5, 2) := by decide +kernel
theorem dX4_cut_63 : decode cX4_cut 63 = .ok (.isub, 1) := by decide +kernel
theorem dX4_cut_64 : decode cX4_cut 64 = .ok (.iload 6, 2) := by decide +kernel
theorem dX4_cut_66 : decode cX4_cut 66 = .ok (.isub, 1) := by decide +kernel
theorem dX4_cut_67 : decode cX4_cut 67 = .ok (.aload_n 0, 1) := by decide +kernel
theorem dX4_cut_68 : decode cX4_cut 68 = .ok (.getfield 52, 3) := by decide +kernel
theorem dX4_cut_71 : decode cX4_cut 71 = .ok (.invokestatic 118, 3) := by decide +kernel
theorem dX4_cut_74 : decode cX4_cut 74 = .ok (.iastore, 1) := by decide +kernel
theorem dX4_cut_75 : decode cX4_cut 75 = .ok (.iconst 0, 1) := by decide +kernel
theorem dX4_cut_76 : decode cX4_cut 76 = .ok (.istore 7, 2) := by decide +kernel
theorem dX4_cut_78 : decode cX4_cut 78 = .ok (.iload 7, 2) := by decide +kernel
theorem dX4_cut_80 : decode cX4_cut 80 = .ok (.iconst 3, 1) := by decide +kernel
theorem dX4_cut_81 : decode cX4_cut 81 = .ok (.if_icmp .ge 35, 3) := by decide +kernel
theorem dX4_cut_84 : decode cX4_cut 84 = .ok (.iload_n 2, 1) := by decide +kernel
theorem dX4_cut_85 : decode cX4_cut 85 = .ok (.ifCond .ne 12, 3) := by decide +kernel
theorem dX4_cut_88 : decode cX4_cut 88 = .ok (.iload 7, 2) := by decide +kernel
theorem dX4_cut_90 : decode cX4_cut 90 = .ok (.aload_n 0, 1) := by decide +kernel
theorem dX4_cut_91 : decode cX4_cut 91 = .ok (.getfield 45, 3) := by decide +kernel
theorem dX4_cut_94 : decode cX4_cut 94 = .ok (.if_icmp .ne 16, 3) := by decide +kernel
theorem dX4_cut_97 : decode cX4_cut 97 = .ok (.aload_n 0, 1) := by decide +kernel
theorem dX4_cut_98 : decode cX4_cut 98 = .ok (.aload_n 0, 1) := by decide +kernel
theorem dX4_cut_99 : decode cX4_cut 99 = .ok (.getfield 9, 3) := by decide +kernel
theorem dX4_cut_102 : decode cX4_cut 102 = .ok (.iload_n 1, 1) := by decide +kernel
theorem dX4_cut_103 : decode cX4_cut 103 = .ok (.iload 7, 2) := by decide +kernel
theorem dX4_cut_105 : decode cX4_cut 105 = .ok (.iadd, 1) := by decide +kernel
theorem dX4_cut_106 : decode cX4_cut 106 = .ok (.iaload, 1) := by decide +kernel
theorem dX4_cut_107 : decode cX4_cut 107 = .ok (.invokevirtual 133, 3) := by decide +kernel
theorem dX4_cut_110 : decode cX4_cut 110 = .ok (.iinc 7 1, 3) := by decide +kernel
theorem dX4_cut_113 : decode cX4_cut 113 = .ok (.goto (-35), 3) := by decide +kernel
theorem dX4_cut_116 : decode cX4_cut 116 = .ok (.return_, 1) := by decide +kernel
set_option maxRecDepth 20000 in
theorem ggX4_fix_X4_isPlace : GoodIn wsX4_fix wsX4_isPlace := goodIn_r _ [7, 1, 11, 12, 13, 14, 15, 16, 17, 18, 19, 20, 21, 22, 23] rfl (by decide +kernel)
set_option maxRecDepth 20000 in
theorem gX4_fix_X4_isPlace : GoodIn wsX4_fix (wsV RX4 129 RX4 yX4_isPlace wsX4_isPlace) := goodIn_app (goodIn_of _ (by decide +kernel)) ggX4_fix_X4_isPlace
set_option maxRecDepth 20000 in
theorem ggX4_fix_X9_mod : GoodIn wsX4_fix wsX9_mod := goodIn_r _ [10] rfl (by decide +kernel)
set_option maxRecDepth 20000 in
theorem gX4_fix_X9_mod_n118 : GoodIn wsX4_fix (wsX9_mod) := ggX4_fix_X9_mod
theorem dX4_fix_0 : decode cX4_fix 0 = .ok (.aload_n 0, 1) := by decide +kernel
theorem dX4_fix_1 : decode cX4_fix 1 = .ok (.iload_n 1, 1) := by decide +kernel
theorem dX4_fix_2 : decode cX4_fix 2 = .ok (.invokevirtual 129, 3) := by decide +kernel
theorem dX4_fix_5 : decode cX4_fix 5 = .ok (.ifCond .ne 4, 3) := by decide +kernel
theorem dX4_fix_8 : decode cX4_fix 8 = .ok (.return_, 1) := by decide +kernel
theorem dX4_fix_9 : decode cX4_fix 9 = .ok (.aload_n 0, 1) := by decide +kernel
theorem dX4_fix_10 : decode cX4_fix 10 = .ok (.getfield 9, 3) := by decide +kernel
theorem dX4_fix_13 : decode cX4_fix 13 = .ok (.iload_n 1, 1) := by decide +kernel
theorem dX4_fix_14 : decode cX4_fix 14 = .ok (.iload_n 2, 1) := by decide +kernel
theorem dX4_fix_15 : decode cX4_fix 15 = .ok (.aload_n 0, 1) := by decide +kernel
theorem dX4_fix_16 : decode cX4_fix 16 = .ok (.getfield 52, 3) := by decide +kernel
theorem dX4_fix_19 : decode cX4_fix 19 = .ok (.invokestatic 118, 3) := by decide +kernel
theorem dX4_fix_22 : decode cX4_fix 22 = .ok (.iastore, 1) := by decide +kernel
theorem dX4_fix_23 : decode cX4_fix 23 = .ok (.aload_n 0, 1) := by decide +kernel
theorem dX4_fix_24 : decode cX4_fix 24 = .ok (.getfield 9, 3) := by decide +kernel
theorem dX4_fix_27 : decode cX4_fix 27 = .ok (.iload_n 1, 1) := by decide +kernel
theorem dX4_fix_28 : decode cX4_fix 28 = .ok (.iconst 1, 1) := by decide +kernel
theorem dX4_fix_29 : decode cX4_fix 29 = .ok (.iadd, 1) := by decide +kernel
theorem dX4_fix_30 : decode cX4_fix 30 = .ok (.iconst 0, 1) := by decide +kernel
theorem dX4_fix_31 : decode cX4_fix 31 = .ok (.iastore, 1) := by decide +kernel
theorem dX4_fix_32 : decode cX4_fix 32 = .ok (.aload_n 0, 1) := by decide +kernel
theorem dX4_fix_33 : decode cX4_fix 33 = .ok (.getfield 9, 3) := by decide +kernel
theorem dX4_fix_36 : decode cX4_fix 36 = .ok (.iload_n 1, 1) := by decide +kernel
theorem dX4_fix_37 : decode cX4_fix 37 = .ok (.iconst 2, 1) := by decide +kernel
theorem dX4_fix_38 : decode cX4_fix 38 = .ok (.iadd, 1) := by decide +kernel
theorem dX4_fix_39 : decode cX4_fix 39 = .ok (.iconst 0, 1) := by decide +kernel
theorem dX4_fix_40 : decode cX4_fix 40 = .ok (.iastore, 1) := by decide +kernel
theorem dX4_fix_41 : decode cX4_fix 41 = .ok (.return_, 1) := by decide +kernel
set_option maxRecDepth 20000 in
theorem ggX4_join_X4_isPlace : GoodIn wsX4_join wsX4_isPlace := goodIn_r _ [7, 1, 11, 12, 13, 14, 15, 16, 17, 18, 19, 20, 21, 22, 23] rfl (by decide +kernel)
set_option maxRecDepth 20000 in
theorem gX4_join_X4_isPlace : GoodIn wsX4_join (wsV RX4 129 RX4 yX4_isPlace wsX4_isPlace) := goodIn_app (goodIn_of _ (by decide +kernel)) ggX4_join_X4_isPlace
set_option maxRecDepth 20000 in
theorem ggX4_join_X9_mod : GoodIn wsX4_join wsX9_mod := goodIn_r _ [10] rfl (by decide +kernel)
set_option maxRecDepth 20000 in
theorem gX4_join_X9_mod_n118 : GoodIn wsX4_join (wsX9_mod) := ggX4_join_X9_mod
theorem dX4_join_0 : decode cX4_join 0 = .ok (.aload_n 0, 1) := by decide +kernel
theorem dX4_join_1 : decode cX4_join 1 = .ok (.iload_n 1, 1) := by decide +kernel
theorem dX4_join_2 : decode cX4_join 2 = .ok (.invokevirtual 129, 3) := by decide +kernel
theorem dX4_join_5 : decode cX4_join 5 = .ok (.ifCond .eq 19, 3) := by decide +kernel
theorem dX4_join_8 : decode cX4_join 8 = .ok (.aload_n 0, 1) := by decide +kernel
theorem dX4_join_9 : decode cX4_join 9 = .ok (.iload_n 2, 1) := by decide +kernel
theorem dX4_join_10 : decode cX4_join 10 = .ok (.invokevirtual 129, 3) := by decide +kernel
theorem dX4_join_13 : decode cX4_join 13 = .ok (.ifCond .eq 11, 3) := by decide +kernel
theorem dX4_join_16 : decode cX4_join 16 = .ok (.aload_n 0, 1) := by decide +kernel
theorem dX4_join_17 : decode cX4_join 17 = .ok (.iload_n 3, 1) := by decide +kernel
theorem dX4_join_18 : decode cX4_join 18 = .ok (.invokevirtual 129, 3) := by decide +kernel
theorem dX4_join_21 : decode cX4_join 21 = .ok (.ifCond .ne 4, 3) := by decide +kernel
theorem dX4_join_24 : decode cX4_join 24 = .ok (.return_, 1) := by decide +kernel
theorem dX4_join_25 : decode cX4_join 25 = .ok (.iconst 0, 1) := by decide +kernel
theorem dX4_join_26 : decode cX4_join 26 = .ok (.istore 5, 2) := by decide +kernel
theorem dX4_join_28 : decode cX4_join 28 = .ok (.iload 5, 2) := by decide +kernel
theorem dX4_join_30 : decode cX4_join 30 = .ok (.iconst 3, 1) := by decide +kernel
theorem dX4_join_31 : decode cX4_join 31 = .ok (.if_icmp .ge 47, 3) := by decide +kernel
theorem dX4_join_34 : decode cX4_join 34 = .ok (.aload_n 0, 1) := by decide +kernel
theorem dX4_join_35 : decode cX4_join 35 = .ok (.getfield 9, 3) := by decide +kernel
theorem dX4_join_38 : decode cX4_join 38 = .ok (.iload_n 1, 1) := by decide +kernel
theorem dX4_join_39 : decode cX4_join 39 = .ok (.iload 5, 2) := by decide +kernel
theorem dX4_join_41 : decode cX4_join 41 = .ok (.iadd, 1) := by decide +kernel
theorem dX4_join_42 : decode cX4_join 42 = .ok (.aload_n 0, 1) := by decide +kernel
theorem dX4_join_43 : decode cX4_join 43 = .ok (.getfield 9, 3) := by decide +kernel
theorem dX4_join_46 : decode cX4_join 46 = .ok (.iload_n 2, 1) := by decide +kernel
theorem dX4_join_47 : decode cX4_join 47 = .ok (.iload 5, 2) := by decide +kernel
theorem dX4_join_49 : decode cX4_join 49 = .ok (.iadd, 1) := by decide +kernel
theorem dX4_join_50 : decode cX4_join 50 = .ok (.iaload, 1) := by decide +kernel
theorem dX4_join_51 : decode cX4_join 51 = .ok (.iload 4, 2) := by decide +kernel
theorem dX4_join_53 : decode cX4_join 53 = .ok (.aload_n 0, 1) := by decide +kernel
theorem dX4_join_54 : decode cX4_join 54 = .ok (.getfield 9, 3) := by decide +kernel
theorem dX4_join_57 : decode cX4_join 57 = .ok (.iload_n 3, 1) := by decide +kernel
theorem dX4_join_58 : decode cX4_join 58 = .ok (.iload 5, 2) := by decide +kernel
theorem dX4_join_60 : decode cX4_join 60 = .ok (.iadd, 1) := by decide +kernel
theorem dX4_join_61 : decode cX4_join 61 = .ok (.iaload, 1) := by decide +kernel
theorem dX4_join_62 : decode cX4_join 62 = .ok (.imul, 1) := by decide +kernel
theorem dX4_join_63 : decode cX4_join 63 = .ok (.iadd, 1) := by decide +kernel
theorem dX4_join_64 : decode cX4_join 64 = .ok (.aload_n 0, 1) := by decide +kernel
theorem dX4_join_65 : decode cX4_join 65 = .ok (.getfield 52, 3) := by decide +kernel
theorem dX4_join_68 : decode cX4_join 68 = .ok (.invokestatic 118, 3) := by decide +kernel
theorem dX4_join_71 : decode cX4_join 71 = .ok (.iastore, 1) := by decide +kernel
theorem dX4_join_72 : decode cX4_join 72 = .ok (.iinc 5 1, 3) := by decide +kernel
theorem dX4_join_75 : decode cX4_join 75 = .ok (.goto (-47), 3) := by decide +kernel
theorem dX4_join_78 : decode cX4_join 78 = .ok (.return_, 1) := by decide +kernel
set_option maxRecDepth 20000 in
theorem ggX4_drawTriple_X4_drawLot : GoodIn wsX4_drawTriple wsX4_drawLot := goodIn_r _ [7, 8, 2, 9, 10, 11, 12, 13, 16, 17, 18, 19, 20, 21, 22, 23, 24, 25, 26, 27, 28] rfl (by decide +kernel)
set_option maxRecDepth 20000 in
theorem gX4_drawTriple_X4_drawLot : GoodIn wsX4_drawTriple (wsV RX4 125 RX4 yX4_drawLot wsX4_drawLot) := goodIn_app (goodIn_of _ (by decide +kernel)) ggX4_drawTriple_X4_drawLot
set_option maxRecDepth 20000 in
theorem ggX4_drawTriple_X9_put : GoodIn wsX4_drawTriple wsX9_put := goodIn_r _ [15] rfl (by decide +kernel)
set_option maxRecDepth 20000 in
theorem gX4_drawTriple_X9_put_n121 : GoodIn wsX4_drawTriple (wsX9_put) := ggX4_drawTriple_X9_put
set_option maxRecDepth 20000 in
theorem ggX4_drawTriple_X9_mod : GoodIn wsX4_drawTriple wsX9_mod := goodIn_r _ [13] rfl (by decide +kernel)
set_option maxRecDepth 20000 in
theorem gX4_drawTriple_X9_mod_n118 : GoodIn wsX4_drawTriple (wsX9_mod) := ggX4_drawTriple_X9_mod
theorem dX4_drawTriple_0 : decode cX4_drawTriple 0 = .ok (.iconst 0, 1) := by decide +kernel
theorem dX4_drawTriple_1 : decode cX4_drawTriple 1 = .ok (.istore_n 2, 1) := by decide +kernel
theorem dX4_drawTriple_2 : decode cX4_drawTriple 2 = .ok (.iload_n 2, 1) := by decide +kernel
theorem dX4_drawTriple_3 : decode cX4_drawTriple 3 = .ok (.bipush 8, 2) := by decide +kernel
theorem dX4_drawTriple_5 : decode cX4_drawTriple 5 = .ok (.if_icmp .ge 22, 3) := by decide +kernel
theorem dX4_drawTriple_8 : decode cX4_drawTriple 8 = .ok (.aload_n 0, 1) := by decide +kernel
theorem dX4_drawTriple_9 : decode cX4_drawTriple 9 = .ok (.getfield 21, 3) := by decide +kernel
theorem dX4_drawTriple_12 : decode cX4_drawTriple 12 = .ok (.iload_n 2, 1) := by decide +kernel
theorem dX4_drawTriple_13 : decode cX4_drawTriple 13 = .ok (.aload_n 0, 1) := by decide +kernel
theorem dX4_drawTriple_14 : decode cX4_drawTriple 14 = .ok (.aload_n 1, 1) := by decide +kernel
theorem dX4_drawTriple_15 : decode cX4_drawTriple 15 = .ok (.invokevirtual 125, 3) := by decide +kernel
theorem dX4_drawTriple_18 : decode cX4_drawTriple 18 = .ok (.invokestatic 121, 3) := by decide +kernel
theorem dX4_drawTriple_21 : decode cX4_drawTriple 21 = .ok (.iinc 2 1, 3) := by decide +kernel
theorem dX4_drawTriple_24 : decode cX4_drawTriple 24 = .ok (.goto (-22), 3) := by decide +kernel
theorem dX4_drawTriple_27 : decode cX4_drawTriple 27 = .ok (.aload_n 0, 1) := by decide +kernel
theorem dX4_drawTriple_28 : decode cX4_drawTriple 28 = .ok (.getfield 21, 3) := by decide +kernel
theorem dX4_drawTriple_31 : decode cX4_drawTriple 31 = .ok (.iconst 0, 1) := by decide +kernel
theorem dX4_drawTriple_32 : decode cX4_drawTriple 32 = .ok (.iaload, 1) := by decide +kernel
theorem dX4_drawTriple_33 : decode cX4_drawTriple 33 = .ok (.aload_n 0, 1) := by decide +kernel
theorem dX4_drawTriple_34 : decode cX4_drawTriple 34 = .ok (.getfield 21, 3) := by decide +kernel
theorem dX4_drawTriple_37 : decode cX4_drawTriple 37 = .ok (.iconst 1, 1) := by decide +kernel
theorem dX4_drawTriple_38 : decode cX4_drawTriple 38 = .ok (.iaload, 1) := by decide +kernel
theorem dX4_drawTriple_39 : decode cX4_drawTriple 39 = .ok (.iadd, 1) := by decide +kernel
theorem dX4_drawTriple_40 : decode cX4_drawTriple 40 = .ok (.aload_n 0, 1) := by decide +kernel
theorem dX4_drawTriple_41 : decode cX4_drawTriple 41 = .ok (.getfield 21, 3) := by decide +kernel
theorem dX4_drawTriple_44 : decode cX4_drawTriple 44 = .ok (.iconst 2, 1) := by decide +kernel
theorem dX4_drawTriple_45 : decode cX4_drawTriple 45 = .ok (.iaload, 1) := by decide +kernel
theorem dX4_drawTriple_46 : decode cX4_drawTriple 46 = .ok (.iadd, 1) := by decide +kernel
theorem dX4_drawTriple_47 : decode cX4_drawTriple 47 = .ok (.istore_n 2, 1) := by decide +kernel
theorem dX4_drawTriple_48 : decode cX4_drawTriple 48 = .ok (.aload_n 0, 1) := by decide +kernel
theorem dX4_drawTriple_49 : decode cX4_drawTriple 49 = .ok (.getfield 21, 3) := by decide +kernel
theorem dX4_drawTriple_52 : decode cX4_drawTriple 52 = .ok (.iconst 3, 1) := by decide +kernel
theorem dX4_drawTriple_53 : decode cX4_drawTriple 53 = .ok (.iaload, 1) := by decide +kernel
theorem dX4_drawTriple_54 : decode cX4_drawTriple 54 = .ok (.aload_n 0, 1) := by decide +kernel
theorem dX4_drawTriple_55 : decode cX4_drawTriple 55 = .ok (.getfield 21, 3) := by decide +kernel
theorem dX4_drawTriple_58 : decode cX4_drawTriple 58 = .ok (.iconst 4, 1) := by decide +kernel
theorem dX4_drawTriple_59 : decode cX4_drawTriple 59 = .ok (.iaload, 1) := by decide +kernel
theorem dX4_drawTriple_60 : decode cX4_drawTriple 60 = .ok (.iadd, 1) := by decide +kernel
theorem dX4_drawTriple_61 : decode cX4_drawTriple 61 = .ok (.aload_n 0, 1) := by decide +kernel
theorem dX4_drawTriple_62 : decode cX4_drawTriple 62 = .ok (.getfield 21, 3) := by decide +kernel
theorem dX4_drawTriple_65 : decode cX4_drawTriple 65 = .ok (.iconst 5, 1) := by decide +kernel
theorem dX4_drawTriple_66 : decode cX4_drawTriple 66 = .ok (.iaload, 1) := by decide +kernel
theorem dX4_drawTriple_67 : decode cX4_drawTriple 67 = .ok (.iadd, 1) := by decide +kernel
theorem dX4_drawTriple_68 : decode cX4_drawTriple 68 = .ok (.istore_n 3, 1) := by decide +kernel
theorem dX4_drawTriple_69 : decode cX4_drawTriple 69 = .ok (.aload_n 0, 1) := by decide +kernel
theorem dX4_drawTriple_70 : decode cX4_drawTriple 70 = .ok (.getfield 21, 3) := by decide +kernel
theorem dX4_drawTriple_73 : decode cX4_drawTriple 73 = .ok (.bipush 8, 2) := by decide +kernel
theorem dX4_drawTriple_75 : decode cX4_drawTriple 75 = .ok (.iload_n 2, 1) := by decide +kernel
theorem dX4_drawTriple_76 : decode cX4_drawTriple 76 = .ok (.iload_n 3, 1) := by decide +kernel
theorem dX4_drawTriple_77 : decode cX4_drawTriple 77 = .ok (.imul, 1) := by decide +kernel
theorem dX4_drawTriple_78 : decode cX4_drawTriple 78 = .ok (.aload_n 0, 1) := by decide +kernel
theorem dX4_drawTriple_79 : decode cX4_drawTriple 79 = .ok (.getfield 21, 3) := by decide +kernel
theorem dX4_drawTriple_82 : decode cX4_drawTriple 82 = .ok (.bipush 6, 2) := by decide +kernel
theorem dX4_drawTriple_84 : decode cX4_drawTriple 84 = .ok (.iaload, 1) := by decide +kernel
theorem dX4_drawTriple_85 : decode cX4_drawTriple 85 = .ok (.isub, 1) := by decide +kernel
theorem dX4_drawTriple_86 : decode cX4_drawTriple 86 = .ok (.aload_n 0, 1) := by decide +kernel
theorem dX4_drawTriple_87 : decode cX4_drawTriple 87 = .ok (.getfield 21, 3) := by decide +kernel
theorem dX4_drawTriple_90 : decode cX4_drawTriple 90 = .ok (.bipush 7, 2) := by decide +kernel
theorem dX4_drawTriple_92 : decode cX4_drawTriple 92 = .ok (.iaload, 1) := by decide +kernel
theorem dX4_drawTriple_93 : decode cX4_drawTriple 93 = .ok (.isub, 1) := by decide +kernel
theorem dX4_drawTriple_94 : decode cX4_drawTriple 94 = .ok (.aload_n 0, 1) := by decide +kernel
theorem dX4_drawTriple_95 : decode cX4_drawTriple 95 = .ok (.getfield 52, 3) := by decide +kernel
theorem dX4_drawTriple_98 : decode cX4_drawTriple 98 = .ok (.invokestatic 118, 3) := by decide +kernel
theorem dX4_drawTriple_101 : decode cX4_drawTriple 101 = .ok (.iastore, 1) := by decide +kernel
theorem dX4_drawTriple_102 : decode cX4_drawTriple 102 = .ok (.return_, 1) := by decide +kernel
set_option maxRecDepth 20000 in
theorem ggX4_showLessTriple_X4_isPlace : GoodIn wsX4_showLessTriple wsX4_isPlace := goodIn_r _ [11, 2, 26, 27, 28, 29, 30, 31, 32, 33, 34, 35, 36, 37, 38] rfl (by decide +kernel)
set_option maxRecDepth 20000 in
theorem gX4_showLessTriple_X4_isPlace : GoodIn wsX4_showLessTriple (wsV RX4 129 RX4 yX4_isPlace wsX4_isPlace) := goodIn_app (goodIn_of _ (by decide +kernel)) ggX4_showLessTriple_X4_isPlace
set_option maxRecDepth 20000 in
theorem ggX4_showLessTriple_X9_at : GoodIn wsX4_showLessTriple wsX9_at := goodIn_r _ [14] rfl (by decide +kernel)
set_option maxRecDepth 20000 in
theorem gX4_showLessTriple_X9_at_n114 : GoodIn wsX4_showLessTriple (wsX9_at) := ggX4_showLessTriple_X9_at
set_option maxRecDepth 20000 in
theorem ggX4_showLessTriple_X9_mod : GoodIn wsX4_showLessTriple wsX9_mod := goodIn_r _ [16] rfl (by decide +kernel)
set_option maxRecDepth 20000 in
theorem gX4_showLessTriple_X9_mod_n118 : GoodIn wsX4_showLessTriple (wsX9_mod) := ggX4_showLessTriple_X9_mod
set_option maxRecDepth 20000 in
theorem ggX4_showLessTriple_X4_look : GoodIn wsX4_showLessTriple wsX4_look := goodIn_r _ [20, 21, 4, 22, 23, 24, 13, 25, 26, 27, 28, 29, 30, 31, 32, 33, 34, 35, 36, 37, 38] rfl (by decide +kernel)
set_option maxRecDepth 20000 in
theorem gX4_showLessTriple_X4_look : GoodIn wsX4_showLessTriple (wsV RX4 133 RX4 yX4_look wsX4_look) := goodIn_app (goodIn_of _ (by decide +kernel)) ggX4_showLessTriple_X4_look
theorem dX4_showLessTriple_0 : decode cX4_showLessTriple 0 = .ok (.aload_n 0, 1) := by decide +kernel
theorem dX4_showLessTriple_1 : decode cX4_showLessTriple 1 = .ok (.iload_n 1, 1) := by decide +kernel
theorem dX4_showLessTriple_2 : decode cX4_showLessTriple 2 = .ok (.invokevirtual 129, 3) := by decide +kernel
theorem dX4_showLessTriple_5 : decode cX4_showLessTriple 5 = .ok (.ifCond .eq 11, 3) := by decide +kernel
theorem dX4_showLessTriple_8 : decode cX4_showLessTriple 8 = .ok (.aload_n 0, 1) := by decide +kernel
theorem dX4_showLessTriple_9 : decode cX4_showLessTriple 9 = .ok (.iload_n 2, 1) := by decide +kernel
theorem dX4_showLessTriple_10 : decode cX4_showLessTriple 10 = .ok (.invokevirtual 129, 3) := by decide +kernel
theorem dX4_showLessTriple_13 : decode cX4_showLessTriple 13 = .ok (.ifCond .ne 4, 3) := by decide +kernel
theorem dX4_showLessTriple_16 : decode cX4_showLessTriple 16 = .ok (.return_, 1) := by decide +kernel
theorem dX4_showLessTriple_17 : decode cX4_showLessTriple 17 = .ok (.iconst 0, 1) := by decide +kernel
theorem dX4_showLessTriple_18 : decode cX4_showLessTriple 18 = .ok (.istore 5, 2) := by decide +kernel
theorem dX4_showLessTriple_20 : decode cX4_showLessTriple 20 = .ok (.iload 5, 2) := by decide +kernel
theorem dX4_showLessTriple_22 : decode cX4_showLessTriple 22 = .ok (.iconst 3, 1) := by decide +kernel
theorem dX4_showLessTriple_23 : decode cX4_showLessTriple 23 = .ok (.if_icmp .ge 83, 3) := by decide +kernel
theorem dX4_showLessTriple_26 : decode cX4_showLessTriple 26 = .ok (.aload_n 0, 1) := by decide +kernel
theorem dX4_showLessTriple_27 : decode cX4_showLessTriple 27 = .ok (.getfield 15, 3) := by decide +kernel
theorem dX4_showLessTriple_30 : decode cX4_showLessTriple 30 = .ok (.iload 5, 2) := by decide +kernel
theorem dX4_showLessTriple_32 : decode cX4_showLessTriple 32 = .ok (.aload_n 0, 1) := by decide +kernel
theorem dX4_showLessTriple_33 : decode cX4_showLessTriple 33 = .ok (.getfield 9, 3) := by decide +kernel
theorem dX4_showLessTriple_36 : decode cX4_showLessTriple 36 = .ok (.iload_n 1, 1) := by decide +kernel
theorem dX4_showLessTriple_37 : decode cX4_showLessTriple 37 = .ok (.iload 5, 2) := by decide +kernel
theorem dX4_showLessTriple_39 : decode cX4_showLessTriple 39 = .ok (.iadd, 1) := by decide +kernel
theorem dX4_showLessTriple_40 : decode cX4_showLessTriple 40 = .ok (.iaload, 1) := by decide +kernel
theorem dX4_showLessTriple_41 : decode cX4_showLessTriple 41 = .ok (.aload_n 0, 1) := by decide +kernel
theorem dX4_showLessTriple_42 : decode cX4_showLessTriple 42 = .ok (.getfield 21, 3) := by decide +kernel
theorem dX4_showLessTriple_45 : decode cX4_showLessTriple 45 = .ok (.iload 5, 2) := by decide +kernel
theorem dX4_showLessTriple_47 : decode cX4_showLessTriple 47 = .ok (.iaload, 1) := by decide +kernel
theorem dX4_showLessTriple_48 : decode cX4_showLessTriple 48 = .ok (.isub, 1) := by decide +kernel
theorem dX4_showLessTriple_49 : decode cX4_showLessTriple 49 = .ok (.aload_n 3, 1) := by decide +kernel
theorem dX4_showLessTriple_50 : decode cX4_showLessTriple 50 = .ok (.iload 4, 2) := by decide +kernel
theorem dX4_showLessTriple_52 : decode cX4_showLessTriple 52 = .ok (.iload 5, 2) := by decide +kernel
theorem dX4_showLessTriple_54 : decode cX4_showLessTriple 54 = .ok (.iadd, 1) := by decide +kernel
theorem dX4_showLessTriple_55 : decode cX4_showLessTriple 55 = .ok (.invokestatic 114, 3) := by decide +kernel
theorem dX4_showLessTriple_58 : decode cX4_showLessTriple 58 = .ok (.iadd, 1) := by decide +kernel
theorem dX4_showLessTriple_59 : decode cX4_showLessTriple 59 = .ok (.aload_n 0, 1) := by decide +kernel
theorem dX4_showLessTriple_60 : decode cX4_showLessTriple 60 = .ok (.getfield 52, 3) := by decide +kernel
theorem dX4_showLessTriple_63 : decode cX4_showLessTriple 63 = .ok (.invokestatic 118, 3) := by decide +kernel
theorem dX4_showLessTriple_66 : decode cX4_showLessTriple 66 = .ok (.iastore, 1) := by decide +kernel
theorem dX4_showLessTriple_67 : decode cX4_showLessTriple 67 = .ok (.aload_n 0, 1) := by decide +kernel
theorem dX4_showLessTriple_68 : decode cX4_showLessTriple 68 = .ok (.getfield 18, 3) := by decide +kernel
theorem dX4_showLessTriple_71 : decode cX4_showLessTriple 71 = .ok (.iload 5, 2) := by decide +kernel
theorem dX4_showLessTriple_73 : decode cX4_showLessTriple 73 = .ok (.aload_n 0, 1) := by decide +kernel
theorem dX4_showLessTriple_74 : decode cX4_showLessTriple 74 = .ok (.getfield 9, 3) := by decide +kernel
theorem dX4_showLessTriple_77 : decode cX4_showLessTriple 77 = .ok (.iload_n 2, 1) := by decide +kernel
theorem dX4_showLessTriple_78 : decode cX4_showLessTriple 78 = .ok (.iload 5, 2) := by decide +kernel
theorem dX4_showLessTriple_80 : decode cX4_showLessTriple 80 = .ok (.iadd, 1) := by decide +kernel
theorem dX4_showLessTriple_81 : decode cX4_showLessTriple 81 = .ok (.iaload, 1) := by decide +kernel
theorem dX4_showLessTriple_82 : decode cX4_showLessTriple 82 = .ok (.aload_n 0, 1) := by decide +kernel
theorem dX4_showLessTriple_83 : decode cX4_showLessTriple 83 = .ok (.getfield 21, 3) := by decide +kernel
theorem dX4_showLessTriple_86 : decode cX4_showLessTriple 86 = .ok (.iconst 3, 1) := by decide +kernel
theorem dX4_showLessTriple_87 : decode cX4_showLessTriple 87 = .ok (.iload 5, 2) := by decide +kernel
theorem dX4_showLessTriple_89 : decode cX4_showLessTriple 89 = .ok (.iadd, 1) := by decide +kernel
theorem dX4_showLessTriple_90 : decode cX4_showLessTriple 90 = .ok (.iaload, 1) := by decide +kernel
theorem dX4_showLessTriple_91 : decode cX4_showLessTriple 91 = .ok (.isub, 1) := by decide +kernel
theorem dX4_showLessTriple_92 : decode cX4_showLessTriple 92 = .ok (.aload_n 0, 1) := by decide +kernel
theorem dX4_showLessTriple_93 : decode cX4_showLessTriple 93 = .ok (.getfield 52, 3) := by decide +kernel
theorem dX4_showLessTriple_96 : decode cX4_showLessTriple 96 = .ok (.invokestatic 118, 3) := by decide +kernel
theorem dX4_showLessTriple_99 : decode cX4_showLessTriple 99 = .ok (.iastore, 1) := by decide +kernel
theorem dX4_showLessTriple_100 : decode cX4_showLessTriple 100 = .ok (.iinc 5 1, 3) := by decide +kernel
theorem dX4_showLessTriple_103 : decode cX4_showLessTriple 103 = .ok (.goto (-83), 3) := by decide +kernel
theorem dX4_showLessTriple_106 : decode cX4_showLessTriple 106 = .ok (.aload_n 0, 1) := by decide +kernel
theorem dX4_showLessTriple_107 : decode cX4_showLessTriple 107 = .ok (.getfield 45, 3) := by decide +kernel
theorem dX4_showLessTriple_110 : decode cX4_showLessTriple 110 = .ok (.istore 5, 2) := by decide +kernel
theorem dX4_showLessTriple_112 : decode cX4_showLessTriple 112 = .ok (.iload 5, 2) := by decide +kernel
theorem dX4_showLessTriple_114 : decode cX4_showLessTriple 114 = .ok (.aload_n 0, 1) := by decide +kernel
theorem dX4_showLessTriple_115 : decode cX4_showLessTriple 115 = .ok (.getfield 21, 3) := by decide +kernel
theorem dX4_showLessTriple_118 : decode cX4_showLessTriple 118 = .ok (.arraylength, 1) := by decide +kernel
theorem dX4_showLessTriple_119 : decode cX4_showLessTriple 119 = .ok (.if_icmp .ge 22, 3) := by decide +kernel
theorem dX4_showLessTriple_122 : decode cX4_showLessTriple 122 = .ok (.aload_n 0, 1) := by decide +kernel
theorem dX4_showLessTriple_123 : decode cX4_showLessTriple 123 = .ok (.aload_n 0, 1) := by decide +kernel
theorem dX4_showLessTriple_124 : decode cX4_showLessTriple 124 = .ok (.getfield 21, 3) := by decide +kernel
theorem dX4_showLessTriple_127 : decode cX4_showLessTriple 127 = .ok (.iload 5, 2) := by decide +kernel
theorem dX4_showLessTriple_129 : decode cX4_showLessTriple 129 = .ok (.invokestatic 114, 3) := by decide +kernel
theorem dX4_showLessTriple_132 : decode cX4_showLessTriple 132 = .ok (.invokevirtual 133, 3) := by decide +kernel
theorem dX4_showLessTriple_135 : decode cX4_showLessTriple 135 = .ok (.iinc 5 3, 3) := by decide +kernel
theorem dX4_showLessTriple_138 : decode cX4_showLessTriple 138 = .ok (.goto (-26), 3) := by decide +kernel
theorem dX4_showLessTriple_141 : decode cX4_showLessTriple 141 = .ok (.iconst 0, 1) := by decide +kernel
theorem dX4_showLessTriple_142 : decode cX4_showLessTriple 142 = .ok (.istore 5, 2) := by decide +kernel
theorem dX4_showLessTriple_144 : decode cX4_showLessTriple 144 = .ok (.iload 5, 2) := by decide +kernel
theorem dX4_showLessTriple_146 : decode cX4_showLessTriple 146 = .ok (.iconst 3, 1) := by decide +kernel
theorem dX4_showLessTriple_147 : decode cX4_showLessTriple 147 = .ok (.if_icmp .ge 20, 3) := by decide +kernel
theorem dX4_showLessTriple_150 : decode cX4_showLessTriple 150 = .ok (.aload_n 0, 1) := by decide +kernel
theorem dX4_showLessTriple_151 : decode cX4_showLessTriple 151 = .ok (.aload_n 0, 1) := by decide +kernel
theorem dX4_showLessTriple_152 : decode cX4_showLessTriple 152 = .ok (.getfield 15, 3) := by decide +kernel
theorem dX4_showLessTriple_155 : decode cX4_showLessTriple 155 = .ok (.iload 5, 2) := by decide +kernel
theorem dX4_showLessTriple_157 : decode cX4_showLessTriple 157 = .ok (.iaload, 1) := by decide +kernel
theorem dX4_showLessTriple_158 : decode cX4_showLessTriple 158 = .ok (.invokevirtual 133, 3) := by decide +kernel
theorem dX4_showLessTriple_161 : decode cX4_showLessTriple 161 = .ok (.iinc 5 1, 3) := by decide +kernel
theorem dX4_showLessTriple_164 : decode cX4_showLessTriple 164 = .ok (.goto (-20), 3) := by decide +kernel
theorem dX4_showLessTriple_167 : decode cX4_showLessTriple 167 = .ok (.iconst 0, 1) := by decide +kernel
theorem dX4_showLessTriple_168 : decode cX4_showLessTriple 168 = .ok (.istore 5, 2) := by decide +kernel
theorem dX4_showLessTriple_170 : decode cX4_showLessTriple 170 = .ok (.iload 5, 2) := by decide +kernel
theorem dX4_showLessTriple_172 : decode cX4_showLessTriple 172 = .ok (.iconst 3, 1) := by decide +kernel
theorem dX4_showLessTriple_173 : decode cX4_showLessTriple 173 = .ok (.if_icmp .ge 20, 3) := by decide +kernel
theorem dX4_showLessTriple_176 : decode cX4_showLessTriple 176 = .ok (.aload_n 0, 1) := by decide +kernel
theorem dX4_showLessTriple_177 : decode cX4_showLessTriple 177 = .ok (.aload_n 0, 1) := by decide +kernel
theorem dX4_showLessTriple_178 : decode cX4_showLessTriple 178 = .ok (.getfield 18, 3) := by decide +kernel
theorem dX4_showLessTriple_181 : decode cX4_showLessTriple 181 = .ok (.iload 5, 2) := by decide +kernel
theorem dX4_showLessTriple_183 : decode cX4_showLessTriple 183 = .ok (.iaload, 1) := by decide +kernel
theorem dX4_showLessTriple_184 : decode cX4_showLessTriple 184 = .ok (.invokevirtual 133, 3) := by decide +kernel
theorem dX4_showLessTriple_187 : decode cX4_showLessTriple 187 = .ok (.iinc 5 1, 3) := by decide +kernel
theorem dX4_showLessTriple_190 : decode cX4_showLessTriple 190 = .ok (.goto (-20), 3) := by decide +kernel
theorem dX4_showLessTriple_193 : decode cX4_showLessTriple 193 = .ok (.return_, 1) := by decide +kernel
set_option maxRecDepth 20000 in
theorem ggX4_multiply_X4_isPlace : GoodIn wsX4_multiply wsX4_isPlace := goodIn_r _ [10, 4, 14, 15, 16, 17, 18, 19, 20, 21, 22, 23, 24, 25, 26] rfl (by decide +kernel)
set_option maxRecDepth 20000 in
theorem gX4_multiply_X4_isPlace : GoodIn wsX4_multiply (wsV RX4 129 RX4 yX4_isPlace wsX4_isPlace) := goodIn_app (goodIn_of _ (by decide +kernel)) ggX4_multiply_X4_isPlace
set_option maxRecDepth 20000 in
theorem ggX4_multiply_X9_mod : GoodIn wsX4_multiply wsX9_mod := goodIn_r _ [13] rfl (by decide +kernel)
set_option maxRecDepth 20000 in
theorem gX4_multiply_X9_mod_n118 : GoodIn wsX4_multiply (wsX9_mod) := ggX4_multiply_X9_mod
theorem dX4_multiply_0 : decode cX4_multiply 0 = .ok (.aload_n 0, 1) := by decide +kernel
theorem dX4_multiply_1 : decode cX4_multiply 1 = .ok (.iload_n 1, 1) := by decide +kernel
theorem dX4_multiply_2 : decode cX4_multiply 2 = .ok (.invokevirtual 129, 3) := by decide +kernel
theorem dX4_multiply_5 : decode cX4_multiply 5 = .ok (.ifCond .ne 4, 3) := by decide +kernel
theorem dX4_multiply_8 : decode cX4_multiply 8 = .ok (.return_, 1) := by decide +kernel
theorem dX4_multiply_9 : decode cX4_multiply 9 = .ok (.aload_n 0, 1) := by decide +kernel
theorem dX4_multiply_10 : decode cX4_multiply 10 = .ok (.getfield 15, 3) := by decide +kernel
theorem dX4_multiply_13 : decode cX4_multiply 13 = .ok (.iconst 0, 1) := by decide +kernel
theorem dX4_multiply_14 : decode cX4_multiply 14 = .ok (.iaload, 1) := by decide +kernel
theorem dX4_multiply_15 : decode cX4_multiply 15 = .ok (.aload_n 0, 1) := by decide +kernel
theorem dX4_multiply_16 : decode cX4_multiply 16 = .ok (.getfield 15, 3) := by decide +kernel
theorem dX4_multiply_19 : decode cX4_multiply 19 = .ok (.iconst 1, 1) := by decide +kernel
theorem dX4_multiply_20 : decode cX4_multiply 20 = .ok (.iaload, 1) := by decide +kernel
theorem dX4_multiply_21 : decode cX4_multiply 21 = .ok (.iadd, 1) := by decide +kernel
theorem dX4_multiply_22 : decode cX4_multiply 22 = .ok (.aload_n 0, 1) := by decide +kernel
theorem dX4_multiply_23 : decode cX4_multiply 23 = .ok (.getfield 15, 3) := by decide +kernel
theorem dX4_multiply_26 : decode cX4_multiply 26 = .ok (.iconst 2, 1) := by decide +kernel
theorem dX4_multiply_27 : decode cX4_multiply 27 = .ok (.iaload, 1) := by decide +kernel
theorem dX4_multiply_28 : decode cX4_multiply 28 = .ok (.iadd, 1) := by decide +kernel
theorem dX4_multiply_29 : decode cX4_multiply 29 = .ok (.istore_n 2, 1) := by decide +kernel
theorem dX4_multiply_30 : decode cX4_multiply 30 = .ok (.aload_n 0, 1) := by decide +kernel
theorem dX4_multiply_31 : decode cX4_multiply 31 = .ok (.getfield 18, 3) := by decide +kernel
theorem dX4_multiply_34 : decode cX4_multiply 34 = .ok (.iconst 0, 1) := by decide +kernel
theorem dX4_multiply_35 : decode cX4_multiply 35 = .ok (.iaload, 1) := by decide +kernel
theorem dX4_multiply_36 : decode cX4_multiply 36 = .ok (.aload_n 0, 1) := by decide +kernel
theorem dX4_multiply_37 : decode cX4_multiply 37 = .ok (.getfield 18, 3) := by decide +kernel
theorem dX4_multiply_40 : decode cX4_multiply 40 = .ok (.iconst 1, 1) := by decide +kernel
theorem dX4_multiply_41 : decode cX4_multiply 41 = .ok (.iaload, 1) := by decide +kernel
theorem dX4_multiply_42 : decode cX4_multiply 42 = .ok (.iadd, 1) := by decide +kernel
theorem dX4_multiply_43 : decode cX4_multiply 43 = .ok (.aload_n 0, 1) := by decide +kernel
theorem dX4_multiply_44 : decode cX4_multiply 44 = .ok (.getfield 18, 3) := by decide +kernel
theorem dX4_multiply_47 : decode cX4_multiply 47 = .ok (.iconst 2, 1) := by decide +kernel
theorem dX4_multiply_48 : decode cX4_multiply 48 = .ok (.iaload, 1) := by decide +kernel
theorem dX4_multiply_49 : decode cX4_multiply 49 = .ok (.iadd, 1) := by decide +kernel
theorem dX4_multiply_50 : decode cX4_multiply 50 = .ok (.istore_n 3, 1) := by decide +kernel
theorem dX4_multiply_51 : decode cX4_multiply 51 = .ok (.iload_n 2, 1) := by decide +kernel
theorem dX4_multiply_52 : decode cX4_multiply 52 = .ok (.iload_n 3, 1) := by decide +kernel
theorem dX4_multiply_53 : decode cX4_multiply 53 = .ok (.imul, 1) := by decide +kernel
theorem dX4_multiply_54 : decode cX4_multiply 54 = .ok (.istore 4, 2) := by decide +kernel
theorem dX4_multiply_56 : decode cX4_multiply 56 = .ok (.iconst 0, 1) := by decide +kernel
theorem dX4_multiply_57 : decode cX4_multiply 57 = .ok (.istore 5, 2) := by decide +kernel
theorem dX4_multiply_59 : decode cX4_multiply 59 = .ok (.iload 5, 2) := by decide +kernel
theorem dX4_multiply_61 : decode cX4_multiply 61 = .ok (.iconst 3, 1) := by decide +kernel
theorem dX4_multiply_62 : decode cX4_multiply 62 = .ok (.if_icmp .ge 67, 3) := by decide +kernel
theorem dX4_multiply_65 : decode cX4_multiply 65 = .ok (.aload_n 0, 1) := by decide +kernel
theorem dX4_multiply_66 : decode cX4_multiply 66 = .ok (.getfield 21, 3) := by decide +kernel
theorem dX4_multiply_69 : decode cX4_multiply 69 = .ok (.bipush 6, 2) := by decide +kernel
theorem dX4_multiply_71 : decode cX4_multiply 71 = .ok (.iload 5, 2) := by decide +kernel
theorem dX4_multiply_73 : decode cX4_multiply 73 = .ok (.iadd, 1) := by decide +kernel
theorem dX4_multiply_74 : decode cX4_multiply 74 = .ok (.iaload, 1) := by decide +kernel
theorem dX4_multiply_75 : decode cX4_multiply 75 = .ok (.iload_n 2, 1) := by decide +kernel
theorem dX4_multiply_76 : decode cX4_multiply 76 = .ok (.aload_n 0, 1) := by decide +kernel
theorem dX4_multiply_77 : decode cX4_multiply 77 = .ok (.getfield 21, 3) := by decide +kernel
theorem dX4_multiply_80 : decode cX4_multiply 80 = .ok (.iconst 3, 1) := by decide +kernel
theorem dX4_multiply_81 : decode cX4_multiply 81 = .ok (.iload 5, 2) := by decide +kernel
theorem dX4_multiply_83 : decode cX4_multiply 83 = .ok (.iadd, 1) := by decide +kernel
theorem dX4_multiply_84 : decode cX4_multiply 84 = .ok (.iaload, 1) := by decide +kernel
theorem dX4_multiply_85 : decode cX4_multiply 85 = .ok (.imul, 1) := by decide +kernel
theorem dX4_multiply_86 : decode cX4_multiply 86 = .ok (.iadd, 1) := by decide +kernel
theorem dX4_multiply_87 : decode cX4_multiply 87 = .ok (.iload_n 3, 1) := by decide +kernel
theorem dX4_multiply_88 : decode cX4_multiply 88 = .ok (.aload_n 0, 1) := by decide +kernel
theorem dX4_multiply_89 : decode cX4_multiply 89 = .ok (.getfield 21, 3) := by decide +kernel
theorem dX4_multiply_92 : decode cX4_multiply 92 = .ok (.iload 5, 2) := by decide +kernel
theorem dX4_multiply_94 : decode cX4_multiply 94 = .ok (.iaload, 1) := by decide +kernel
theorem dX4_multiply_95 : decode cX4_multiply 95 = .ok (.imul, 1) := by decide +kernel
theorem dX4_multiply_96 : decode cX4_multiply 96 = .ok (.iadd, 1) := by decide +kernel
theorem dX4_multiply_97 : decode cX4_multiply 97 = .ok (.istore 6, 2) := by decide +kernel
theorem dX4_multiply_99 : decode cX4_multiply 99 = .ok (.aload_n 0, 1) := by decide +kernel
theorem dX4_multiply_100 : decode cX4_multiply 100 = .ok (.getfield 9, 3) := by decide +kernel
theorem dX4_multiply_103 : decode cX4_multiply 103 = .ok (.iload_n 1, 1) := by decide +kernel
theorem dX4_multiply_104 : decode cX4_multiply 104 = .ok (.iload 5, 2) := by decide +kernel
theorem dX4_multiply_106 : decode cX4_multiply 106 = .ok (.iadd, 1) := by decide +kernel
theorem dX4_multiply_107 : decode cX4_multiply 107 = .ok (.iload 6, 2) := by decide +kernel
theorem dX4_multiply_109 : decode cX4_multiply 109 = .ok (.iload 4, 2) := by decide +kernel
theorem dX4_multiply_111 : decode cX4_multiply 111 = .ok (.iadd, 1) := by decide +kernel
theorem dX4_multiply_112 : decode cX4_multiply 112 = .ok (.aload_n 0, 1) := by decide +kernel
theorem dX4_multiply_113 : decode cX4_multiply 113 = .ok (.getfield 52, 3) := by decide +kernel
theorem dX4_multiply_116 : decode cX4_multiply 116 = .ok (.invokestatic 118, 3) := by decide +kernel
theorem dX4_multiply_119 : decode cX4_multiply 119 = .ok (.iastore, 1) := by decide +kernel
theorem dX4_multiply_120 : decode cX4_multiply 120 = .ok (.iconst 0, 1) := by decide +kernel
theorem dX4_multiply_121 : decode cX4_multiply 121 = .ok (.istore 4, 2) := by decide +kernel
theorem dX4_multiply_123 : decode cX4_multiply 123 = .ok (.iinc 5 1, 3) := by decide +kernel
theorem dX4_multiply_126 : decode cX4_multiply 126 = .ok (.goto (-67), 3) := by decide +kernel
theorem dX4_multiply_129 : decode cX4_multiply 129 = .ok (.return_, 1) := by decide +kernel
set_option maxRecDepth 20000 in
theorem ggX4_showAll_X4_isPlace : GoodIn wsX4_showAll wsX4_isPlace := goodIn_r _ [8, 2, 23, 24, 25, 26, 27, 28, 29, 30, 31, 32, 33, 34, 35] rfl (by decide +kernel)
set_option maxRecDepth 20000 in
theorem gX4_showAll_X4_isPlace : GoodIn wsX4_showAll (wsV RX4 129 RX4 yX4_isPlace wsX4_isPlace) := goodIn_app (goodIn_of _ (by decide +kernel)) ggX4_showAll_X4_isPlace
set_option maxRecDepth 20000 in
theorem ggX4_showAll_X9_at : GoodIn wsX4_showAll wsX9_at := goodIn_r _ [11] rfl (by decide +kernel)
set_option maxRecDepth 20000 in
theorem gX4_showAll_X9_at_n114 : GoodIn wsX4_showAll (wsX9_at) := ggX4_showAll_X9_at
set_option maxRecDepth 20000 in
theorem ggX4_showAll_X9_mod : GoodIn wsX4_showAll wsX9_mod := goodIn_r _ [13] rfl (by decide +kernel)
set_option maxRecDepth 20000 in
theorem gX4_showAll_X9_mod_n118 : GoodIn wsX4_showAll (wsX9_mod) := ggX4_showAll_X9_mod
set_option maxRecDepth 20000 in
theorem ggX4_showAll_X4_look : GoodIn wsX4_showAll wsX4_look := goodIn_r _ [17, 18, 3, 19, 20, 21, 10, 22, 23, 24, 25, 26, 27, 28, 29, 30, 31, 32, 33, 34, 35] rfl (by decide +kernel)
set_option maxRecDepth 20000 in
theorem gX4_showAll_X4_look : GoodIn wsX4_showAll (wsV RX4 133 RX4 yX4_look wsX4_look) := goodIn_app (goodIn_of _ (by decide +kernel)) ggX4_showAll_X4_look
theorem dX4_showAll_0 : decode cX4_showAll 0 = .ok (.aload_n 0, 1) := by decide +kernel
theorem dX4_showAll_1 : decode cX4_showAll 1 = .ok (.iload_n 1, 1) := by decide +kernel
theorem dX4_showAll_2 : decode cX4_showAll 2 = .ok (.invokevirtual 129, 3) := by decide +kernel
theorem dX4_showAll_5 : decode cX4_showAll 5 = .ok (.ifCond .ne 4, 3) := by decide +kernel
theorem dX4_showAll_8 : decode cX4_showAll 8 = .ok (.return_, 1) := by decide +kernel
theorem dX4_showAll_9 : decode cX4_showAll 9 = .ok (.iconst 0, 1) := by decide +kernel
theorem dX4_showAll_10 : decode cX4_showAll 10 = .ok (.istore 4, 2) := by decide +kernel
theorem dX4_showAll_12 : decode cX4_showAll 12 = .ok (.iload 4, 2) := by decide +kernel
theorem dX4_showAll_14 : decode cX4_showAll 14 = .ok (.iconst 3, 1) := by decide +kernel
theorem dX4_showAll_15 : decode cX4_showAll 15 = .ok (.if_icmp .ge 52, 3) := by decide +kernel
theorem dX4_showAll_18 : decode cX4_showAll 18 = .ok (.aload_n 0, 1) := by decide +kernel
theorem dX4_showAll_19 : decode cX4_showAll 19 = .ok (.getfield 15, 3) := by decide +kernel
theorem dX4_showAll_22 : decode cX4_showAll 22 = .ok (.iload 4, 2) := by decide +kernel
theorem dX4_showAll_24 : decode cX4_showAll 24 = .ok (.aload_n 0, 1) := by decide +kernel
theorem dX4_showAll_25 : decode cX4_showAll 25 = .ok (.getfield 9, 3) := by decide +kernel
theorem dX4_showAll_28 : decode cX4_showAll 28 = .ok (.iload_n 1, 1) := by decide +kernel
theorem dX4_showAll_29 : decode cX4_showAll 29 = .ok (.iload 4, 2) := by decide +kernel
theorem dX4_showAll_31 : decode cX4_showAll 31 = .ok (.iadd, 1) := by decide +kernel
theorem dX4_showAll_32 : decode cX4_showAll 32 = .ok (.iaload, 1) := by decide +kernel
theorem dX4_showAll_33 : decode cX4_showAll 33 = .ok (.aload_n 2, 1) := by decide +kernel
theorem dX4_showAll_34 : decode cX4_showAll 34 = .ok (.iload_n 3, 1) := by decide +kernel
theorem dX4_showAll_35 : decode cX4_showAll 35 = .ok (.iload 4, 2) := by decide +kernel
theorem dX4_showAll_37 : decode cX4_showAll 37 = .ok (.iadd, 1) := by decide +kernel
theorem dX4_showAll_38 : decode cX4_showAll 38 = .ok (.invokestatic 114, 3) := by decide +kernel
theorem dX4_showAll_41 : decode cX4_showAll 41 = .ok (.iadd, 1) := by decide +kernel
theorem dX4_showAll_42 : decode cX4_showAll 42 = .ok (.aload_n 0, 1) := by decide +kernel
theorem dX4_showAll_43 : decode cX4_showAll 43 = .ok (.getfield 52, 3) := by decide +kernel
theorem dX4_showAll_46 : decode cX4_showAll 46 = .ok (.invokestatic 118, 3) := by decide +kernel
theorem dX4_showAll_49 : decode cX4_showAll 49 = .ok (.iastore, 1) := by decide +kernel
theorem dX4_showAll_50 : decode cX4_showAll 50 = .ok (.aload_n 0, 1) := by decide +kernel
theorem dX4_showAll_51 : decode cX4_showAll 51 = .ok (.aload_n 0, 1) := by decide +kernel
theorem dX4_showAll_52 : decode cX4_showAll 52 = .ok (.getfield 15, 3) := by decide +kernel
theorem dX4_showAll_55 : decode cX4_showAll 55 = .ok (.iload 4, 2) := by decide +kernel
theorem dX4_showAll_57 : decode cX4_showAll 57 = .ok (.iaload, 1) := by decide +kernel
theorem dX4_showAll_58 : decode cX4_showAll 58 = .ok (.invokevirtual 133, 3) := by decide +kernel
theorem dX4_showAll_61 : decode cX4_showAll 61 = .ok (.iinc 4 1, 3) := by decide +kernel
theorem dX4_showAll_64 : decode cX4_showAll 64 = .ok (.goto (-52), 3) := by decide +kernel
theorem dX4_showAll_67 : decode cX4_showAll 67 = .ok (.return_, 1) := by decide +kernel
set_option maxRecDepth 20000 in
theorem ggX4_sameEnds_X6_inputIn : GoodIn wsX4_sameEnds wsX6_inputIn := goodIn_r _ [7, 8, 9, 10, 11, 12, 13, 14, 37, 38, 39, 40, 41, 42] rfl (by decide +kernel)
set_option maxRecDepth 20000 in
theorem gX4_sameEnds_X6_inputIn : GoodIn wsX4_sameEnds (wsV RX4 83 RX6 yX6_inputIn wsX6_inputIn) := goodIn_app (goodIn_of _ (by decide +kernel)) ggX4_sameEnds_X6_inputIn
set_option maxRecDepth 20000 in
theorem ggX4_sameEnds_X9_put : GoodIn wsX4_sameEnds wsX9_put := goodIn_r _ [16] rfl (by decide +kernel)
set_option maxRecDepth 20000 in
theorem gX4_sameEnds_X9_put_n121 : GoodIn wsX4_sameEnds (wsX9_put) := ggX4_sameEnds_X9_put
set_option maxRecDepth 20000 in
theorem ggX4_sameEnds_X4_plainEnd : GoodIn wsX4_sameEnds wsX4_plainEnd := goodIn_r _ [21, 22, 2, 1, 23, 24, 25, 26, 27, 28, 10, 11, 12, 13, 14, 15, 16, 56, 57, 58, 59, 60, 61, 43, 44, 45, 46, 47, 48, 49, 50, 51, 52, 53, 54, 55] rfl (by decide +kernel)
set_option maxRecDepth 20000 in
theorem gX4_sameEnds_X4_plainEnd : GoodIn wsX4_sameEnds (wsV RX4 136 RX4 yX4_plainEnd wsX4_plainEnd) := goodIn_app (goodIn_of _ (by decide +kernel)) ggX4_sameEnds_X4_plainEnd
set_option maxRecDepth 20000 in
theorem ggX4_sameEnds_X4_clearOthers : GoodIn wsX4_sameEnds wsX4_clearOthers := goodIn_r _ [32, 2, 23, 24, 25, 26, 27, 28, 10, 11, 12, 15, 16, 56, 57, 58, 59, 60, 61, 43, 44, 45, 46, 47, 48, 49, 50, 51, 52, 53, 54, 55] rfl (by decide +kernel)
set_option maxRecDepth 20000 in
theorem gX4_sameEnds_X4_clearOthers : GoodIn wsX4_sameEnds (wsV RX4 140 RX4 yX4_clearOthers wsX4_clearOthers) := goodIn_app (goodIn_of _ (by decide +kernel)) ggX4_sameEnds_X4_clearOthers
set_option maxRecDepth 20000 in
theorem ggX4_sameEnds_X4_turnOthers : GoodIn wsX4_sameEnds wsX4_turnOthers := goodIn_r _ [36, 2, 1, 23, 24, 25, 26, 27, 28, 10, 11, 12, 13, 14, 15, 16, 56, 57, 58, 59, 60, 61, 43, 44, 45, 46, 47, 48, 49, 50, 51, 52, 53, 54, 55] rfl (by decide +kernel)
set_option maxRecDepth 20000 in
theorem gX4_sameEnds_X4_turnOthers : GoodIn wsX4_sameEnds (wsV RX4 144 RX4 yX4_turnOthers wsX4_turnOthers) := goodIn_app (goodIn_of _ (by decide +kernel)) ggX4_sameEnds_X4_turnOthers
theorem dX4_sameEnds_0 : decode cX4_sameEnds 0 = .ok (.aload_n 0, 1) := by decide +kernel
theorem dX4_sameEnds_1 : decode cX4_sameEnds 1 = .ok (.aload_n 1, 1) := by decide +kernel
theorem dX4_sameEnds_2 : decode cX4_sameEnds 2 = .ok (.getfield 49, 3) := by decide +kernel
theorem dX4_sameEnds_5 : decode cX4_sameEnds 5 = .ok (.putfield 52, 3) := by decide +kernel
theorem dX4_sameEnds_8 : decode cX4_sameEnds 8 = .ok (.iconst 0, 1) := by decide +kernel

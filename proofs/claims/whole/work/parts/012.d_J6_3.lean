theorem dX0_takePoints_4 : decode cX0_takePoints 4 = .ok (.getfield 25, 3) := by decide +kernel
theorem dX0_takePoints_7 : decode cX0_takePoints 7 = .ok (.if_icmp .ge 22, 3) := by decide +kernel
theorem dX0_takePoints_10 : decode cX0_takePoints 10 = .ok (.aload_n 0, 1) := by decide +kernel
theorem dX0_takePoints_11 : decode cX0_takePoints 11 = .ok (.getfield 15, 3) := by decide +kernel
theorem dX0_takePoints_14 : decode cX0_takePoints 14 = .ok (.iload_n 1, 1) := by decide +kernel
theorem dX0_takePoints_15 : decode cX0_takePoints 15 = .ok (.aload_n 0, 1) := by decide +kernel
theorem dX0_takePoints_16 : decode cX0_takePoints 16 = .ok (.iload_n 1, 1) := by decide +kernel
theorem dX0_takePoints_17 : decode cX0_takePoints 17 = .ok (.invokevirtual 57, 3) := by decide +kernel
theorem dX0_takePoints_20 : decode cX0_takePoints 20 = .ok (.invokestatic 61, 3) := by decide +kernel
theorem dX0_takePoints_23 : decode cX0_takePoints 23 = .ok (.iinc 1 1, 3) := by decide +kernel
theorem dX0_takePoints_26 : decode cX0_takePoints 26 = .ok (.goto (-24), 3) := by decide +kernel
theorem dX0_takePoints_29 : decode cX0_takePoints 29 = .ok (.return_, 1) := by decide +kernel
set_option maxRecDepth 20000 in
theorem ggX0_takeSquares_X0_bentPoint : GoodIn wsX0_takeSquares wsX0_bentPoint := goodIn_r _ [8, 9, 10, 11, 12, 3, 13, 14, 15, 16, 17, 20, 21, 22, 23, 24, 25, 26, 27] rfl (by decide +kernel)
set_option maxRecDepth 20000 in
theorem gX0_takeSquares_X0_bentPoint : GoodIn wsX0_takeSquares (wsV RX0 57 RX0 yX0_bentPoint wsX0_bentPoint) := goodIn_app (goodIn_of _ (by decide +kernel)) ggX0_takeSquares_X0_bentPoint
set_option maxRecDepth 20000 in
theorem ggX0_takeSquares_X9_mod : GoodIn wsX0_takeSquares wsX9_mod := goodIn_r _ [17] rfl (by decide +kernel)
set_option maxRecDepth 20000 in
theorem gX0_takeSquares_X9_mod_n53 : GoodIn wsX0_takeSquares (wsX9_mod) := ggX0_takeSquares_X9_mod
set_option maxRecDepth 20000 in
theorem ggX0_takeSquares_X9_put : GoodIn wsX0_takeSquares wsX9_put := goodIn_r _ [19] rfl (by decide +kernel)
set_option maxRecDepth 20000 in
theorem gX0_takeSquares_X9_put_n61 : GoodIn wsX0_takeSquares (wsX9_put) := ggX0_takeSquares_X9_put
theorem dX0_takeSquares_0 : decode cX0_takeSquares 0 = .ok (.iconst 0, 1) := by decide +kernel
theorem dX0_takeSquares_1 : decode cX0_takeSquares 1 = .ok (.istore_n 1, 1) := by decide +kernel
theorem dX0_takeSquares_2 : decode cX0_takeSquares 2 = .ok (.iload_n 1, 1) := by decide +kernel
theorem dX0_takeSquares_3 : decode cX0_takeSquares 3 = .ok (.aload_n 0, 1) := by decide +kernel
theorem dX0_takeSquares_4 : decode cX0_takeSquares 4 = .ok (.getfield 25, 3) := by decide +kernel
theorem dX0_takeSquares_7 : decode cX0_takeSquares 7 = .ok (.if_icmp .ge 35, 3) := by decide +kernel
theorem dX0_takeSquares_10 : decode cX0_takeSquares 10 = .ok (.aload_n 0, 1) := by decide +kernel
theorem dX0_takeSquares_11 : decode cX0_takeSquares 11 = .ok (.getfield 15, 3) := by decide +kernel
theorem dX0_takeSquares_14 : decode cX0_takeSquares 14 = .ok (.iload_n 1, 1) := by decide +kernel
theorem dX0_takeSquares_15 : decode cX0_takeSquares 15 = .ok (.aload_n 0, 1) := by decide +kernel
theorem dX0_takeSquares_16 : decode cX0_takeSquares 16 = .ok (.iload_n 1, 1) := by decide +kernel
theorem dX0_takeSquares_17 : decode cX0_takeSquares 17 = .ok (.invokevirtual 57, 3) := by decide +kernel
theorem dX0_takeSquares_20 : decode cX0_takeSquares 20 = .ok (.aload_n 0, 1) := by decide +kernel
theorem dX0_takeSquares_21 : decode cX0_takeSquares 21 = .ok (.iload_n 1, 1) := by decide +kernel
theorem dX0_takeSquares_22 : decode cX0_takeSquares 22 = .ok (.invokevirtual 57, 3) := by decide +kernel
theorem dX0_takeSquares_25 : decode cX0_takeSquares 25 = .ok (.imul, 1) := by decide +kernel
theorem dX0_takeSquares_26 : decode cX0_takeSquares 26 = .ok (.aload_n 0, 1) := by decide +kernel
theorem dX0_takeSquares_27 : decode cX0_takeSquares 27 = .ok (.getfield 18, 3) := by decide +kernel
theorem dX0_takeSquares_30 : decode cX0_takeSquares 30 = .ok (.invokestatic 53, 3) := by decide +kernel
theorem dX0_takeSquares_33 : decode cX0_takeSquares 33 = .ok (.invokestatic 61, 3) := by decide +kernel
theorem dX0_takeSquares_36 : decode cX0_takeSquares 36 = .ok (.iinc 1 1, 3) := by decide +kernel
theorem dX0_takeSquares_39 : decode cX0_takeSquares 39 = .ok (.goto (-37), 3) := by decide +kernel
theorem dX0_takeSquares_42 : decode cX0_takeSquares 42 = .ok (.return_, 1) := by decide +kernel
set_option maxRecDepth 20000 in
theorem ggX0_opened_J6_bitCount_0f7a4 : GoodIn wsX0_opened wsJ6_bitCount_0f7a4 := goodIn_r _ [4, 5, 6, 7] rfl (by decide +kernel)
set_option maxRecDepth 20000 in
theorem gX0_opened_J6_bitCount_0f7a4 : GoodIn wsX0_opened (va_wsS RX0 65 yJ6_bitCount_0f7a4 wsJ6_bitCount_0f7a4) := goodIn_app (goodIn_of _ (by decide +kernel)) ggX0_opened_J6_bitCount_0f7a4
set_option maxRecDepth 20000 in
theorem ggX0_opened_X0_agreeing : GoodIn wsX0_opened wsX0_agreeing := goodIn_r _ [12, 13, 14, 15, 16, 17, 11, 18, 19, 20, 21, 22, 23, 24, 25, 26, 27, 28, 29, 30, 31, 32, 33, 34, 35, 36] rfl (by decide +kernel)
set_option maxRecDepth 20000 in
theorem gX0_opened_X0_agreeing : GoodIn wsX0_opened (wsV RX0 70 RX0 yX0_agreeing wsX0_agreeing) := goodIn_app (goodIn_of _ (by decide +kernel)) ggX0_opened_X0_agreeing
set_option maxRecDepth 20000 in
theorem ggX0_opened_X0_heightAt : GoodIn wsX0_opened wsX0_heightAt := goodIn_r _ [18, 13, 14, 19, 20, 21, 22, 23, 24, 25, 26, 27, 11, 28, 29, 30, 31, 32, 33, 34, 35, 36] rfl (by decide +kernel)
set_option maxRecDepth 20000 in
theorem gX0_opened_X0_heightAt : GoodIn wsX0_opened (wsV RX0 73 RX0 yX0_heightAt wsX0_heightAt) := goodIn_app (goodIn_of _ (by decide +kernel)) ggX0_opened_X0_heightAt
theorem dX0_opened_0 : decode cX0_opened 0 = .ok (.iconst 0, 1) := by decide +kernel
theorem dX0_opened_1 : decode cX0_opened 1 = .ok (.istore 4, 2) := by decide +kernel
theorem dX0_opened_3 : decode cX0_opened 3 = .ok (.iconst 0, 1) := by decide +kernel
theorem dX0_opened_4 : decode cX0_opened 4 = .ok (.istore 5, 2) := by decide +kernel
theorem dX0_opened_6 : decode cX0_opened 6 = .ok (.iconst 1, 1) := by decide +kernel
theorem dX0_opened_7 : decode cX0_opened 7 = .ok (.istore 6, 2) := by decide +kernel
theorem dX0_opened_9 : decode cX0_opened 9 = .ok (.iload 6, 2) := by decide +kernel
theorem dX0_opened_11 : decode cX0_opened 11 = .ok (.iload_n 1, 1) := by decide +kernel
theorem dX0_opened_12 : decode cX0_opened 12 = .ok (.if_icmp .gt 62, 3) := by decide +kernel
theorem dX0_opened_15 : decode cX0_opened 15 = .ok (.iload 6, 2) := by decide +kernel
theorem dX0_opened_17 : decode cX0_opened 17 = .ok (.iload_n 1, 1) := by decide +kernel
theorem dX0_opened_18 : decode cX0_opened 18 = .ok (.iconst (-1), 1) := by decide +kernel
theorem dX0_opened_19 : decode cX0_opened 19 = .ok (.ixor, 1) := by decide +kernel
theorem dX0_opened_20 : decode cX0_opened 20 = .ok (.iand, 1) := by decide +kernel
theorem dX0_opened_21 : decode cX0_opened 21 = .ok (.ifCond .ne 47, 3) := by decide +kernel
theorem dX0_opened_24 : decode cX0_opened 24 = .ok (.iload 6, 2) := by decide +kernel
theorem dX0_opened_26 : decode cX0_opened 26 = .ok (.invokestatic 65, 3) := by decide +kernel
theorem dX0_opened_29 : decode cX0_opened 29 = .ok (.iload_n 2, 1) := by decide +kernel
theorem dX0_opened_30 : decode cX0_opened 30 = .ok (.iconst 1, 1) := by decide +kernel
theorem dX0_opened_31 : decode cX0_opened 31 = .ok (.iadd, 1) := by decide +kernel
theorem dX0_opened_32 : decode cX0_opened 32 = .ok (.if_icmp .eq 6, 3) := by decide +kernel
theorem dX0_opened_35 : decode cX0_opened 35 = .ok (.goto 33, 3) := by decide +kernel
theorem dX0_opened_38 : decode cX0_opened 38 = .ok (.aload_n 0, 1) := by decide +kernel
theorem dX0_opened_39 : decode cX0_opened 39 = .ok (.iload_n 1, 1) := by decide +kernel
theorem dX0_opened_40 : decode cX0_opened 40 = .ok (.iload 6, 2) := by decide +kernel
theorem dX0_opened_42 : decode cX0_opened 42 = .ok (.invokevirtual 70, 3) := by decide +kernel
theorem dX0_opened_45 : decode cX0_opened 45 = .ok (.istore 7, 2) := by decide +kernel
theorem dX0_opened_47 : decode cX0_opened 47 = .ok (.iload 7, 2) := by decide +kernel
theorem dX0_opened_49 : decode cX0_opened 49 = .ok (.invokestatic 65, 3) := by decide +kernel
theorem dX0_opened_52 : decode cX0_opened 52 = .ok (.iload 4, 2) := by decide +kernel
theorem dX0_opened_54 : decode cX0_opened 54 = .ok (.invokestatic 65, 3) := by decide +kernel
theorem dX0_opened_57 : decode cX0_opened 57 = .ok (.if_icmp .le 11, 3) := by decide +kernel
theorem dX0_opened_60 : decode cX0_opened 60 = .ok (.iload 7, 2) := by decide +kernel
theorem dX0_opened_62 : decode cX0_opened 62 = .ok (.istore 4, 2) := by decide +kernel
theorem dX0_opened_64 : decode cX0_opened 64 = .ok (.iload 6, 2) := by decide +kernel
theorem dX0_opened_66 : decode cX0_opened 66 = .ok (.istore 5, 2) := by decide +kernel
theorem dX0_opened_68 : decode cX0_opened 68 = .ok (.iinc 6 1, 3) := by decide +kernel
theorem dX0_opened_71 : decode cX0_opened 71 = .ok (.goto (-62), 3) := by decide +kernel
theorem dX0_opened_74 : decode cX0_opened 74 = .ok (.iload 4, 2) := by decide +kernel
theorem dX0_opened_76 : decode cX0_opened 76 = .ok (.invokestatic 65, 3) := by decide +kernel
theorem dX0_opened_79 : decode cX0_opened 79 = .ok (.istore 6, 2) := by decide +kernel
theorem dX0_opened_81 : decode cX0_opened 81 = .ok (.iload_n 1, 1) := by decide +kernel
theorem dX0_opened_82 : decode cX0_opened 82 = .ok (.invokestatic 65, 3) := by decide +kernel
theorem dX0_opened_85 : decode cX0_opened 85 = .ok (.istore 7, 2) := by decide +kernel
theorem dX0_opened_87 : decode cX0_opened 87 = .ok (.iconst 2, 1) := by decide +kernel
theorem dX0_opened_88 : decode cX0_opened 88 = .ok (.iload 6, 2) := by decide +kernel
theorem dX0_opened_90 : decode cX0_opened 90 = .ok (.iload_n 2, 1) := by decide +kernel
theorem dX0_opened_91 : decode cX0_opened 91 = .ok (.isub, 1) := by decide +kernel
theorem dX0_opened_92 : decode cX0_opened 92 = .ok (.imul, 1) := by decide +kernel
theorem dX0_opened_93 : decode cX0_opened 93 = .ok (.iload 7, 2) := by decide +kernel
theorem dX0_opened_95 : decode cX0_opened 95 = .ok (.iload_n 2, 1) := by decide +kernel
theorem dX0_opened_96 : decode cX0_opened 96 = .ok (.isub, 1) := by decide +kernel
theorem dX0_opened_97 : decode cX0_opened 97 = .ok (.if_icmp .gt 6, 3) := by decide +kernel
theorem dX0_opened_100 : decode cX0_opened 100 = .ok (.bipush (-9), 2) := by decide +kernel
theorem dX0_opened_102 : decode cX0_opened 102 = .ok (.ireturn, 1) := by decide +kernel
theorem dX0_opened_103 : decode cX0_opened 103 = .ok (.iload_n 3, 1) := by decide +kernel
theorem dX0_opened_104 : decode cX0_opened 104 = .ok (.ifCond .ne 13, 3) := by decide +kernel
theorem dX0_opened_107 : decode cX0_opened 107 = .ok (.aload_n 0, 1) := by decide +kernel
theorem dX0_opened_108 : decode cX0_opened 108 = .ok (.iconst 0, 1) := by decide +kernel
theorem dX0_opened_109 : decode cX0_opened 109 = .ok (.iload 5, 2) := by decide +kernel
theorem dX0_opened_111 : decode cX0_opened 111 = .ok (.invokevirtual 73, 3) := by decide +kernel
theorem dX0_opened_114 : decode cX0_opened 114 = .ok (.goto 9, 3) := by decide +kernel
theorem dX0_opened_117 : decode cX0_opened 117 = .ok (.iload_n 1, 1) := by decide +kernel
theorem dX0_opened_118 : decode cX0_opened 118 = .ok (.iload 4, 2) := by decide +kernel
theorem dX0_opened_120 : decode cX0_opened 120 = .ok (.iconst (-1), 1) := by decide +kernel
theorem dX0_opened_121 : decode cX0_opened 121 = .ok (.ixor, 1) := by decide +kernel
theorem dX0_opened_122 : decode cX0_opened 122 = .ok (.iand, 1) := by decide +kernel
theorem dX0_opened_123 : decode cX0_opened 123 = .ok (.ireturn, 1) := by decide +kernel
set_option maxRecDepth 20000 in
theorem ggX0_agreeing_X0_heightAt : GoodIn wsX0_agreeing wsX0_heightAt := goodIn_r _ [7, 1, 2, 8, 9, 10, 11, 12, 13, 14, 15, 16, 6, 17, 18, 19, 20, 21, 22, 23, 24, 25] rfl (by decide +kernel)
set_option maxRecDepth 20000 in
theorem gX0_agreeing_X0_heightAt : GoodIn wsX0_agreeing (wsV RX0 73 RX0 yX0_heightAt wsX0_heightAt) := goodIn_app (goodIn_of _ (by decide +kernel)) ggX0_agreeing_X0_heightAt
set_option maxRecDepth 20000 in
theorem ggX0_agreeing_X9_at : GoodIn wsX0_agreeing wsX9_at := goodIn_r _ [11] rfl (by decide +kernel)
set_option maxRecDepth 20000 in
theorem gX0_agreeing_X9_at_n49 : GoodIn wsX0_agreeing (wsX9_at) := ggX0_agreeing_X9_at
theorem dX0_agreeing_0 : decode cX0_agreeing 0 = .ok (.iconst 0, 1) := by decide +kernel
theorem dX0_agreeing_1 : decode cX0_agreeing 1 = .ok (.istore_n 3, 1) := by decide +kernel
theorem dX0_agreeing_2 : decode cX0_agreeing 2 = .ok (.iconst 0, 1) := by decide +kernel
theorem dX0_agreeing_3 : decode cX0_agreeing 3 = .ok (.istore 4, 2) := by decide +kernel
theorem dX0_agreeing_5 : decode cX0_agreeing 5 = .ok (.iload 4, 2) := by decide +kernel
theorem dX0_agreeing_7 : decode cX0_agreeing 7 = .ok (.aload_n 0, 1) := by decide +kernel
theorem dX0_agreeing_8 : decode cX0_agreeing 8 = .ok (.getfield 25, 3) := by decide +kernel
theorem dX0_agreeing_11 : decode cX0_agreeing 11 = .ok (.if_icmp .ge 47, 3) := by decide +kernel
theorem dX0_agreeing_14 : decode cX0_agreeing 14 = .ok (.iload_n 1, 1) := by decide +kernel
theorem dX0_agreeing_15 : decode cX0_agreeing 15 = .ok (.iload 4, 2) := by decide +kernel
theorem dX0_agreeing_17 : decode cX0_agreeing 17 = .ok (.ishr, 1) := by decide +kernel
theorem dX0_agreeing_18 : decode cX0_agreeing 18 = .ok (.iconst 1, 1) := by decide +kernel
theorem dX0_agreeing_19 : decode cX0_agreeing 19 = .ok (.iand, 1) := by decide +kernel
theorem dX0_agreeing_20 : decode cX0_agreeing 20 = .ok (.iconst 1, 1) := by decide +kernel
theorem dX0_agreeing_21 : decode cX0_agreeing 21 = .ok (.if_icmp .ne 31, 3) := by decide +kernel
theorem dX0_agreeing_24 : decode cX0_agreeing 24 = .ok (.aload_n 0, 1) := by decide +kernel
theorem dX0_agreeing_25 : decode cX0_agreeing 25 = .ok (.iload 4, 2) := by decide +kernel
theorem dX0_agreeing_27 : decode cX0_agreeing 27 = .ok (.iconst 1, 1) := by decide +kernel
theorem dX0_agreeing_28 : decode cX0_agreeing 28 = .ok (.iadd, 1) := by decide +kernel
theorem dX0_agreeing_29 : decode cX0_agreeing 29 = .ok (.iload_n 2, 1) := by decide +kernel
theorem dX0_agreeing_30 : decode cX0_agreeing 30 = .ok (.invokevirtual 73, 3) := by decide +kernel
theorem dX0_agreeing_33 : decode cX0_agreeing 33 = .ok (.aload_n 0, 1) := by decide +kernel
theorem dX0_agreeing_34 : decode cX0_agreeing 34 = .ok (.getfield 15, 3) := by decide +kernel
theorem dX0_agreeing_37 : decode cX0_agreeing 37 = .ok (.iload 4, 2) := by decide +kernel
theorem dX0_agreeing_39 : decode cX0_agreeing 39 = .ok (.invokestatic 49, 3) := by decide +kernel
theorem dX0_agreeing_42 : decode cX0_agreeing 42 = .ok (.if_icmp .ne 10, 3) := by decide +kernel
theorem dX0_agreeing_45 : decode cX0_agreeing 45 = .ok (.iload_n 3, 1) := by decide +kernel
theorem dX0_agreeing_46 : decode cX0_agreeing 46 = .ok (.iconst 1, 1) := by decide +kernel
theorem dX0_agreeing_47 : decode cX0_agreeing 47 = .ok (.iload 4, 2) := by decide +kernel
theorem dX0_agreeing_49 : decode cX0_agreeing 49 = .ok (.ishl, 1) := by decide +kernel
theorem dX0_agreeing_50 : decode cX0_agreeing 50 = .ok (.ior, 1) := by decide +kernel
theorem dX0_agreeing_51 : decode cX0_agreeing 51 = .ok (.istore_n 3, 1) := by decide +kernel
theorem dX0_agreeing_52 : decode cX0_agreeing 52 = .ok (.iinc 4 1, 3) := by decide +kernel
theorem dX0_agreeing_55 : decode cX0_agreeing 55 = .ok (.goto (-50), 3) := by decide +kernel
theorem dX0_agreeing_58 : decode cX0_agreeing 58 = .ok (.iload_n 3, 1) := by decide +kernel
theorem dX0_agreeing_59 : decode cX0_agreeing 59 = .ok (.ireturn, 1) := by decide +kernel
set_option maxRecDepth 20000 in
theorem ggX0_heightAt_X9_at : GoodIn wsX0_heightAt wsX9_at := goodIn_r _ [6] rfl (by decide +kernel)
set_option maxRecDepth 20000 in
theorem gX0_heightAt_X9_at_n49 : GoodIn wsX0_heightAt (wsX9_at) := ggX0_heightAt_X9_at
set_option maxRecDepth 20000 in
theorem ggX0_heightAt_X9_mod : GoodIn wsX0_heightAt wsX9_mod := goodIn_r _ [8] rfl (by decide +kernel)
set_option maxRecDepth 20000 in
theorem gX0_heightAt_X9_mod_n53 : GoodIn wsX0_heightAt (wsX9_mod) := ggX0_heightAt_X9_mod
set_option maxRecDepth 20000 in
theorem ggX0_heightAt_X0_inverse : GoodIn wsX0_heightAt wsX0_inverse := goodIn_r _ [13, 3, 7, 5, 8, 14, 15, 16, 17, 18, 19, 20, 21] rfl (by decide +kernel)
set_option maxRecDepth 20000 in
theorem gX0_heightAt_X0_inverse : GoodIn wsX0_heightAt (wsV RX0 76 RX0 yX0_inverse wsX0_inverse) := goodIn_app (goodIn_of _ (by decide +kernel)) ggX0_heightAt_X0_inverse
theorem dX0_heightAt_0 : decode cX0_heightAt 0 = .ok (.iconst 0, 1) := by decide +kernel
theorem dX0_heightAt_1 : decode cX0_heightAt 1 = .ok (.istore_n 3, 1) := by decide +kernel
theorem dX0_heightAt_2 : decode cX0_heightAt 2 = .ok (.iconst 0, 1) := by decide +kernel
theorem dX0_heightAt_3 : decode cX0_heightAt 3 = .ok (.istore 4, 2) := by decide +kernel
theorem dX0_heightAt_5 : decode cX0_heightAt 5 = .ok (.iload 4, 2) := by decide +kernel
theorem dX0_heightAt_7 : decode cX0_heightAt 7 = .ok (.aload_n 0, 1) := by decide +kernel
theorem dX0_heightAt_8 : decode cX0_heightAt 8 = .ok (.getfield 25, 3) := by decide +kernel
theorem dX0_heightAt_11 : decode cX0_heightAt 11 = .ok (.if_icmp .ge 119, 3) := by decide +kernel
theorem dX0_heightAt_14 : decode cX0_heightAt 14 = .ok (.iload_n 2, 1) := by decide +kernel
theorem dX0_heightAt_15 : decode cX0_heightAt 15 = .ok (.iload 4, 2) := by decide +kernel
theorem dX0_heightAt_17 : decode cX0_heightAt 17 = .ok (.ishr, 1) := by decide +kernel
theorem dX0_heightAt_18 : decode cX0_heightAt 18 = .ok (.iconst 1, 1) := by decide +kernel
theorem dX0_heightAt_19 : decode cX0_heightAt 19 = .ok (.iand, 1) := by decide +kernel
theorem dX0_heightAt_20 : decode cX0_heightAt 20 = .ok (.ifCond .ne 6, 3) := by decide +kernel
theorem dX0_heightAt_23 : decode cX0_heightAt 23 = .ok (.goto 101, 3) := by decide +kernel
theorem dX0_heightAt_26 : decode cX0_heightAt 26 = .ok (.aload_n 0, 1) := by decide +kernel
theorem dX0_heightAt_27 : decode cX0_heightAt 27 = .ok (.getfield 15, 3) := by decide +kernel
theorem dX0_heightAt_30 : decode cX0_heightAt 30 = .ok (.iload 4, 2) := by decide +kernel
theorem dX0_heightAt_32 : decode cX0_heightAt 32 = .ok (.invokestatic 49, 3) := by decide +kernel
theorem dX0_heightAt_35 : decode cX0_heightAt 35 = .ok (.istore 5, 2) := by decide +kernel
theorem dX0_heightAt_37 : decode cX0_heightAt 37 = .ok (.iconst 1, 1) := by decide +kernel
theorem dX0_heightAt_38 : decode cX0_heightAt 38 = .ok (.istore 6, 2) := by decide +kernel
theorem dX0_heightAt_40 : decode cX0_heightAt 40 = .ok (.iconst 0, 1) := by decide +kernel
theorem dX0_heightAt_41 : decode cX0_heightAt 41 = .ok (.istore 7, 2) := by decide +kernel
theorem dX0_heightAt_43 : decode cX0_heightAt 43 = .ok (.iload 7, 2) := by decide +kernel
theorem dX0_heightAt_45 : decode cX0_heightAt 45 = .ok (.aload_n 0, 1) := by decide +kernel
theorem dX0_heightAt_46 : decode cX0_heightAt 46 = .ok (.getfield 25, 3) := by decide +kernel
theorem dX0_heightAt_49 : decode cX0_heightAt 49 = .ok (.if_icmp .ge 63, 3) := by decide +kernel
theorem dX0_heightAt_52 : decode cX0_heightAt 52 = .ok (.iload 7, 2) := by decide +kernel
theorem dX0_heightAt_54 : decode cX0_heightAt 54 = .ok (.iload 4, 2) := by decide +kernel
theorem dX0_heightAt_56 : decode cX0_heightAt 56 = .ok (.if_icmp .eq 50, 3) := by decide +kernel
theorem dX0_heightAt_59 : decode cX0_heightAt 59 = .ok (.iload_n 2, 1) := by decide +kernel
theorem dX0_heightAt_60 : decode cX0_heightAt 60 = .ok (.iload 7, 2) := by decide +kernel
theorem dX0_heightAt_62 : decode cX0_heightAt 62 = .ok (.ishr, 1) := by decide +kernel
theorem dX0_heightAt_63 : decode cX0_heightAt 63 = .ok (.iconst 1, 1) := by decide +kernel
theorem dX0_heightAt_64 : decode cX0_heightAt 64 = .ok (.iand, 1) := by decide +kernel
theorem dX0_heightAt_65 : decode cX0_heightAt 65 = .ok (.ifCond .ne 6, 3) := by decide +kernel
theorem dX0_heightAt_68 : decode cX0_heightAt 68 = .ok (.goto 38, 3) := by decide +kernel
theorem dX0_heightAt_71 : decode cX0_heightAt 71 = .ok (.iload 5, 2) := by decide +kernel
theorem dX0_heightAt_73 : decode cX0_heightAt 73 = .ok (.iload_n 1, 1) := by decide +kernel
theorem dX0_heightAt_74 : decode cX0_heightAt 74 = .ok (.iload 7, 2) := by decide +kernel
theorem dX0_heightAt_76 : decode cX0_heightAt 76 = .ok (.isub, 1) := by decide +kernel
theorem dX0_heightAt_77 : decode cX0_heightAt 77 = .ok (.iconst 1, 1) := by decide +kernel
theorem dX0_heightAt_78 : decode cX0_heightAt 78 = .ok (.isub, 1) := by decide +kernel
theorem dX0_heightAt_79 : decode cX0_heightAt 79 = .ok (.imul, 1) := by decide +kernel
theorem dX0_heightAt_80 : decode cX0_heightAt 80 = .ok (.aload_n 0, 1) := by decide +kernel
theorem dX0_heightAt_81 : decode cX0_heightAt 81 = .ok (.getfield 18, 3) := by decide +kernel
theorem dX0_heightAt_84 : decode cX0_heightAt 84 = .ok (.invokestatic 53, 3) := by decide +kernel
theorem dX0_heightAt_87 : decode cX0_heightAt 87 = .ok (.istore 5, 2) := by decide +kernel
theorem dX0_heightAt_89 : decode cX0_heightAt 89 = .ok (.iload 6, 2) := by decide +kernel
theorem dX0_heightAt_91 : decode cX0_heightAt 91 = .ok (.iload 4, 2) := by decide +kernel
theorem dX0_heightAt_93 : decode cX0_heightAt 93 = .ok (.iload 7, 2) := by decide +kernel
theorem dX0_heightAt_95 : decode cX0_heightAt 95 = .ok (.isub, 1) := by decide +kernel
theorem dX0_heightAt_96 : decode cX0_heightAt 96 = .ok (.imul, 1) := by decide +kernel
theorem dX0_heightAt_97 : decode cX0_heightAt 97 = .ok (.aload_n 0, 1) := by decide +kernel
theorem dX0_heightAt_98 : decode cX0_heightAt 98 = .ok (.getfield 18, 3) := by decide +kernel
theorem dX0_heightAt_101 : decode cX0_heightAt 101 = .ok (.invokestatic 53, 3) := by decide +kernel
theorem dX0_heightAt_104 : decode cX0_heightAt 104 = .ok (.istore 6, 2) := by decide +kernel
theorem dX0_heightAt_106 : decode cX0_heightAt 106 = .ok (.iinc 7 1, 3) := by decide +kernel
theorem dX0_heightAt_109 : decode cX0_heightAt 109 = .ok (.goto (-66), 3) := by decide +kernel
theorem dX0_heightAt_112 : decode cX0_heightAt 112 = .ok (.iload_n 3, 1) := by decide +kernel
theorem dX0_heightAt_113 : decode cX0_heightAt 113 = .ok (.iload 5, 2) := by decide +kernel
theorem dX0_heightAt_115 : decode cX0_heightAt 115 = .ok (.aload_n 0, 1) := by decide +kernel
theorem dX0_heightAt_116 : decode cX0_heightAt 116 = .ok (.iload 6, 2) := by decide +kernel
theorem dX0_heightAt_118 : decode cX0_heightAt 118 = .ok (.invokevirtual 76, 3) := by decide +kernel
theorem dX0_heightAt_121 : decode cX0_heightAt 121 = .ok (.imul, 1) := by decide +kernel
theorem dX0_heightAt_122 : decode cX0_heightAt 122 = .ok (.iadd, 1) := by decide +kernel
theorem dX0_heightAt_123 : decode cX0_heightAt 123 = .ok (.istore_n 3, 1) := by decide +kernel
theorem dX0_heightAt_124 : decode cX0_heightAt 124 = .ok (.iinc 4 1, 3) := by decide +kernel
theorem dX0_heightAt_127 : decode cX0_heightAt 127 = .ok (.goto (-122), 3) := by decide +kernel
theorem dX0_heightAt_130 : decode cX0_heightAt 130 = .ok (.iload_n 3, 1) := by decide +kernel
theorem dX0_heightAt_131 : decode cX0_heightAt 131 = .ok (.aload_n 0, 1) := by decide +kernel
theorem dX0_heightAt_132 : decode cX0_heightAt 132 = .ok (.getfield 18, 3) := by decide +kernel
theorem dX0_heightAt_135 : decode cX0_heightAt 135 = .ok (.invokestatic 53, 3) := by decide +kernel
theorem dX0_heightAt_138 : decode cX0_heightAt 138 = .ok (.ireturn, 1) := by decide +kernel
set_option maxRecDepth 20000 in
theorem ggX0_inverse_X9_mod : GoodIn wsX0_inverse wsX9_mod := goodIn_r _ [4] rfl (by decide +kernel)
set_option maxRecDepth 20000 in
theorem gX0_inverse_X9_mod_n53 : GoodIn wsX0_inverse (wsX9_mod) := ggX0_inverse_X9_mod
theorem dX0_inverse_0 : decode cX0_inverse 0 = .ok (.iconst 1, 1) := by decide +kernel
theorem dX0_inverse_1 : decode cX0_inverse 1 = .ok (.istore_n 2, 1) := by decide +kernel
theorem dX0_inverse_2 : decode cX0_inverse 2 = .ok (.iload_n 2, 1) := by decide +kernel
theorem dX0_inverse_3 : decode cX0_inverse 3 = .ok (.aload_n 0, 1) := by decide +kernel
theorem dX0_inverse_4 : decode cX0_inverse 4 = .ok (.getfield 18, 3) := by decide +kernel
theorem dX0_inverse_7 : decode cX0_inverse 7 = .ok (.if_icmp .ge 25, 3) := by decide +kernel
theorem dX0_inverse_10 : decode cX0_inverse 10 = .ok (.iload_n 2, 1) := by decide +kernel
theorem dX0_inverse_11 : decode cX0_inverse 11 = .ok (.iload_n 1, 1) := by decide +kernel
theorem dX0_inverse_12 : decode cX0_inverse 12 = .ok (.imul, 1) := by decide +kernel
theorem dX0_inverse_13 : decode cX0_inverse 13 = .ok (.aload_n 0, 1) := by decide +kernel
theorem dX0_inverse_14 : decode cX0_inverse 14 = .ok (.getfield 18, 3) := by decide +kernel
theorem dX0_inverse_17 : decode cX0_inverse 17 = .ok (.invokestatic 53, 3) := by decide +kernel
theorem dX0_inverse_20 : decode cX0_inverse 20 = .ok (.iconst 1, 1) := by decide +kernel
theorem dX0_inverse_21 : decode cX0_inverse 21 = .ok (.if_icmp .ne 5, 3) := by decide +kernel
theorem dX0_inverse_24 : decode cX0_inverse 24 = .ok (.iload_n 2, 1) := by decide +kernel
theorem dX0_inverse_25 : decode cX0_inverse 25 = .ok (.ireturn, 1) := by decide +kernel
theorem dX0_inverse_26 : decode cX0_inverse 26 = .ok (.iinc 2 1, 3) := by decide +kernel
theorem dX0_inverse_29 : decode cX0_inverse 29 = .ok (.goto (-27), 3) := by decide +kernel
theorem dX0_inverse_32 : decode cX0_inverse 32 = .ok (.iconst 0, 1) := by decide +kernel
theorem dX0_inverse_33 : decode cX0_inverse 33 = .ok (.ireturn, 1) := by decide +kernel

theorem dX10_known_83 : decode cX10_known 83 = .ok (.ishl, 1) := by decide +kernel
theorem dX10_known_84 : decode cX10_known 84 = .ok (.goto 4, 3) := by decide +kernel
theorem dX10_known_87 : decode cX10_known 87 = .ok (.iconst 0, 1) := by decide +kernel
theorem dX10_known_88 : decode cX10_known 88 = .ok (.ior, 1) := by decide +kernel
theorem dX10_known_89 : decode cX10_known 89 = .ok (.istore_n 2, 1) := by decide +kernel
theorem dX10_known_90 : decode cX10_known 90 = .ok (.iinc 5 1, 3) := by decide +kernel
theorem dX10_known_93 : decode cX10_known 93 = .ok (.goto (-40), 3) := by decide +kernel
theorem dX10_known_96 : decode cX10_known 96 = .ok (.iload_n 3, 1) := by decide +kernel
theorem dX10_known_97 : decode cX10_known 97 = .ok (.ifCond .ne 14, 3) := by decide +kernel
theorem dX10_known_100 : decode cX10_known 100 = .ok (.iload_n 2, 1) := by decide +kernel
theorem dX10_known_101 : decode cX10_known 101 = .ok (.invokestatic 251, 3) := by decide +kernel
theorem dX10_known_104 : decode cX10_known 104 = .ok (.aload_n 0, 1) := by decide +kernel
theorem dX10_known_105 : decode cX10_known 105 = .ok (.getfield 88, 3) := by decide +kernel
theorem dX10_known_108 : decode cX10_known 108 = .ok (.if_icmp .le 7, 3) := by decide +kernel
theorem dX10_known_111 : decode cX10_known 111 = .ok (.iconst 1, 1) := by decide +kernel
theorem dX10_known_112 : decode cX10_known 112 = .ok (.goto 4, 3) := by decide +kernel
theorem dX10_known_115 : decode cX10_known 115 = .ok (.iconst 0, 1) := by decide +kernel
theorem dX10_known_116 : decode cX10_known 116 = .ok (.istore_n 3, 1) := by decide +kernel
theorem dX10_known_117 : decode cX10_known 117 = .ok (.iinc 4 1, 3) := by decide +kernel
theorem dX10_known_120 : decode cX10_known 120 = .ok (.goto (-101), 3) := by decide +kernel
theorem dX10_known_123 : decode cX10_known 123 = .ok (.iload_n 1, 1) := by decide +kernel
theorem dX10_known_124 : decode cX10_known 124 = .ok (.ifCond .ne 15, 3) := by decide +kernel
theorem dX10_known_127 : decode cX10_known 127 = .ok (.iload_n 3, 1) := by decide +kernel
theorem dX10_known_128 : decode cX10_known 128 = .ok (.ifCond .eq 7, 3) := by decide +kernel
theorem dX10_known_131 : decode cX10_known 131 = .ok (.iconst 1, 1) := by decide +kernel
theorem dX10_known_132 : decode cX10_known 132 = .ok (.goto 24, 3) := by decide +kernel
theorem dX10_known_135 : decode cX10_known 135 = .ok (.iconst 0, 1) := by decide +kernel
theorem dX10_known_136 : decode cX10_known 136 = .ok (.goto 20, 3) := by decide +kernel
theorem dX10_known_139 : decode cX10_known 139 = .ok (.iload_n 3, 1) := by decide +kernel
theorem dX10_known_140 : decode cX10_known 140 = .ok (.ifCond .eq 7, 3) := by decide +kernel
theorem dX10_known_143 : decode cX10_known 143 = .ok (.iconst 0, 1) := by decide +kernel
theorem dX10_known_144 : decode cX10_known 144 = .ok (.goto 12, 3) := by decide +kernel
theorem dX10_known_147 : decode cX10_known 147 = .ok (.aload_n 0, 1) := by decide +kernel
theorem dX10_known_148 : decode cX10_known 148 = .ok (.getfield 88, 3) := by decide +kernel
theorem dX10_known_151 : decode cX10_known 151 = .ok (.iload_n 2, 1) := by decide +kernel
theorem dX10_known_152 : decode cX10_known 152 = .ok (.invokestatic 251, 3) := by decide +kernel
theorem dX10_known_155 : decode cX10_known 155 = .ok (.isub, 1) := by decide +kernel
theorem dX10_known_156 : decode cX10_known 156 = .ok (.ireturn, 1) := by decide +kernel
set_option maxRecDepth 20000 in
theorem ggX10_weight_X10_in : GoodIn wsX10_weight wsX10_in := goodIn_r _ [15] (by decide +kernel) (by decide +kernel)
set_option maxRecDepth 20000 in
theorem gX10_weight_X10_in : GoodIn wsX10_weight (va_wsS RX10 117 yX10_in wsX10_in) := goodIn_app (goodIn_of _ (by decide +kernel)) ggX10_weight_X10_in
set_option maxRecDepth 20000 in
theorem ggX10_weight_X10_isItem : GoodIn wsX10_weight wsX10_isItem := goodIn_r _ [19, 20, 12, 13, 14, 15, 21, 22, 23, 24, 25, 26, 27, 28, 29, 30, 31, 32, 33, 34, 35, 36, 37, 38, 39, 40, 41, 42, 43, 44, 45, 46, 47, 48, 49, 50, 51, 52, 53, 54, 55, 56, 57, 58, 59, 60, 61, 62, 63, 64, 65, 66, 67] (by decide +kernel) (by decide +kernel)
set_option maxRecDepth 20000 in
theorem gX10_weight_X10_isItem : GoodIn wsX10_weight (wsV RX10 180 RX10 yX10_isItem wsX10_isItem) := goodIn_app (goodIn_of _ (by decide +kernel)) ggX10_weight_X10_isItem
theorem dX10_weight_0 : decode cX10_weight 0 = .ok (.iload_n 1, 1) := by decide +kernel
theorem dX10_weight_1 : decode cX10_weight 1 = .ok (.i2l, 1) := by decide +kernel
theorem dX10_weight_2 : decode cX10_weight 2 = .ok (.lconst 0, 1) := by decide +kernel
theorem dX10_weight_3 : decode cX10_weight 3 = .ok (.ldc2_w 280, 3) := by decide +kernel
theorem dX10_weight_6 : decode cX10_weight 6 = .ok (.invokestatic 117, 3) := by decide +kernel
theorem dX10_weight_9 : decode cX10_weight 9 = .ok (.ifCond .eq 11, 3) := by decide +kernel
theorem dX10_weight_12 : decode cX10_weight 12 = .ok (.aload_n 0, 1) := by decide +kernel
theorem dX10_weight_13 : decode cX10_weight 13 = .ok (.iload_n 2, 1) := by decide +kernel
theorem dX10_weight_14 : decode cX10_weight 14 = .ok (.invokevirtual 180, 3) := by decide +kernel
theorem dX10_weight_17 : decode cX10_weight 17 = .ok (.ifCond .ne 5, 3) := by decide +kernel
theorem dX10_weight_20 : decode cX10_weight 20 = .ok (.iconst (-1), 1) := by decide +kernel
theorem dX10_weight_21 : decode cX10_weight 21 = .ok (.ireturn, 1) := by decide +kernel
theorem dX10_weight_22 : decode cX10_weight 22 = .ok (.iconst 3, 1) := by decide +kernel
theorem dX10_weight_23 : decode cX10_weight 23 = .ok (.aload_n 0, 1) := by decide +kernel
theorem dX10_weight_24 : decode cX10_weight 24 = .ok (.getfield 13, 3) := by decide +kernel
theorem dX10_weight_27 : decode cX10_weight 27 = .ok (.iload_n 2, 1) := by decide +kernel
theorem dX10_weight_28 : decode cX10_weight 28 = .ok (.iaload, 1) := by decide +kernel
theorem dX10_weight_29 : decode cX10_weight 29 = .ok (.ifCond .ne 7, 3) := by decide +kernel
theorem dX10_weight_32 : decode cX10_weight 32 = .ok (.iconst 2, 1) := by decide +kernel
theorem dX10_weight_33 : decode cX10_weight 33 = .ok (.goto 19, 3) := by decide +kernel
theorem dX10_weight_36 : decode cX10_weight 36 = .ok (.aload_n 0, 1) := by decide +kernel
theorem dX10_weight_37 : decode cX10_weight 37 = .ok (.getfield 13, 3) := by decide +kernel
theorem dX10_weight_40 : decode cX10_weight 40 = .ok (.iload_n 2, 1) := by decide +kernel
theorem dX10_weight_41 : decode cX10_weight 41 = .ok (.iaload, 1) := by decide +kernel
theorem dX10_weight_42 : decode cX10_weight 42 = .ok (.iconst 4, 1) := by decide +kernel
theorem dX10_weight_43 : decode cX10_weight 43 = .ok (.if_icmp .ne 8, 3) := by decide +kernel
theorem dX10_weight_46 : decode cX10_weight 46 = .ok (.bipush 8, 2) := by decide +kernel
theorem dX10_weight_48 : decode cX10_weight 48 = .ok (.goto 4, 3) := by decide +kernel
theorem dX10_weight_51 : decode cX10_weight 51 = .ok (.iconst 0, 1) := by decide +kernel
theorem dX10_weight_52 : decode cX10_weight 52 = .ok (.iadd, 1) := by decide +kernel
theorem dX10_weight_53 : decode cX10_weight 53 = .ok (.istore_n 3, 1) := by decide +kernel
theorem dX10_weight_54 : decode cX10_weight 54 = .ok (.iconst 3, 1) := by decide +kernel
theorem dX10_weight_55 : decode cX10_weight 55 = .ok (.aload_n 0, 1) := by decide +kernel
theorem dX10_weight_56 : decode cX10_weight 56 = .ok (.getfield 88, 3) := by decide +kernel
theorem dX10_weight_59 : decode cX10_weight 59 = .ok (.iadd, 1) := by decide +kernel
theorem dX10_weight_60 : decode cX10_weight 60 = .ok (.istore 4, 2) := by decide +kernel
theorem dX10_weight_62 : decode cX10_weight 62 = .ok (.aload_n 0, 1) := by decide +kernel
theorem dX10_weight_63 : decode cX10_weight 63 = .ok (.getfield 13, 3) := by decide +kernel
theorem dX10_weight_66 : decode cX10_weight 66 = .ok (.iload_n 2, 1) := by decide +kernel
theorem dX10_weight_67 : decode cX10_weight 67 = .ok (.iaload, 1) := by decide +kernel
theorem dX10_weight_68 : decode cX10_weight 68 = .ok (.ifCond .ne 20, 3) := by decide +kernel
theorem dX10_weight_71 : decode cX10_weight 71 = .ok (.aload_n 0, 1) := by decide +kernel
theorem dX10_weight_72 : decode cX10_weight 72 = .ok (.getfield 26, 3) := by decide +kernel
theorem dX10_weight_75 : decode cX10_weight 75 = .ok (.iload_n 2, 1) := by decide +kernel
theorem dX10_weight_76 : decode cX10_weight 76 = .ok (.iaload, 1) := by decide +kernel
theorem dX10_weight_77 : decode cX10_weight 77 = .ok (.ifCond .ne 7, 3) := by decide +kernel
theorem dX10_weight_80 : decode cX10_weight 80 = .ok (.iconst 3, 1) := by decide +kernel
theorem dX10_weight_81 : decode cX10_weight 81 = .ok (.goto 37, 3) := by decide +kernel
theorem dX10_weight_84 : decode cX10_weight 84 = .ok (.iconst 1, 1) := by decide +kernel
theorem dX10_weight_85 : decode cX10_weight 85 = .ok (.goto 33, 3) := by decide +kernel
theorem dX10_weight_88 : decode cX10_weight 88 = .ok (.aload_n 0, 1) := by decide +kernel
theorem dX10_weight_89 : decode cX10_weight 89 = .ok (.getfield 13, 3) := by decide +kernel
theorem dX10_weight_92 : decode cX10_weight 92 = .ok (.iload_n 2, 1) := by decide +kernel
theorem dX10_weight_93 : decode cX10_weight 93 = .ok (.iaload, 1) := by decide +kernel
theorem dX10_weight_94 : decode cX10_weight 94 = .ok (.iconst 4, 1) := by decide +kernel
theorem dX10_weight_95 : decode cX10_weight 95 = .ok (.if_icmp .ne 8, 3) := by decide +kernel
theorem dX10_weight_98 : decode cX10_weight 98 = .ok (.bipush 9, 2) := by decide +kernel
theorem dX10_weight_100 : decode cX10_weight 100 = .ok (.goto 18, 3) := by decide +kernel
theorem dX10_weight_103 : decode cX10_weight 103 = .ok (.aload_n 0, 1) := by decide +kernel
theorem dX10_weight_104 : decode cX10_weight 104 = .ok (.getfield 13, 3) := by decide +kernel
theorem dX10_weight_107 : decode cX10_weight 107 = .ok (.iload_n 2, 1) := by decide +kernel
theorem dX10_weight_108 : decode cX10_weight 108 = .ok (.iaload, 1) := by decide +kernel
theorem dX10_weight_109 : decode cX10_weight 109 = .ok (.iconst 5, 1) := by decide +kernel
theorem dX10_weight_110 : decode cX10_weight 110 = .ok (.if_icmp .ne 7, 3) := by decide +kernel
theorem dX10_weight_113 : decode cX10_weight 113 = .ok (.iconst 3, 1) := by decide +kernel
theorem dX10_weight_114 : decode cX10_weight 114 = .ok (.goto 4, 3) := by decide +kernel
theorem dX10_weight_117 : decode cX10_weight 117 = .ok (.iconst 0, 1) := by decide +kernel
theorem dX10_weight_118 : decode cX10_weight 118 = .ok (.istore 5, 2) := by decide +kernel
theorem dX10_weight_120 : decode cX10_weight 120 = .ok (.aload_n 0, 1) := by decide +kernel
theorem dX10_weight_121 : decode cX10_weight 121 = .ok (.dup, 1) := by decide +kernel
theorem dX10_weight_122 : decode cX10_weight 122 = .ok (.getfield 282, 3) := by decide +kernel
theorem dX10_weight_125 : decode cX10_weight 125 = .ok (.iload_n 1, 1) := by decide +kernel
theorem dX10_weight_126 : decode cX10_weight 126 = .ok (.ifCond .ne 7, 3) := by decide +kernel
theorem dX10_weight_129 : decode cX10_weight 129 = .ok (.lconst 1, 1) := by decide +kernel
theorem dX10_weight_130 : decode cX10_weight 130 = .ok (.goto 50, 3) := by decide +kernel
theorem dX10_weight_133 : decode cX10_weight 133 = .ok (.iload_n 1, 1) := by decide +kernel
theorem dX10_weight_134 : decode cX10_weight 134 = .ok (.iconst 1, 1) := by decide +kernel
theorem dX10_weight_135 : decode cX10_weight 135 = .ok (.if_icmp .ne 9, 3) := by decide +kernel
theorem dX10_weight_138 : decode cX10_weight 138 = .ok (.ldc2_w 286, 3) := by decide +kernel
theorem dX10_weight_141 : decode cX10_weight 141 = .ok (.goto 39, 3) := by decide +kernel
theorem dX10_weight_144 : decode cX10_weight 144 = .ok (.iload_n 1, 1) := by decide +kernel
theorem dX10_weight_145 : decode cX10_weight 145 = .ok (.iconst 2, 1) := by decide +kernel
theorem dX10_weight_146 : decode cX10_weight 146 = .ok (.if_icmp .ne 9, 3) := by decide +kernel
theorem dX10_weight_149 : decode cX10_weight 149 = .ok (.ldc2_w 288, 3) := by decide +kernel
theorem dX10_weight_152 : decode cX10_weight 152 = .ok (.goto 28, 3) := by decide +kernel
theorem dX10_weight_155 : decode cX10_weight 155 = .ok (.iload_n 1, 1) := by decide +kernel
theorem dX10_weight_156 : decode cX10_weight 156 = .ok (.iconst 3, 1) := by decide +kernel
theorem dX10_weight_157 : decode cX10_weight 157 = .ok (.if_icmp .ne 9, 3) := by decide +kernel
theorem dX10_weight_160 : decode cX10_weight 160 = .ok (.ldc2_w 290, 3) := by decide +kernel
theorem dX10_weight_163 : decode cX10_weight 163 = .ok (.goto 17, 3) := by decide +kernel
theorem dX10_weight_166 : decode cX10_weight 166 = .ok (.iload_n 1, 1) := by decide +kernel
theorem dX10_weight_167 : decode cX10_weight 167 = .ok (.iconst 4, 1) := by decide +kernel
theorem dX10_weight_168 : decode cX10_weight 168 = .ok (.if_icmp .ne 9, 3) := by decide +kernel
theorem dX10_weight_171 : decode cX10_weight 171 = .ok (.ldc2_w 292, 3) := by decide +kernel
theorem dX10_weight_174 : decode cX10_weight 174 = .ok (.goto 6, 3) := by decide +kernel
theorem dX10_weight_177 : decode cX10_weight 177 = .ok (.ldc2_w 294, 3) := by decide +kernel
theorem dX10_weight_180 : decode cX10_weight 180 = .ok (.ladd, 1) := by decide +kernel
theorem dX10_weight_181 : decode cX10_weight 181 = .ok (.putfield 282, 3) := by decide +kernel
theorem dX10_weight_184 : decode cX10_weight 184 = .ok (.iload_n 1, 1) := by decide +kernel
theorem dX10_weight_185 : decode cX10_weight 185 = .ok (.ifCond .ne 7, 3) := by decide +kernel
theorem dX10_weight_188 : decode cX10_weight 188 = .ok (.iconst 3, 1) := by decide +kernel
theorem dX10_weight_189 : decode cX10_weight 189 = .ok (.goto 52, 3) := by decide +kernel
theorem dX10_weight_192 : decode cX10_weight 192 = .ok (.iload_n 1, 1) := by decide +kernel
theorem dX10_weight_193 : decode cX10_weight 193 = .ok (.iconst 1, 1) := by decide +kernel
theorem dX10_weight_194 : decode cX10_weight 194 = .ok (.if_icmp .ne 7, 3) := by decide +kernel
theorem dX10_weight_197 : decode cX10_weight 197 = .ok (.iload_n 3, 1) := by decide +kernel
theorem dX10_weight_198 : decode cX10_weight 198 = .ok (.goto 43, 3) := by decide +kernel
theorem dX10_weight_201 : decode cX10_weight 201 = .ok (.iload_n 1, 1) := by decide +kernel
theorem dX10_weight_202 : decode cX10_weight 202 = .ok (.iconst 2, 1) := by decide +kernel
theorem dX10_weight_203 : decode cX10_weight 203 = .ok (.if_icmp .ne 8, 3) := by decide +kernel
theorem dX10_weight_206 : decode cX10_weight 206 = .ok (.iload 4, 2) := by decide +kernel
theorem dX10_weight_208 : decode cX10_weight 208 = .ok (.goto 33, 3) := by decide +kernel
theorem dX10_weight_211 : decode cX10_weight 211 = .ok (.iload_n 1, 1) := by decide +kernel
theorem dX10_weight_212 : decode cX10_weight 212 = .ok (.iconst 3, 1) := by decide +kernel
theorem dX10_weight_213 : decode cX10_weight 213 = .ok (.if_icmp .ne 12, 3) := by decide +kernel
theorem dX10_weight_216 : decode cX10_weight 216 = .ok (.iload_n 3, 1) := by decide +kernel
theorem dX10_weight_217 : decode cX10_weight 217 = .ok (.aload_n 0, 1) := by decide +kernel
theorem dX10_weight_218 : decode cX10_weight 218 = .ok (.getfield 35, 3) := by decide +kernel
theorem dX10_weight_221 : decode cX10_weight 221 = .ok (.imul, 1) := by decide +kernel
theorem dX10_weight_222 : decode cX10_weight 222 = .ok (.goto 19, 3) := by decide +kernel
theorem dX10_weight_225 : decode cX10_weight 225 = .ok (.iload_n 1, 1) := by decide +kernel
theorem dX10_weight_226 : decode cX10_weight 226 = .ok (.iconst 4, 1) := by decide +kernel
theorem dX10_weight_227 : decode cX10_weight 227 = .ok (.if_icmp .ne 10, 3) := by decide +kernel
theorem dX10_weight_230 : decode cX10_weight 230 = .ok (.iconst 2, 1) := by decide +kernel
theorem dX10_weight_231 : decode cX10_weight 231 = .ok (.iload 4, 2) := by decide +kernel
theorem dX10_weight_233 : decode cX10_weight 233 = .ok (.imul, 1) := by decide +kernel
theorem dX10_weight_234 : decode cX10_weight 234 = .ok (.goto 7, 3) := by decide +kernel
theorem dX10_weight_237 : decode cX10_weight 237 = .ok (.iconst 3, 1) := by decide +kernel
theorem dX10_weight_238 : decode cX10_weight 238 = .ok (.iload 5, 2) := by decide +kernel
theorem dX10_weight_240 : decode cX10_weight 240 = .ok (.iadd, 1) := by decide +kernel
theorem dX10_weight_241 : decode cX10_weight 241 = .ok (.ireturn, 1) := by decide +kernel
set_option maxRecDepth 20000 in
theorem ggX10_count_X10_countOf : GoodIn wsX10_count wsX10_countOf := goodIn_r _ [10, 1, 11, 16, 17, 18, 19, 20, 21, 22, 23, 24, 25, 26, 27, 28, 29, 30, 31, 32, 33, 34, 35, 36, 37, 38, 39, 40, 41, 42, 43, 44, 45, 46, 47, 48, 49, 50, 51, 52, 53, 54, 55, 56, 57, 58, 59, 60, 61, 62] (by decide +kernel) (by decide +kernel)
set_option maxRecDepth 20000 in
theorem gX10_count_X10_countOf : GoodIn wsX10_count (wsV RX10 192 RX10 yX10_countOf wsX10_countOf) := goodIn_app (goodIn_of _ (by decide +kernel)) ggX10_count_X10_countOf
set_option maxRecDepth 20000 in
theorem ggX10_count_X10_lotsTaken : GoodIn wsX10_count wsX10_lotsTaken := goodIn_r _ [15, 6, 7, 8, 9, 10, 1, 11, 16, 17, 18, 19, 20, 21, 22, 23, 24, 25, 26, 27, 28, 29, 30, 31, 32, 33, 34, 35, 36, 37, 38, 39, 40, 41, 42, 43, 44, 45, 46, 47, 48, 49, 50, 51, 52, 53, 54, 55, 56, 57, 58, 59, 60, 61, 62] (by decide +kernel) (by decide +kernel)
set_option maxRecDepth 20000 in
theorem gX10_count_X10_lotsTaken : GoodIn wsX10_count (wsV RX10 230 RX10 yX10_lotsTaken wsX10_lotsTaken) := goodIn_app (goodIn_of _ (by decide +kernel)) ggX10_count_X10_lotsTaken
theorem dX10_count_0 : decode cX10_count 0 = .ok (.iload_n 1, 1) := by decide +kernel
theorem dX10_count_1 : decode cX10_count 1 = .ok (.tableswitch 89 0 7 #[47, 52, 58, 64, 69, 74, 79, 84], 47) := by decide +kernel
theorem dX10_count_48 : decode cX10_count 48 = .ok (.aload_n 0, 1) := by decide +kernel
theorem dX10_count_49 : decode cX10_count 49 = .ok (.getfield 112, 3) := by decide +kernel
theorem dX10_count_52 : decode cX10_count 52 = .ok (.ireturn, 1) := by decide +kernel
theorem dX10_count_53 : decode cX10_count 53 = .ok (.aload_n 0, 1) := by decide +kernel
theorem dX10_count_54 : decode cX10_count 54 = .ok (.iconst 0, 1) := by decide +kernel
theorem dX10_count_55 : decode cX10_count 55 = .ok (.invokevirtual 192, 3) := by decide +kernel
theorem dX10_count_58 : decode cX10_count 58 = .ok (.ireturn, 1) := by decide +kernel
theorem dX10_count_59 : decode cX10_count 59 = .ok (.aload_n 0, 1) := by decide +kernel
theorem dX10_count_60 : decode cX10_count 60 = .ok (.iconst 4, 1) := by decide +kernel
theorem dX10_count_61 : decode cX10_count 61 = .ok (.invokevirtual 192, 3) := by decide +kernel
theorem dX10_count_64 : decode cX10_count 64 = .ok (.ireturn, 1) := by decide +kernel
theorem dX10_count_65 : decode cX10_count 65 = .ok (.aload_n 0, 1) := by decide +kernel
theorem dX10_count_66 : decode cX10_count 66 = .ok (.invokevirtual 230, 3) := by decide +kernel
theorem dX10_count_69 : decode cX10_count 69 = .ok (.ireturn, 1) := by decide +kernel
theorem dX10_count_70 : decode cX10_count 70 = .ok (.aload_n 0, 1) := by decide +kernel
theorem dX10_count_71 : decode cX10_count 71 = .ok (.getfield 177, 3) := by decide +kernel
theorem dX10_count_74 : decode cX10_count 74 = .ok (.ireturn, 1) := by decide +kernel
theorem dX10_count_75 : decode cX10_count 75 = .ok (.aload_n 0, 1) := by decide +kernel
theorem dX10_count_76 : decode cX10_count 76 = .ok (.getfield 261, 3) := by decide +kernel
theorem dX10_count_79 : decode cX10_count 79 = .ok (.ireturn, 1) := by decide +kernel
theorem dX10_count_80 : decode cX10_count 80 = .ok (.aload_n 0, 1) := by decide +kernel
theorem dX10_count_81 : decode cX10_count 81 = .ok (.getfield 121, 3) := by decide +kernel
theorem dX10_count_84 : decode cX10_count 84 = .ok (.ireturn, 1) := by decide +kernel
theorem dX10_count_85 : decode cX10_count 85 = .ok (.aload_n 0, 1) := by decide +kernel
theorem dX10_count_86 : decode cX10_count 86 = .ok (.getfield 264, 3) := by decide +kernel
theorem dX10_count_89 : decode cX10_count 89 = .ok (.ireturn, 1) := by decide +kernel
theorem dX10_count_90 : decode cX10_count 90 = .ok (.iconst (-1), 1) := by decide +kernel
theorem dX10_count_91 : decode cX10_count 91 = .ok (.ireturn, 1) := by decide +kernel
theorem dX10_trace_0 : decode cX10_trace 0 = .ok (.aload_n 0, 1) := by decide +kernel
theorem dX10_trace_1 : decode cX10_trace 1 = .ok (.getfield 282, 3) := by decide +kernel
theorem dX10_trace_4 : decode cX10_trace 4 = .ok (.lreturn, 1) := by decide +kernel

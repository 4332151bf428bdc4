theorem dX10_field_32 : decode cX10_field 32 = .ok (.iload_n 2, 1) := by decide +kernel
theorem dX10_field_33 : decode cX10_field 33 = .ok (.i2l, 1) := by decide +kernel
theorem dX10_field_34 : decode cX10_field 34 = .ok (.lconst 0, 1) := by decide +kernel
theorem dX10_field_35 : decode cX10_field 35 = .ok (.ldc2_w 188, 3) := by decide +kernel
theorem dX10_field_38 : decode cX10_field 38 = .ok (.invokestatic 117, 3) := by decide +kernel
theorem dX10_field_41 : decode cX10_field 41 = .ok (.goto 35, 3) := by decide +kernel
theorem dX10_field_44 : decode cX10_field 44 = .ok (.iload_n 1, 1) := by decide +kernel
theorem dX10_field_45 : decode cX10_field 45 = .ok (.iconst 2, 1) := by decide +kernel
theorem dX10_field_46 : decode cX10_field 46 = .ok (.if_icmp .ne 29, 3) := by decide +kernel
theorem dX10_field_49 : decode cX10_field 49 = .ok (.iload_n 2, 1) := by decide +kernel
theorem dX10_field_50 : decode cX10_field 50 = .ok (.i2l, 1) := by decide +kernel
theorem dX10_field_51 : decode cX10_field 51 = .ok (.ldc2_w 257, 3) := by decide +kernel
theorem dX10_field_54 : decode cX10_field 54 = .ok (.ldc2_w 259, 3) := by decide +kernel
theorem dX10_field_57 : decode cX10_field 57 = .ok (.invokestatic 117, 3) := by decide +kernel
theorem dX10_field_60 : decode cX10_field 60 = .ok (.ifCond .eq 15, 3) := by decide +kernel
theorem dX10_field_63 : decode cX10_field 63 = .ok (.iload_n 2, 1) := by decide +kernel
theorem dX10_field_64 : decode cX10_field 64 = .ok (.aload_n 0, 1) := by decide +kernel
theorem dX10_field_65 : decode cX10_field 65 = .ok (.getfield 85, 3) := by decide +kernel
theorem dX10_field_68 : decode cX10_field 68 = .ok (.if_icmp .ge 7, 3) := by decide +kernel
theorem dX10_field_71 : decode cX10_field 71 = .ok (.iconst 1, 1) := by decide +kernel
theorem dX10_field_72 : decode cX10_field 72 = .ok (.goto 4, 3) := by decide +kernel
theorem dX10_field_75 : decode cX10_field 75 = .ok (.iconst 0, 1) := by decide +kernel
theorem dX10_field_76 : decode cX10_field 76 = .ok (.istore_n 3, 1) := by decide +kernel
theorem dX10_field_77 : decode cX10_field 77 = .ok (.iload_n 3, 1) := by decide +kernel
theorem dX10_field_78 : decode cX10_field 78 = .ok (.ifCond .ne 5, 3) := by decide +kernel
theorem dX10_field_81 : decode cX10_field 81 = .ok (.iconst (-1), 1) := by decide +kernel
theorem dX10_field_82 : decode cX10_field 82 = .ok (.ireturn, 1) := by decide +kernel
theorem dX10_field_83 : decode cX10_field 83 = .ok (.iload_n 1, 1) := by decide +kernel
theorem dX10_field_84 : decode cX10_field 84 = .ok (.ifCond .ne 10, 3) := by decide +kernel
theorem dX10_field_87 : decode cX10_field 87 = .ok (.aload_n 0, 1) := by decide +kernel
theorem dX10_field_88 : decode cX10_field 88 = .ok (.getfield 85, 3) := by decide +kernel
theorem dX10_field_91 : decode cX10_field 91 = .ok (.goto 19, 3) := by decide +kernel
theorem dX10_field_94 : decode cX10_field 94 = .ok (.iload_n 1, 1) := by decide +kernel
theorem dX10_field_95 : decode cX10_field 95 = .ok (.iconst 1, 1) := by decide +kernel
theorem dX10_field_96 : decode cX10_field 96 = .ok (.if_icmp .ne 10, 3) := by decide +kernel
theorem dX10_field_99 : decode cX10_field 99 = .ok (.aload_n 0, 1) := by decide +kernel
theorem dX10_field_100 : decode cX10_field 100 = .ok (.getfield 88, 3) := by decide +kernel
theorem dX10_field_103 : decode cX10_field 103 = .ok (.goto 7, 3) := by decide +kernel
theorem dX10_field_106 : decode cX10_field 106 = .ok (.aload_n 0, 1) := by decide +kernel
theorem dX10_field_107 : decode cX10_field 107 = .ok (.getfield 91, 3) := by decide +kernel
theorem dX10_field_110 : decode cX10_field 110 = .ok (.istore 4, 2) := by decide +kernel
theorem dX10_field_112 : decode cX10_field 112 = .ok (.aload_n 0, 1) := by decide +kernel
theorem dX10_field_113 : decode cX10_field 113 = .ok (.iload_n 1, 1) := by decide +kernel
theorem dX10_field_114 : decode cX10_field 114 = .ok (.ifCond .ne 7, 3) := by decide +kernel
theorem dX10_field_117 : decode cX10_field 117 = .ok (.iload_n 2, 1) := by decide +kernel
theorem dX10_field_118 : decode cX10_field 118 = .ok (.goto 7, 3) := by decide +kernel
theorem dX10_field_121 : decode cX10_field 121 = .ok (.aload_n 0, 1) := by decide +kernel
theorem dX10_field_122 : decode cX10_field 122 = .ok (.getfield 85, 3) := by decide +kernel
theorem dX10_field_125 : decode cX10_field 125 = .ok (.putfield 85, 3) := by decide +kernel
theorem dX10_field_128 : decode cX10_field 128 = .ok (.aload_n 0, 1) := by decide +kernel
theorem dX10_field_129 : decode cX10_field 129 = .ok (.iload_n 1, 1) := by decide +kernel
theorem dX10_field_130 : decode cX10_field 130 = .ok (.iconst 1, 1) := by decide +kernel
theorem dX10_field_131 : decode cX10_field 131 = .ok (.if_icmp .ne 7, 3) := by decide +kernel
theorem dX10_field_134 : decode cX10_field 134 = .ok (.iload_n 2, 1) := by decide +kernel
theorem dX10_field_135 : decode cX10_field 135 = .ok (.goto 7, 3) := by decide +kernel
theorem dX10_field_138 : decode cX10_field 138 = .ok (.aload_n 0, 1) := by decide +kernel
theorem dX10_field_139 : decode cX10_field 139 = .ok (.getfield 88, 3) := by decide +kernel
theorem dX10_field_142 : decode cX10_field 142 = .ok (.putfield 88, 3) := by decide +kernel
theorem dX10_field_145 : decode cX10_field 145 = .ok (.aload_n 0, 1) := by decide +kernel
theorem dX10_field_146 : decode cX10_field 146 = .ok (.iload_n 1, 1) := by decide +kernel
theorem dX10_field_147 : decode cX10_field 147 = .ok (.iconst 2, 1) := by decide +kernel
theorem dX10_field_148 : decode cX10_field 148 = .ok (.if_icmp .ne 7, 3) := by decide +kernel
theorem dX10_field_151 : decode cX10_field 151 = .ok (.iload_n 2, 1) := by decide +kernel
theorem dX10_field_152 : decode cX10_field 152 = .ok (.goto 7, 3) := by decide +kernel
theorem dX10_field_155 : decode cX10_field 155 = .ok (.aload_n 0, 1) := by decide +kernel
theorem dX10_field_156 : decode cX10_field 156 = .ok (.getfield 91, 3) := by decide +kernel
theorem dX10_field_159 : decode cX10_field 159 = .ok (.putfield 91, 3) := by decide +kernel
theorem dX10_field_162 : decode cX10_field 162 = .ok (.iconst 0, 1) := by decide +kernel
theorem dX10_field_163 : decode cX10_field 163 = .ok (.istore 5, 2) := by decide +kernel
theorem dX10_field_165 : decode cX10_field 165 = .ok (.iload 5, 2) := by decide +kernel
theorem dX10_field_167 : decode cX10_field 167 = .ok (.iconst 3, 1) := by decide +kernel
theorem dX10_field_168 : decode cX10_field 168 = .ok (.if_icmp .ge 17, 3) := by decide +kernel
theorem dX10_field_171 : decode cX10_field 171 = .ok (.aload_n 0, 1) := by decide +kernel
theorem dX10_field_172 : decode cX10_field 172 = .ok (.getfield 94, 3) := by decide +kernel
theorem dX10_field_175 : decode cX10_field 175 = .ok (.iload 5, 2) := by decide +kernel
theorem dX10_field_177 : decode cX10_field 177 = .ok (.iconst 0, 1) := by decide +kernel
theorem dX10_field_178 : decode cX10_field 178 = .ok (.iastore, 1) := by decide +kernel
theorem dX10_field_179 : decode cX10_field 179 = .ok (.iinc 5 1, 3) := by decide +kernel
theorem dX10_field_182 : decode cX10_field 182 = .ok (.goto (-17), 3) := by decide +kernel
theorem dX10_field_185 : decode cX10_field 185 = .ok (.iconst 0, 1) := by decide +kernel
theorem dX10_field_186 : decode cX10_field 186 = .ok (.istore 5, 2) := by decide +kernel
theorem dX10_field_188 : decode cX10_field 188 = .ok (.iload 5, 2) := by decide +kernel
theorem dX10_field_190 : decode cX10_field 190 = .ok (.bipush 6, 2) := by decide +kernel
theorem dX10_field_192 : decode cX10_field 192 = .ok (.if_icmp .ge 17, 3) := by decide +kernel
theorem dX10_field_195 : decode cX10_field 195 = .ok (.aload_n 0, 1) := by decide +kernel
theorem dX10_field_196 : decode cX10_field 196 = .ok (.getfield 97, 3) := by decide +kernel
theorem dX10_field_199 : decode cX10_field 199 = .ok (.iload 5, 2) := by decide +kernel
theorem dX10_field_201 : decode cX10_field 201 = .ok (.iconst 0, 1) := by decide +kernel
theorem dX10_field_202 : decode cX10_field 202 = .ok (.iastore, 1) := by decide +kernel
theorem dX10_field_203 : decode cX10_field 203 = .ok (.iinc 5 1, 3) := by decide +kernel
theorem dX10_field_206 : decode cX10_field 206 = .ok (.goto (-18), 3) := by decide +kernel
theorem dX10_field_209 : decode cX10_field 209 = .ok (.aload_n 0, 1) := by decide +kernel
theorem dX10_field_210 : decode cX10_field 210 = .ok (.iconst 0, 1) := by decide +kernel
theorem dX10_field_211 : decode cX10_field 211 = .ok (.putfield 261, 3) := by decide +kernel
theorem dX10_field_214 : decode cX10_field 214 = .ok (.aload_n 0, 1) := by decide +kernel
theorem dX10_field_215 : decode cX10_field 215 = .ok (.iconst 0, 1) := by decide +kernel
theorem dX10_field_216 : decode cX10_field 216 = .ok (.putfield 264, 3) := by decide +kernel
theorem dX10_field_219 : decode cX10_field 219 = .ok (.iload 4, 2) := by decide +kernel
theorem dX10_field_221 : decode cX10_field 221 = .ok (.ireturn, 1) := by decide +kernel
set_option maxRecDepth 20000 in
theorem ggX10_curve_X10_in : GoodIn wsX10_curve wsX10_in := goodIn_r _ [9] (by decide +kernel) (by decide +kernel)
set_option maxRecDepth 20000 in
theorem gX10_curve_X10_in : GoodIn wsX10_curve (va_wsS RX10 117 yX10_in wsX10_in) := goodIn_app (goodIn_of _ (by decide +kernel)) ggX10_curve_X10_in
theorem dX10_curve_0 : decode cX10_curve 0 = .ok (.iload_n 1, 1) := by decide +kernel
theorem dX10_curve_1 : decode cX10_curve 1 = .ok (.i2l, 1) := by decide +kernel
theorem dX10_curve_2 : decode cX10_curve 2 = .ok (.lconst 0, 1) := by decide +kernel
theorem dX10_curve_3 : decode cX10_curve 3 = .ok (.aload_n 0, 1) := by decide +kernel
theorem dX10_curve_4 : decode cX10_curve 4 = .ok (.getfield 85, 3) := by decide +kernel
theorem dX10_curve_7 : decode cX10_curve 7 = .ok (.iconst 1, 1) := by decide +kernel
theorem dX10_curve_8 : decode cX10_curve 8 = .ok (.isub, 1) := by decide +kernel
theorem dX10_curve_9 : decode cX10_curve 9 = .ok (.i2l, 1) := by decide +kernel
theorem dX10_curve_10 : decode cX10_curve 10 = .ok (.invokestatic 117, 3) := by decide +kernel
theorem dX10_curve_13 : decode cX10_curve 13 = .ok (.ifCond .eq 58, 3) := by decide +kernel
theorem dX10_curve_16 : decode cX10_curve 16 = .ok (.iload_n 2, 1) := by decide +kernel
theorem dX10_curve_17 : decode cX10_curve 17 = .ok (.i2l, 1) := by decide +kernel
theorem dX10_curve_18 : decode cX10_curve 18 = .ok (.lconst 0, 1) := by decide +kernel
theorem dX10_curve_19 : decode cX10_curve 19 = .ok (.aload_n 0, 1) := by decide +kernel
theorem dX10_curve_20 : decode cX10_curve 20 = .ok (.getfield 88, 3) := by decide +kernel
theorem dX10_curve_23 : decode cX10_curve 23 = .ok (.ifCond .le 13, 3) := by decide +kernel
theorem dX10_curve_26 : decode cX10_curve 26 = .ok (.aload_n 0, 1) := by decide +kernel
theorem dX10_curve_27 : decode cX10_curve 27 = .ok (.getfield 85, 3) := by decide +kernel
theorem dX10_curve_30 : decode cX10_curve 30 = .ok (.iconst 1, 1) := by decide +kernel
theorem dX10_curve_31 : decode cX10_curve 31 = .ok (.isub, 1) := by decide +kernel
theorem dX10_curve_32 : decode cX10_curve 32 = .ok (.i2l, 1) := by decide +kernel
theorem dX10_curve_33 : decode cX10_curve 33 = .ok (.goto 4, 3) := by decide +kernel
theorem dX10_curve_36 : decode cX10_curve 36 = .ok (.lconst 0, 1) := by decide +kernel
theorem dX10_curve_37 : decode cX10_curve 37 = .ok (.invokestatic 117, 3) := by decide +kernel
theorem dX10_curve_40 : decode cX10_curve 40 = .ok (.ifCond .eq 31, 3) := by decide +kernel
theorem dX10_curve_43 : decode cX10_curve 43 = .ok (.iload_n 3, 1) := by decide +kernel
theorem dX10_curve_44 : decode cX10_curve 44 = .ok (.i2l, 1) := by decide +kernel
theorem dX10_curve_45 : decode cX10_curve 45 = .ok (.lconst 0, 1) := by decide +kernel
theorem dX10_curve_46 : decode cX10_curve 46 = .ok (.aload_n 0, 1) := by decide +kernel
theorem dX10_curve_47 : decode cX10_curve 47 = .ok (.getfield 88, 3) := by decide +kernel
theorem dX10_curve_50 : decode cX10_curve 50 = .ok (.iconst 1, 1) := by decide +kernel
theorem dX10_curve_51 : decode cX10_curve 51 = .ok (.if_icmp .le 13, 3) := by decide +kernel
theorem dX10_curve_54 : decode cX10_curve 54 = .ok (.aload_n 0, 1) := by decide +kernel
theorem dX10_curve_55 : decode cX10_curve 55 = .ok (.getfield 85, 3) := by decide +kernel
theorem dX10_curve_58 : decode cX10_curve 58 = .ok (.iconst 1, 1) := by decide +kernel
theorem dX10_curve_59 : decode cX10_curve 59 = .ok (.isub, 1) := by decide +kernel
theorem dX10_curve_60 : decode cX10_curve 60 = .ok (.i2l, 1) := by decide +kernel
theorem dX10_curve_61 : decode cX10_curve 61 = .ok (.goto 4, 3) := by decide +kernel
theorem dX10_curve_64 : decode cX10_curve 64 = .ok (.lconst 0, 1) := by decide +kernel
theorem dX10_curve_65 : decode cX10_curve 65 = .ok (.invokestatic 117, 3) := by decide +kernel
theorem dX10_curve_68 : decode cX10_curve 68 = .ok (.ifCond .ne 5, 3) := by decide +kernel
theorem dX10_curve_71 : decode cX10_curve 71 = .ok (.iconst (-1), 1) := by decide +kernel
theorem dX10_curve_72 : decode cX10_curve 72 = .ok (.ireturn, 1) := by decide +kernel
theorem dX10_curve_73 : decode cX10_curve 73 = .ok (.aload_n 0, 1) := by decide +kernel
theorem dX10_curve_74 : decode cX10_curve 74 = .ok (.getfield 94, 3) := by decide +kernel
theorem dX10_curve_77 : decode cX10_curve 77 = .ok (.iconst 0, 1) := by decide +kernel
theorem dX10_curve_78 : decode cX10_curve 78 = .ok (.iload_n 1, 1) := by decide +kernel
theorem dX10_curve_79 : decode cX10_curve 79 = .ok (.iastore, 1) := by decide +kernel
theorem dX10_curve_80 : decode cX10_curve 80 = .ok (.aload_n 0, 1) := by decide +kernel
theorem dX10_curve_81 : decode cX10_curve 81 = .ok (.getfield 94, 3) := by decide +kernel
theorem dX10_curve_84 : decode cX10_curve 84 = .ok (.iconst 1, 1) := by decide +kernel
theorem dX10_curve_85 : decode cX10_curve 85 = .ok (.iload_n 2, 1) := by decide +kernel
theorem dX10_curve_86 : decode cX10_curve 86 = .ok (.iastore, 1) := by decide +kernel
theorem dX10_curve_87 : decode cX10_curve 87 = .ok (.aload_n 0, 1) := by decide +kernel
theorem dX10_curve_88 : decode cX10_curve 88 = .ok (.getfield 94, 3) := by decide +kernel
theorem dX10_curve_91 : decode cX10_curve 91 = .ok (.iconst 2, 1) := by decide +kernel
theorem dX10_curve_92 : decode cX10_curve 92 = .ok (.iload_n 3, 1) := by decide +kernel
theorem dX10_curve_93 : decode cX10_curve 93 = .ok (.iastore, 1) := by decide +kernel
theorem dX10_curve_94 : decode cX10_curve 94 = .ok (.iconst 0, 1) := by decide +kernel
theorem dX10_curve_95 : decode cX10_curve 95 = .ok (.istore 4, 2) := by decide +kernel
theorem dX10_curve_97 : decode cX10_curve 97 = .ok (.iload 4, 2) := by decide +kernel
theorem dX10_curve_99 : decode cX10_curve 99 = .ok (.bipush 6, 2) := by decide +kernel
theorem dX10_curve_101 : decode cX10_curve 101 = .ok (.if_icmp .ge 17, 3) := by decide +kernel
theorem dX10_curve_104 : decode cX10_curve 104 = .ok (.aload_n 0, 1) := by decide +kernel
theorem dX10_curve_105 : decode cX10_curve 105 = .ok (.getfield 97, 3) := by decide +kernel
theorem dX10_curve_108 : decode cX10_curve 108 = .ok (.iload 4, 2) := by decide +kernel
theorem dX10_curve_110 : decode cX10_curve 110 = .ok (.iconst 0, 1) := by decide +kernel
theorem dX10_curve_111 : decode cX10_curve 111 = .ok (.iastore, 1) := by decide +kernel
theorem dX10_curve_112 : decode cX10_curve 112 = .ok (.iinc 4 1, 3) := by decide +kernel
theorem dX10_curve_115 : decode cX10_curve 115 = .ok (.goto (-18), 3) := by decide +kernel
theorem dX10_curve_118 : decode cX10_curve 118 = .ok (.aload_n 0, 1) := by decide +kernel
theorem dX10_curve_119 : decode cX10_curve 119 = .ok (.getfield 91, 3) := by decide +kernel
theorem dX10_curve_122 : decode cX10_curve 122 = .ok (.ireturn, 1) := by decide +kernel
theorem dX10_pointOf_0 : decode cX10_pointOf 0 = .ok (.iload_n 1, 1) := by decide +kernel
theorem dX10_pointOf_1 : decode cX10_pointOf 1 = .ok (.iconst 1, 1) := by decide +kernel
theorem dX10_pointOf_2 : decode cX10_pointOf 2 = .ok (.iadd, 1) := by decide +kernel
theorem dX10_pointOf_3 : decode cX10_pointOf 3 = .ok (.istore_n 2, 1) := by decide +kernel
theorem dX10_pointOf_4 : decode cX10_pointOf 4 = .ok (.aload_n 0, 1) := by decide +kernel
theorem dX10_pointOf_5 : decode cX10_pointOf 5 = .ok (.getfield 94, 3) := by decide +kernel
theorem dX10_pointOf_8 : decode cX10_pointOf 8 = .ok (.iconst 0, 1) := by decide +kernel
theorem dX10_pointOf_9 : decode cX10_pointOf 9 = .ok (.iaload, 1) := by decide +kernel
theorem dX10_pointOf_10 : decode cX10_pointOf 10 = .ok (.aload_n 0, 1) := by decide +kernel
theorem dX10_pointOf_11 : decode cX10_pointOf 11 = .ok (.getfield 94, 3) := by decide +kernel
theorem dX10_pointOf_14 : decode cX10_pointOf 14 = .ok (.iconst 1, 1) := by decide +kernel
theorem dX10_pointOf_15 : decode cX10_pointOf 15 = .ok (.iaload, 1) := by decide +kernel
theorem dX10_pointOf_16 : decode cX10_pointOf 16 = .ok (.iload_n 2, 1) := by decide +kernel
theorem dX10_pointOf_17 : decode cX10_pointOf 17 = .ok (.imul, 1) := by decide +kernel
theorem dX10_pointOf_18 : decode cX10_pointOf 18 = .ok (.iadd, 1) := by decide +kernel
theorem dX10_pointOf_19 : decode cX10_pointOf 19 = .ok (.aload_n 0, 1) := by decide +kernel
theorem dX10_pointOf_20 : decode cX10_pointOf 20 = .ok (.getfield 94, 3) := by decide +kernel
theorem dX10_pointOf_23 : decode cX10_pointOf 23 = .ok (.iconst 2, 1) := by decide +kernel
theorem dX10_pointOf_24 : decode cX10_pointOf 24 = .ok (.iaload, 1) := by decide +kernel
theorem dX10_pointOf_25 : decode cX10_pointOf 25 = .ok (.iload_n 2, 1) := by decide +kernel
theorem dX10_pointOf_26 : decode cX10_pointOf 26 = .ok (.imul, 1) := by decide +kernel
theorem dX10_pointOf_27 : decode cX10_pointOf 27 = .ok (.iload_n 2, 1) := by decide +kernel
theorem dX10_pointOf_28 : decode cX10_pointOf 28 = .ok (.imul, 1) := by decide +kernel
theorem dX10_pointOf_29 : decode cX10_pointOf 29 = .ok (.iadd, 1) := by decide +kernel
theorem dX10_pointOf_30 : decode cX10_pointOf 30 = .ok (.aload_n 0, 1) := by decide +kernel
theorem dX10_pointOf_31 : decode cX10_pointOf 31 = .ok (.getfield 97, 3) := by decide +kernel
theorem dX10_pointOf_34 : decode cX10_pointOf 34 = .ok (.iload_n 1, 1) := by decide +kernel
theorem dX10_pointOf_35 : decode cX10_pointOf 35 = .ok (.iaload, 1) := by decide +kernel
theorem dX10_pointOf_36 : decode cX10_pointOf 36 = .ok (.iadd, 1) := by decide +kernel
theorem dX10_pointOf_37 : decode cX10_pointOf 37 = .ok (.aload_n 0, 1) := by decide +kernel
theorem dX10_pointOf_38 : decode cX10_pointOf 38 = .ok (.getfield 85, 3) := by decide +kernel
theorem dX10_pointOf_41 : decode cX10_pointOf 41 = .ok (.irem, 1) := by decide +kernel
theorem dX10_pointOf_42 : decode cX10_pointOf 42 = .ok (.ireturn, 1) := by decide +kernel
set_option maxRecDepth 20000 in
theorem ggX10_isPoint_X10_in : GoodIn wsX10_isPoint wsX10_in := goodIn_r _ [5] (by decide +kernel) (by decide +kernel)
set_option maxRecDepth 20000 in
theorem gX10_isPoint_X10_in : GoodIn wsX10_isPoint (va_wsS RX10 117 yX10_in wsX10_in) := goodIn_app (goodIn_of _ (by decide +kernel)) ggX10_isPoint_X10_in
theorem dX10_isPoint_0 : decode cX10_isPoint 0 = .ok (.iload_n 1, 1) := by decide +kernel
theorem dX10_isPoint_1 : decode cX10_isPoint 1 = .ok (.i2l, 1) := by decide +kernel
theorem dX10_isPoint_2 : decode cX10_isPoint 2 = .ok (.lconst 0, 1) := by decide +kernel
theorem dX10_isPoint_3 : decode cX10_isPoint 3 = .ok (.aload_n 0, 1) := by decide +kernel
theorem dX10_isPoint_4 : decode cX10_isPoint 4 = .ok (.getfield 91, 3) := by decide +kernel
theorem dX10_isPoint_7 : decode cX10_isPoint 7 = .ok (.iconst 1, 1) := by decide +kernel
theorem dX10_isPoint_8 : decode cX10_isPoint 8 = .ok (.isub, 1) := by decide +kernel
theorem dX10_isPoint_9 : decode cX10_isPoint 9 = .ok (.i2l, 1) := by decide +kernel
theorem dX10_isPoint_10 : decode cX10_isPoint 10 = .ok (.invokestatic 117, 3) := by decide +kernel
theorem dX10_isPoint_13 : decode cX10_isPoint 13 = .ok (.ireturn, 1) := by decide +kernel
set_option maxRecDepth 20000 in
theorem ggX10_point_X10_isPoint : GoodIn wsX10_point wsX10_isPoint := goodIn_r _ [5, 6, 7, 8, 4, 9, 17, 18, 19, 20, 21, 22, 23, 24, 25, 26, 27, 28, 29, 30, 31, 32, 33, 34, 35, 36, 37, 38, 39, 40, 41, 42, 43, 44, 45, 46, 47, 48, 49, 50, 51, 52, 53, 54, 55, 56, 57, 58, 59, 60, 61, 62, 63] (by decide +kernel) (by decide +kernel)
set_option maxRecDepth 20000 in
theorem gX10_point_X10_isPoint : GoodIn wsX10_point (wsV RX10 267 RX10 yX10_isPoint wsX10_isPoint) := goodIn_app (goodIn_of _ (by decide +kernel)) ggX10_point_X10_isPoint
set_option maxRecDepth 20000 in
theorem ggX10_point_X10_pointOf : GoodIn wsX10_point wsX10_pointOf := goodIn_r _ [13, 14, 15, 16, 17, 18, 19, 20, 21, 22, 23, 24, 25, 26, 27, 28, 29, 30, 31, 32, 33, 34, 35, 36, 37, 38, 39, 40, 41, 42, 43, 44, 45, 46, 47, 48, 49, 50, 51, 52, 53, 54, 55, 56, 57, 58, 59, 60, 61, 62, 63] (by decide +kernel) (by decide +kernel)
set_option maxRecDepth 20000 in
theorem gX10_point_X10_pointOf : GoodIn wsX10_point (wsV RX10 270 RX10 yX10_pointOf wsX10_pointOf) := goodIn_app (goodIn_of _ (by decide +kernel)) ggX10_point_X10_pointOf
theorem dX10_point_0 : decode cX10_point 0 = .ok (.aload_n 0, 1) := by decide +kernel
theorem dX10_point_1 : decode cX10_point 1 = .ok (.iload_n 1, 1) := by decide +kernel
theorem dX10_point_2 : decode cX10_point 2 = .ok (.invokevirtual 267, 3) := by decide +kernel
theorem dX10_point_5 : decode cX10_point 5 = .ok (.ifCond .eq 11, 3) := by decide +kernel
theorem dX10_point_8 : decode cX10_point 8 = .ok (.aload_n 0, 1) := by decide +kernel
theorem dX10_point_9 : decode cX10_point 9 = .ok (.iload_n 1, 1) := by decide +kernel
theorem dX10_point_10 : decode cX10_point 10 = .ok (.invokevirtual 270, 3) := by decide +kernel
theorem dX10_point_13 : decode cX10_point 13 = .ok (.goto 4, 3) := by decide +kernel
theorem dX10_point_16 : decode cX10_point 16 = .ok (.iconst (-1), 1) := by decide +kernel
theorem dX10_point_17 : decode cX10_point 17 = .ok (.ireturn, 1) := by decide +kernel
set_option maxRecDepth 20000 in
theorem ggX10_bend_X10_isPoint : GoodIn wsX10_bend wsX10_isPoint := goodIn_r _ [7, 8, 9, 10, 6, 11, 12, 13, 14, 15, 16, 17, 18, 19, 20, 21, 22, 23, 24, 25, 26, 27, 28, 29, 30, 31, 32, 33, 34, 35, 36, 37, 38, 39, 40, 41, 42, 43, 44, 45, 46, 47, 48, 49, 50, 51, 52, 53, 54, 55, 56, 57, 58] (by decide +kernel) (by decide +kernel)
set_option maxRecDepth 20000 in
theorem gX10_bend_X10_isPoint : GoodIn wsX10_bend (wsV RX10 267 RX10 yX10_isPoint wsX10_isPoint) := goodIn_app (goodIn_of _ (by decide +kernel)) ggX10_bend_X10_isPoint
set_option maxRecDepth 20000 in
theorem ggX10_bend_X10_in : GoodIn wsX10_bend wsX10_in := goodIn_r _ [11] (by decide +kernel) (by decide +kernel)
set_option maxRecDepth 20000 in
theorem gX10_bend_X10_in : GoodIn wsX10_bend (va_wsS RX10 117 yX10_in wsX10_in) := goodIn_app (goodIn_of _ (by decide +kernel)) ggX10_bend_X10_in
theorem dX10_bend_0 : decode cX10_bend 0 = .ok (.aload_n 0, 1) := by decide +kernel
theorem dX10_bend_1 : decode cX10_bend 1 = .ok (.iload_n 1, 1) := by decide +kernel
theorem dX10_bend_2 : decode cX10_bend 2 = .ok (.invokevirtual 267, 3) := by decide +kernel
theorem dX10_bend_5 : decode cX10_bend 5 = .ok (.ifCond .eq 19, 3) := by decide +kernel
theorem dX10_bend_8 : decode cX10_bend 8 = .ok (.iload_n 2, 1) := by decide +kernel
theorem dX10_bend_9 : decode cX10_bend 9 = .ok (.i2l, 1) := by decide +kernel
theorem dX10_bend_10 : decode cX10_bend 10 = .ok (.lconst 0, 1) := by decide +kernel
theorem dX10_bend_11 : decode cX10_bend 11 = .ok (.aload_n 0, 1) := by decide +kernel
theorem dX10_bend_12 : decode cX10_bend 12 = .ok (.getfield 85, 3) := by decide +kernel
theorem dX10_bend_15 : decode cX10_bend 15 = .ok (.iconst 1, 1) := by decide +kernel
theorem dX10_bend_16 : decode cX10_bend 16 = .ok (.isub, 1) := by decide +kernel
theorem dX10_bend_17 : decode cX10_bend 17 = .ok (.i2l, 1) := by decide +kernel
theorem dX10_bend_18 : decode cX10_bend 18 = .ok (.invokestatic 117, 3) := by decide +kernel
theorem dX10_bend_21 : decode cX10_bend 21 = .ok (.ifCond .ne 5, 3) := by decide +kernel
theorem dX10_bend_24 : decode cX10_bend 24 = .ok (.iconst (-1), 1) := by decide +kernel
theorem dX10_bend_25 : decode cX10_bend 25 = .ok (.ireturn, 1) := by decide +kernel
theorem dX10_bend_26 : decode cX10_bend 26 = .ok (.aload_n 0, 1) := by decide +kernel
theorem dX10_bend_27 : decode cX10_bend 27 = .ok (.getfield 97, 3) := by decide +kernel
theorem dX10_bend_30 : decode cX10_bend 30 = .ok (.iload_n 1, 1) := by decide +kernel
theorem dX10_bend_31 : decode cX10_bend 31 = .ok (.iaload, 1) := by decide +kernel
theorem dX10_bend_32 : decode cX10_bend 32 = .ok (.istore_n 3, 1) := by decide +kernel
theorem dX10_bend_33 : decode cX10_bend 33 = .ok (.aload_n 0, 1) := by decide +kernel
theorem dX10_bend_34 : decode cX10_bend 34 = .ok (.getfield 97, 3) := by decide +kernel
theorem dX10_bend_37 : decode cX10_bend 37 = .ok (.iload_n 1, 1) := by decide +kernel
theorem dX10_bend_38 : decode cX10_bend 38 = .ok (.iload_n 2, 1) := by decide +kernel
theorem dX10_bend_39 : decode cX10_bend 39 = .ok (.iastore, 1) := by decide +kernel
theorem dX10_bend_40 : decode cX10_bend 40 = .ok (.iload_n 3, 1) := by decide +kernel
theorem dX10_bend_41 : decode cX10_bend 41 = .ok (.ireturn, 1) := by decide +kernel
set_option maxRecDepth 20000 in
theorem ggX10_opened_X10_bitsIn : GoodIn wsX10_opened wsX10_bitsIn := goodIn_r _ [7] (by decide +kernel) (by decide +kernel)
set_option maxRecDepth 20000 in
theorem gX10_opened_X10_bitsIn : GoodIn wsX10_opened (va_wsS RX10 251 yX10_bitsIn wsX10_bitsIn) := goodIn_app (goodIn_of _ (by decide +kernel)) ggX10_opened_X10_bitsIn
theorem dX10_opened_0 : decode cX10_opened 0 = .ok (.iconst 1, 1) := by decide +kernel
theorem dX10_opened_1 : decode cX10_opened 1 = .ok (.istore 4, 2) := by decide +kernel
theorem dX10_opened_3 : decode cX10_opened 3 = .ok (.iconst 0, 1) := by decide +kernel
theorem dX10_opened_4 : decode cX10_opened 4 = .ok (.istore 5, 2) := by decide +kernel
theorem dX10_opened_6 : decode cX10_opened 6 = .ok (.iload 5, 2) := by decide +kernel
theorem dX10_opened_8 : decode cX10_opened 8 = .ok (.iload_n 2, 1) := by decide +kernel
theorem dX10_opened_9 : decode cX10_opened 9 = .ok (.if_icmp .gt 18, 3) := by decide +kernel
theorem dX10_opened_12 : decode cX10_opened 12 = .ok (.iload 4, 2) := by decide +kernel
theorem dX10_opened_14 : decode cX10_opened 14 = .ok (.aload_n 0, 1) := by decide +kernel
theorem dX10_opened_15 : decode cX10_opened 15 = .ok (.getfield 85, 3) := by decide +kernel
theorem dX10_opened_18 : decode cX10_opened 18 = .ok (.imul, 1) := by decide +kernel
theorem dX10_opened_19 : decode cX10_opened 19 = .ok (.istore 4, 2) := by decide +kernel
theorem dX10_opened_21 : decode cX10_opened 21 = .ok (.iinc 5 1, 3) := by decide +kernel
theorem dX10_opened_24 : decode cX10_opened 24 = .ok (.goto (-18), 3) := by decide +kernel
theorem dX10_opened_27 : decode cX10_opened 27 = .ok (.iconst (-1), 1) := by decide +kernel
theorem dX10_opened_28 : decode cX10_opened 28 = .ok (.istore 5, 2) := by decide +kernel
theorem dX10_opened_30 : decode cX10_opened 30 = .ok (.iconst 0, 1) := by decide +kernel
theorem dX10_opened_31 : decode cX10_opened 31 = .ok (.istore 6, 2) := by decide +kernel
theorem dX10_opened_33 : decode cX10_opened 33 = .ok (.iconst 0, 1) := by decide +kernel
theorem dX10_opened_34 : decode cX10_opened 34 = .ok (.istore 7, 2) := by decide +kernel
theorem dX10_opened_36 : decode cX10_opened 36 = .ok (.iconst 0, 1) := by decide +kernel
theorem dX10_opened_37 : decode cX10_opened 37 = .ok (.istore 8, 2) := by decide +kernel
theorem dX10_opened_39 : decode cX10_opened 39 = .ok (.iconst 0, 1) := by decide +kernel
theorem dX10_opened_40 : decode cX10_opened 40 = .ok (.istore 9, 2) := by decide +kernel
theorem dX10_opened_42 : decode cX10_opened 42 = .ok (.iload 9, 2) := by decide +kernel
theorem dX10_opened_44 : decode cX10_opened 44 = .ok (.iload 4, 2) := by decide +kernel
theorem dX10_opened_46 : decode cX10_opened 46 = .ok (.if_icmp .ge 179, 3) := by decide +kernel
theorem dX10_opened_49 : decode cX10_opened 49 = .ok (.iconst 0, 1) := by decide +kernel
theorem dX10_opened_50 : decode cX10_opened 50 = .ok (.istore 10, 2) := by decide +kernel
theorem dX10_opened_52 : decode cX10_opened 52 = .ok (.iconst 0, 1) := by decide +kernel
theorem dX10_opened_53 : decode cX10_opened 53 = .ok (.istore 11, 2) := by decide +kernel
theorem dX10_opened_55 : decode cX10_opened 55 = .ok (.iconst 0, 1) := by decide +kernel
theorem dX10_opened_56 : decode cX10_opened 56 = .ok (.istore 12, 2) := by decide +kernel
theorem dX10_opened_58 : decode cX10_opened 58 = .ok (.iload 12, 2) := by decide +kernel
theorem dX10_opened_60 : decode cX10_opened 60 = .ok (.aload_n 0, 1) := by decide +kernel
theorem dX10_opened_61 : decode cX10_opened 61 = .ok (.getfield 91, 3) := by decide +kernel
theorem dX10_opened_64 : decode cX10_opened 64 = .ok (.if_icmp .ge 111, 3) := by decide +kernel
theorem dX10_opened_67 : decode cX10_opened 67 = .ok (.iload_n 1, 1) := by decide +kernel
theorem dX10_opened_68 : decode cX10_opened 68 = .ok (.iload 12, 2) := by decide +kernel
theorem dX10_opened_70 : decode cX10_opened 70 = .ok (.ishr, 1) := by decide +kernel
theorem dX10_opened_71 : decode cX10_opened 71 = .ok (.iconst 1, 1) := by decide +kernel
theorem dX10_opened_72 : decode cX10_opened 72 = .ok (.iand, 1) := by decide +kernel
theorem dX10_opened_73 : decode cX10_opened 73 = .ok (.iconst 1, 1) := by decide +kernel
theorem dX10_opened_74 : decode cX10_opened 74 = .ok (.if_icmp .ne 95, 3) := by decide +kernel
theorem dX10_opened_77 : decode cX10_opened 77 = .ok (.iload 9, 2) := by decide +kernel
theorem dX10_opened_79 : decode cX10_opened 79 = .ok (.istore 13, 2) := by decide +kernel
theorem dX10_opened_81 : decode cX10_opened 81 = .ok (.iconst 1, 1) := by decide +kernel
theorem dX10_opened_82 : decode cX10_opened 82 = .ok (.istore 14, 2) := by decide +kernel
theorem dX10_opened_84 : decode cX10_opened 84 = .ok (.iconst 0, 1) := by decide +kernel
theorem dX10_opened_85 : decode cX10_opened 85 = .ok (.istore 15, 2) := by decide +kernel
theorem dX10_opened_87 : decode cX10_opened 87 = .ok (.iconst 0, 1) := by decide +kernel
theorem dX10_opened_88 : decode cX10_opened 88 = .ok (.istore 16, 2) := by decide +kernel
theorem dX10_opened_90 : decode cX10_opened 90 = .ok (.iload 16, 2) := by decide +kernel
theorem dX10_opened_92 : decode cX10_opened 92 = .ok (.iload_n 2, 1) := by decide +kernel
theorem dX10_opened_93 : decode cX10_opened 93 = .ok (.if_icmp .gt 47, 3) := by decide +kernel
theorem dX10_opened_96 : decode cX10_opened 96 = .ok (.iload 15, 2) := by decide +kernel
theorem dX10_opened_98 : decode cX10_opened 98 = .ok (.iload 13, 2) := by decide +kernel
theorem dX10_opened_100 : decode cX10_opened 100 = .ok (.aload_n 0, 1) := by decide +kernel
theorem dX10_opened_101 : decode cX10_opened 101 = .ok (.getfield 85, 3) := by decide +kernel
theorem dX10_opened_104 : decode cX10_opened 104 = .ok (.irem, 1) := by decide +kernel
theorem dX10_opened_105 : decode cX10_opened 105 = .ok (.iload 14, 2) := by decide +kernel
theorem dX10_opened_107 : decode cX10_opened 107 = .ok (.imul, 1) := by decide +kernel
theorem dX10_opened_108 : decode cX10_opened 108 = .ok (.iadd, 1) := by decide +kernel
theorem dX10_opened_109 : decode cX10_opened 109 = .ok (.istore 15, 2) := by decide +kernel
theorem dX10_opened_111 : decode cX10_opened 111 = .ok (.iload 13, 2) := by decide +kernel
theorem dX10_opened_113 : decode cX10_opened 113 = .ok (.aload_n 0, 1) := by decide +kernel
theorem dX10_opened_114 : decode cX10_opened 114 = .ok (.getfield 85, 3) := by decide +kernel
theorem dX10_opened_117 : decode cX10_opened 117 = .ok (.idiv, 1) := by decide +kernel
theorem dX10_opened_118 : decode cX10_opened 118 = .ok (.istore 13, 2) := by decide +kernel
theorem dX10_opened_120 : decode cX10_opened 120 = .ok (.iload 14, 2) := by decide +kernel
theorem dX10_opened_122 : decode cX10_opened 122 = .ok (.iload 12, 2) := by decide +kernel
theorem dX10_opened_124 : decode cX10_opened 124 = .ok (.iconst 1, 1) := by decide +kernel
theorem dX10_opened_125 : decode cX10_opened 125 = .ok (.iadd, 1) := by decide +kernel
theorem dX10_opened_126 : decode cX10_opened 126 = .ok (.imul, 1) := by decide +kernel
theorem dX10_opened_127 : decode cX10_opened 127 = .ok (.aload_n 0, 1) := by decide +kernel
theorem dX10_opened_128 : decode cX10_opened 128 = .ok (.getfield 85, 3) := by decide +kernel
theorem dX10_opened_131 : decode cX10_opened 131 = .ok (.irem, 1) := by decide +kernel
theorem dX10_opened_132 : decode cX10_opened 132 = .ok (.istore 14, 2) := by decide +kernel
theorem dX10_opened_134 : decode cX10_opened 134 = .ok (.iinc 16 1, 3) := by decide +kernel
theorem dX10_opened_137 : decode cX10_opened 137 = .ok (.goto (-47), 3) := by decide +kernel
theorem dX10_opened_140 : decode cX10_opened 140 = .ok (.iload 15, 2) := by decide +kernel
theorem dX10_opened_142 : decode cX10_opened 142 = .ok (.aload_n 0, 1) := by decide +kernel
theorem dX10_opened_143 : decode cX10_opened 143 = .ok (.getfield 85, 3) := by decide +kernel
theorem dX10_opened_146 : decode cX10_opened 146 = .ok (.irem, 1) := by decide +kernel
theorem dX10_opened_147 : decode cX10_opened 147 = .ok (.aload_n 0, 1) := by decide +kernel
theorem dX10_opened_148 : decode cX10_opened 148 = .ok (.getfield 109, 3) := by decide +kernel
theorem dX10_opened_151 : decode cX10_opened 151 = .ok (.iload 12, 2) := by decide +kernel
theorem dX10_opened_153 : decode cX10_opened 153 = .ok (.iaload, 1) := by decide +kernel
theorem dX10_opened_154 : decode cX10_opened 154 = .ok (.if_icmp .ne 15, 3) := by decide +kernel
theorem dX10_opened_157 : decode cX10_opened 157 = .ok (.iload 10, 2) := by decide +kernel
theorem dX10_opened_159 : decode cX10_opened 159 = .ok (.iconst 1, 1) := by decide +kernel
theorem dX10_opened_160 : decode cX10_opened 160 = .ok (.iload 12, 2) := by decide +kernel
theorem dX10_opened_162 : decode cX10_opened 162 = .ok (.ishl, 1) := by decide +kernel
theorem dX10_opened_163 : decode cX10_opened 163 = .ok (.ior, 1) := by decide +kernel
theorem dX10_opened_164 : decode cX10_opened 164 = .ok (.istore 10, 2) := by decide +kernel
theorem dX10_opened_166 : decode cX10_opened 166 = .ok (.iinc 11 1, 3) := by decide +kernel
theorem dX10_opened_169 : decode cX10_opened 169 = .ok (.iinc 12 1, 3) := by decide +kernel
theorem dX10_opened_172 : decode cX10_opened 172 = .ok (.goto (-114), 3) := by decide +kernel
theorem dX10_opened_175 : decode cX10_opened 175 = .ok (.iload 11, 2) := by decide +kernel
theorem dX10_opened_177 : decode cX10_opened 177 = .ok (.iload 5, 2) := by decide +kernel
theorem dX10_opened_179 : decode cX10_opened 179 = .ok (.if_icmp .le 23, 3) := by decide +kernel
theorem dX10_opened_182 : decode cX10_opened 182 = .ok (.iload 11, 2) := by decide +kernel
theorem dX10_opened_184 : decode cX10_opened 184 = .ok (.istore 5, 2) := by decide +kernel
theorem dX10_opened_186 : decode cX10_opened 186 = .ok (.iconst 0, 1) := by decide +kernel
theorem dX10_opened_187 : decode cX10_opened 187 = .ok (.istore 6, 2) := by decide +kernel
theorem dX10_opened_189 : decode cX10_opened 189 = .ok (.iload 9, 2) := by decide +kernel
theorem dX10_opened_191 : decode cX10_opened 191 = .ok (.aload_n 0, 1) := by decide +kernel
theorem dX10_opened_192 : decode cX10_opened 192 = .ok (.getfield 85, 3) := by decide +kernel
theorem dX10_opened_195 : decode cX10_opened 195 = .ok (.irem, 1) := by decide +kernel
theorem dX10_opened_196 : decode cX10_opened 196 = .ok (.istore 7, 2) := by decide +kernel
theorem dX10_opened_198 : decode cX10_opened 198 = .ok (.iload 10, 2) := by decide +kernel
theorem dX10_opened_200 : decode cX10_opened 200 = .ok (.istore 8, 2) := by decide +kernel
theorem dX10_opened_202 : decode cX10_opened 202 = .ok (.iload 6, 2) := by decide +kernel
theorem dX10_opened_204 : decode cX10_opened 204 = .ok (.iload 11, 2) := by decide +kernel
theorem dX10_opened_206 : decode cX10_opened 206 = .ok (.iload 5, 2) := by decide +kernel
theorem dX10_opened_208 : decode cX10_opened 208 = .ok (.if_icmp .ne 7, 3) := by decide +kernel
theorem dX10_opened_211 : decode cX10_opened 211 = .ok (.iconst 1, 1) := by decide +kernel
theorem dX10_opened_212 : decode cX10_opened 212 = .ok (.goto 4, 3) := by decide +kernel
theorem dX10_opened_215 : decode cX10_opened 215 = .ok (.iconst 0, 1) := by decide +kernel
theorem dX10_opened_216 : decode cX10_opened 216 = .ok (.iadd, 1) := by decide +kernel
theorem dX10_opened_217 : decode cX10_opened 217 = .ok (.istore 6, 2) := by decide +kernel
theorem dX10_opened_219 : decode cX10_opened 219 = .ok (.iinc 9 1, 3) := by decide +kernel
theorem dX10_opened_222 : decode cX10_opened 222 = .ok (.goto (-180), 3) := by decide +kernel
theorem dX10_opened_225 : decode cX10_opened 225 = .ok (.iload 6, 2) := by decide +kernel
theorem dX10_opened_227 : decode cX10_opened 227 = .ok (.iconst 1, 1) := by decide +kernel
theorem dX10_opened_228 : decode cX10_opened 228 = .ok (.if_icmp .ne 22, 3) := by decide +kernel
theorem dX10_opened_231 : decode cX10_opened 231 = .ok (.iconst 2, 1) := by decide +kernel
theorem dX10_opened_232 : decode cX10_opened 232 = .ok (.iload 5, 2) := by decide +kernel
theorem dX10_opened_234 : decode cX10_opened 234 = .ok (.iload_n 2, 1) := by decide +kernel
theorem dX10_opened_235 : decode cX10_opened 235 = .ok (.isub, 1) := by decide +kernel
theorem dX10_opened_236 : decode cX10_opened 236 = .ok (.imul, 1) := by decide +kernel
theorem dX10_opened_237 : decode cX10_opened 237 = .ok (.iload_n 1, 1) := by decide +kernel
theorem dX10_opened_238 : decode cX10_opened 238 = .ok (.invokestatic 251, 3) := by decide +kernel
theorem dX10_opened_241 : decode cX10_opened 241 = .ok (.iload_n 2, 1) := by decide +kernel
theorem dX10_opened_242 : decode cX10_opened 242 = .ok (.isub, 1) := by decide +kernel
theorem dX10_opened_243 : decode cX10_opened 243 = .ok (.if_icmp .le 7, 3) := by decide +kernel
theorem dX10_opened_246 : decode cX10_opened 246 = .ok (.iconst 1, 1) := by decide +kernel
theorem dX10_opened_247 : decode cX10_opened 247 = .ok (.goto 4, 3) := by decide +kernel
theorem dX10_opened_250 : decode cX10_opened 250 = .ok (.iconst 0, 1) := by decide +kernel
theorem dX10_opened_251 : decode cX10_opened 251 = .ok (.istore 9, 2) := by decide +kernel
theorem dX10_opened_253 : decode cX10_opened 253 = .ok (.iload 9, 2) := by decide +kernel
theorem dX10_opened_255 : decode cX10_opened 255 = .ok (.ifCond .ne 8, 3) := by decide +kernel
theorem dX10_opened_258 : decode cX10_opened 258 = .ok (.bipush (-9), 2) := by decide +kernel
theorem dX10_opened_260 : decode cX10_opened 260 = .ok (.goto 18, 3) := by decide +kernel
theorem dX10_opened_263 : decode cX10_opened 263 = .ok (.iload_n 3, 1) := by decide +kernel
theorem dX10_opened_264 : decode cX10_opened 264 = .ok (.ifCond .ne 8, 3) := by decide +kernel
theorem dX10_opened_267 : decode cX10_opened 267 = .ok (.iload 7, 2) := by decide +kernel
theorem dX10_opened_269 : decode cX10_opened 269 = .ok (.goto 9, 3) := by decide +kernel
theorem dX10_opened_272 : decode cX10_opened 272 = .ok (.iload_n 1, 1) := by decide +kernel
theorem dX10_opened_273 : decode cX10_opened 273 = .ok (.iload 8, 2) := by decide +kernel
theorem dX10_opened_275 : decode cX10_opened 275 = .ok (.iconst (-1), 1) := by decide +kernel
theorem dX10_opened_276 : decode cX10_opened 276 = .ok (.ixor, 1) := by decide +kernel
theorem dX10_opened_277 : decode cX10_opened 277 = .ok (.iand, 1) := by decide +kernel
theorem dX10_opened_278 : decode cX10_opened 278 = .ok (.ireturn, 1) := by decide +kernel
set_option maxRecDepth 20000 in
theorem ggX10_isSet_X10_in : GoodIn wsX10_isSet wsX10_in := goodIn_r _ [5] (by decide +kernel) (by decide +kernel)
set_option maxRecDepth 20000 in
theorem gX10_isSet_X10_in : GoodIn wsX10_isSet (va_wsS RX10 117 yX10_in wsX10_in) := goodIn_app (goodIn_of _ (by decide +kernel)) ggX10_isSet_X10_in
theorem dX10_isSet_0 : decode cX10_isSet 0 = .ok (.iload_n 1, 1) := by decide +kernel
theorem dX10_isSet_1 : decode cX10_isSet 1 = .ok (.i2l, 1) := by decide +kernel
theorem dX10_isSet_2 : decode cX10_isSet 2 = .ok (.lconst 0, 1) := by decide +kernel
theorem dX10_isSet_3 : decode cX10_isSet 3 = .ok (.iconst 1, 1) := by decide +kernel
theorem dX10_isSet_4 : decode cX10_isSet 4 = .ok (.aload_n 0, 1) := by decide +kernel
theorem dX10_isSet_5 : decode cX10_isSet 5 = .ok (.getfield 91, 3) := by decide +kernel
theorem dX10_isSet_8 : decode cX10_isSet 8 = .ok (.ishl, 1) := by decide +kernel
theorem dX10_isSet_9 : decode cX10_isSet 9 = .ok (.iconst 1, 1) := by decide +kernel
theorem dX10_isSet_10 : decode cX10_isSet 10 = .ok (.isub, 1) := by decide +kernel
theorem dX10_isSet_11 : decode cX10_isSet 11 = .ok (.i2l, 1) := by decide +kernel
theorem dX10_isSet_12 : decode cX10_isSet 12 = .ok (.invokestatic 117, 3) := by decide +kernel
theorem dX10_isSet_15 : decode cX10_isSet 15 = .ok (.ireturn, 1) := by decide +kernel
set_option maxRecDepth 20000 in
theorem ggX10_open_X10_isSet : GoodIn wsX10_open wsX10_isSet := goodIn_r _ [8, 1, 9, 10, 7, 11, 26, 27, 28, 29, 30, 31, 32, 33, 34, 35, 36, 37, 38, 39, 40, 41, 42, 43, 44, 45, 46, 47, 48, 49, 50, 51, 52, 53, 54, 55, 56, 57, 58, 59, 60, 61, 62, 63, 64, 65, 66, 67, 68, 69, 70, 71, 72] (by decide +kernel) (by decide +kernel)
set_option maxRecDepth 20000 in
theorem gX10_open_X10_isSet : GoodIn wsX10_open (wsV RX10 273 RX10 yX10_isSet wsX10_isSet) := goodIn_app (goodIn_of _ (by decide +kernel)) ggX10_open_X10_isSet
set_option maxRecDepth 20000 in
theorem ggX10_open_X10_in : GoodIn wsX10_open wsX10_in := goodIn_r _ [11] (by decide +kernel) (by decide +kernel)
set_option maxRecDepth 20000 in
theorem gX10_open_X10_in : GoodIn wsX10_open (va_wsS RX10 117 yX10_in wsX10_in) := goodIn_app (goodIn_of _ (by decide +kernel)) ggX10_open_X10_in
set_option maxRecDepth 20000 in
theorem ggX10_open_X10_pointOf : GoodIn wsX10_open wsX10_pointOf := goodIn_r _ [15, 16, 17, 18, 26, 27, 28, 29, 30, 31, 32, 33, 34, 35, 36, 37, 38, 39, 40, 41, 42, 43, 44, 45, 46, 47, 48, 49, 50, 51, 52, 53, 54, 55, 56, 57, 58, 59, 60, 61, 62, 63, 64, 65, 66, 67, 68, 69, 70, 71, 72] (by decide +kernel) (by decide +kernel)
set_option maxRecDepth 20000 in
theorem gX10_open_X10_pointOf : GoodIn wsX10_open (wsV RX10 270 RX10 yX10_pointOf wsX10_pointOf) := goodIn_app (goodIn_of _ (by decide +kernel)) ggX10_open_X10_pointOf
set_option maxRecDepth 20000 in
theorem ggX10_open_X10_opened : GoodIn wsX10_open wsX10_opened := goodIn_r _ [22, 18, 1, 2, 23, 24, 7, 25, 26, 27, 28, 29, 30, 31, 32, 33, 34, 35, 36, 37, 38, 39, 40, 41, 42, 43, 44, 45, 46, 47, 48, 49, 50, 51, 52, 53, 54, 55, 56, 57, 58, 59, 60, 61, 62, 63, 64, 65, 66, 67, 68, 69, 70, 71, 72] (by decide +kernel) (by decide +kernel)
set_option maxRecDepth 20000 in
theorem gX10_open_X10_opened : GoodIn wsX10_open (wsV RX10 276 RX10 yX10_opened wsX10_opened) := goodIn_app (goodIn_of _ (by decide +kernel)) ggX10_open_X10_opened
theorem dX10_open_0 : decode cX10_open 0 = .ok (.aload_n 0, 1) := by decide +kernel
theorem dX10_open_1 : decode cX10_open 1 = .ok (.iload_n 1, 1) := by decide +kernel
theorem dX10_open_2 : decode cX10_open 2 = .ok (.invokevirtual 273, 3) := by decide +kernel
theorem dX10_open_5 : decode cX10_open 5 = .ok (.ifCond .eq 13, 3) := by decide +kernel
theorem dX10_open_8 : decode cX10_open 8 = .ok (.iload_n 2, 1) := by decide +kernel
theorem dX10_open_9 : decode cX10_open 9 = .ok (.i2l, 1) := by decide +kernel
theorem dX10_open_10 : decode cX10_open 10 = .ok (.lconst 0, 1) := by decide +kernel
theorem dX10_open_11 : decode cX10_open 11 = .ok (.lconst 1, 1) := by decide +kernel
theorem dX10_open_12 : decode cX10_open 12 = .ok (.invokestatic 117, 3) := by decide +kernel
theorem dX10_open_15 : decode cX10_open 15 = .ok (.ifCond .ne 5, 3) := by decide +kernel
theorem dX10_open_18 : decode cX10_open 18 = .ok (.iconst (-1), 1) := by decide +kernel
theorem dX10_open_19 : decode cX10_open 19 = .ok (.ireturn, 1) := by decide +kernel
theorem dX10_open_20 : decode cX10_open 20 = .ok (.iconst 0, 1) := by decide +kernel
theorem dX10_open_21 : decode cX10_open 21 = .ok (.istore_n 3, 1) := by decide +kernel
theorem dX10_open_22 : decode cX10_open 22 = .ok (.iload_n 3, 1) := by decide +kernel
theorem dX10_open_23 : decode cX10_open 23 = .ok (.aload_n 0, 1) := by decide +kernel
theorem dX10_open_24 : decode cX10_open 24 = .ok (.getfield 91, 3) := by decide +kernel
theorem dX10_open_27 : decode cX10_open 27 = .ok (.if_icmp .ge 20, 3) := by decide +kernel
theorem dX10_open_30 : decode cX10_open 30 = .ok (.aload_n 0, 1) := by decide +kernel
theorem dX10_open_31 : decode cX10_open 31 = .ok (.getfield 109, 3) := by decide +kernel
theorem dX10_open_34 : decode cX10_open 34 = .ok (.iload_n 3, 1) := by decide +kernel
theorem dX10_open_35 : decode cX10_open 35 = .ok (.aload_n 0, 1) := by decide +kernel
theorem dX10_open_36 : decode cX10_open 36 = .ok (.iload_n 3, 1) := by decide +kernel
theorem dX10_open_37 : decode cX10_open 37 = .ok (.invokevirtual 270, 3) := by decide +kernel
theorem dX10_open_40 : decode cX10_open 40 = .ok (.iastore, 1) := by decide +kernel
theorem dX10_open_41 : decode cX10_open 41 = .ok (.iinc 3 1, 3) := by decide +kernel
theorem dX10_open_44 : decode cX10_open 44 = .ok (.goto (-22), 3) := by decide +kernel
theorem dX10_open_47 : decode cX10_open 47 = .ok (.aload_n 0, 1) := by decide +kernel
theorem dX10_open_48 : decode cX10_open 48 = .ok (.iload_n 1, 1) := by decide +kernel
theorem dX10_open_49 : decode cX10_open 49 = .ok (.aload_n 0, 1) := by decide +kernel
theorem dX10_open_50 : decode cX10_open 50 = .ok (.getfield 88, 3) := by decide +kernel
theorem dX10_open_53 : decode cX10_open 53 = .ok (.iload_n 2, 1) := by decide +kernel
theorem dX10_open_54 : decode cX10_open 54 = .ok (.invokevirtual 276, 3) := by decide +kernel
theorem dX10_open_57 : decode cX10_open 57 = .ok (.ireturn, 1) := by decide +kernel
set_option maxRecDepth 20000 in
theorem ggX10_product_X10_isSet : GoodIn wsX10_product wsX10_isSet := goodIn_r _ [9, 2, 10, 11, 8, 12, 26, 27, 28, 29, 30, 31, 32, 33, 34, 35, 36, 37, 38, 39, 40, 41, 42, 43, 44, 45, 46, 47, 48, 49, 50, 51, 52, 53, 54, 55, 56, 57, 58, 59, 60, 61, 62, 63, 64, 65, 66, 67, 68, 69, 70, 71, 72] (by decide +kernel) (by decide +kernel)
set_option maxRecDepth 20000 in
theorem gX10_product_X10_isSet : GoodIn wsX10_product (wsV RX10 273 RX10 yX10_isSet wsX10_isSet) := goodIn_app (goodIn_of _ (by decide +kernel)) ggX10_product_X10_isSet
set_option maxRecDepth 20000 in
theorem ggX10_product_X10_in : GoodIn wsX10_product wsX10_in := goodIn_r _ [12] (by decide +kernel) (by decide +kernel)
set_option maxRecDepth 20000 in
theorem gX10_product_X10_in : GoodIn wsX10_product (va_wsS RX10 117 yX10_in wsX10_in) := goodIn_app (goodIn_of _ (by decide +kernel)) ggX10_product_X10_in
set_option maxRecDepth 20000 in
theorem ggX10_product_X10_bitsIn : GoodIn wsX10_product wsX10_bitsIn := goodIn_r _ [15] (by decide +kernel) (by decide +kernel)
set_option maxRecDepth 20000 in
theorem gX10_product_X10_bitsIn : GoodIn wsX10_product (va_wsS RX10 251 yX10_bitsIn wsX10_bitsIn) := goodIn_app (goodIn_of _ (by decide +kernel)) ggX10_product_X10_bitsIn
set_option maxRecDepth 20000 in
theorem ggX10_product_X10_pointOf : GoodIn wsX10_product wsX10_pointOf := goodIn_r _ [19, 20, 21, 4, 26, 27, 28, 29, 30, 31, 32, 33, 34, 35, 36, 37, 38, 39, 40, 41, 42, 43, 44, 45, 46, 47, 48, 49, 50, 51, 52, 53, 54, 55, 56, 57, 58, 59, 60, 61, 62, 63, 64, 65, 66, 67, 68, 69, 70, 71, 72] (by decide +kernel) (by decide +kernel)
set_option maxRecDepth 20000 in
theorem gX10_product_X10_pointOf : GoodIn wsX10_product (wsV RX10 270 RX10 yX10_pointOf wsX10_pointOf) := goodIn_app (goodIn_of _ (by decide +kernel)) ggX10_product_X10_pointOf
set_option maxRecDepth 20000 in
theorem ggX10_product_X10_opened : GoodIn wsX10_product wsX10_opened := goodIn_r _ [25, 4, 2, 3, 13, 14, 8, 15, 26, 27, 28, 29, 30, 31, 32, 33, 34, 35, 36, 37, 38, 39, 40, 41, 42, 43, 44, 45, 46, 47, 48, 49, 50, 51, 52, 53, 54, 55, 56, 57, 58, 59, 60, 61, 62, 63, 64, 65, 66, 67, 68, 69, 70, 71, 72] (by decide +kernel) (by decide +kernel)
set_option maxRecDepth 20000 in
theorem gX10_product_X10_opened : GoodIn wsX10_product (wsV RX10 276 RX10 yX10_opened wsX10_opened) := goodIn_app (goodIn_of _ (by decide +kernel)) ggX10_product_X10_opened
theorem dX10_product_0 : decode cX10_product 0 = .ok (.aload_n 0, 1) := by decide +kernel
theorem dX10_product_1 : decode cX10_product 1 = .ok (.iload_n 1, 1) := by decide +kernel
theorem dX10_product_2 : decode cX10_product 2 = .ok (.invokevirtual 273, 3) := by decide +kernel
theorem dX10_product_5 : decode cX10_product 5 = .ok (.ifCond .eq 13, 3) := by decide +kernel
theorem dX10_product_8 : decode cX10_product 8 = .ok (.iload_n 2, 1) := by decide +kernel
theorem dX10_product_9 : decode cX10_product 9 = .ok (.i2l, 1) := by decide +kernel
theorem dX10_product_10 : decode cX10_product 10 = .ok (.lconst 0, 1) := by decide +kernel
theorem dX10_product_11 : decode cX10_product 11 = .ok (.lconst 1, 1) := by decide +kernel
theorem dX10_product_12 : decode cX10_product 12 = .ok (.invokestatic 117, 3) := by decide +kernel
theorem dX10_product_15 : decode cX10_product 15 = .ok (.ifCond .ne 5, 3) := by decide +kernel
theorem dX10_product_18 : decode cX10_product 18 = .ok (.iconst (-1), 1) := by decide +kernel
theorem dX10_product_19 : decode cX10_product 19 = .ok (.ireturn, 1) := by decide +kernel
theorem dX10_product_20 : decode cX10_product 20 = .ok (.iload_n 1, 1) := by decide +kernel
theorem dX10_product_21 : decode cX10_product 21 = .ok (.invokestatic 251, 3) := by decide +kernel
theorem dX10_product_24 : decode cX10_product 24 = .ok (.iconst 2, 1) := by decide +kernel
theorem dX10_product_25 : decode cX10_product 25 = .ok (.aload_n 0, 1) := by decide +kernel
theorem dX10_product_26 : decode cX10_product 26 = .ok (.getfield 88, 3) := by decide +kernel
theorem dX10_product_29 : decode cX10_product 29 = .ok (.imul, 1) := by decide +kernel
theorem dX10_product_30 : decode cX10_product 30 = .ok (.if_icmp .gt 6, 3) := by decide +kernel
theorem dX10_product_33 : decode cX10_product 33 = .ok (.bipush (-2), 2) := by decide +kernel
theorem dX10_product_35 : decode cX10_product 35 = .ok (.ireturn, 1) := by decide +kernel
theorem dX10_product_36 : decode cX10_product 36 = .ok (.iconst 0, 1) := by decide +kernel
theorem dX10_product_37 : decode cX10_product 37 = .ok (.istore_n 3, 1) := by decide +kernel
theorem dX10_product_38 : decode cX10_product 38 = .ok (.iload_n 3, 1) := by decide +kernel
theorem dX10_product_39 : decode cX10_product 39 = .ok (.aload_n 0, 1) := by decide +kernel
theorem dX10_product_40 : decode cX10_product 40 = .ok (.getfield 91, 3) := by decide +kernel
theorem dX10_product_43 : decode cX10_product 43 = .ok (.if_icmp .ge 31, 3) := by decide +kernel
theorem dX10_product_46 : decode cX10_product 46 = .ok (.aload_n 0, 1) := by decide +kernel
theorem dX10_product_47 : decode cX10_product 47 = .ok (.getfield 109, 3) := by decide +kernel
theorem dX10_product_50 : decode cX10_product 50 = .ok (.iload_n 3, 1) := by decide +kernel
theorem dX10_product_51 : decode cX10_product 51 = .ok (.aload_n 0, 1) := by decide +kernel
theorem dX10_product_52 : decode cX10_product 52 = .ok (.iload_n 3, 1) := by decide +kernel
theorem dX10_product_53 : decode cX10_product 53 = .ok (.invokevirtual 270, 3) := by decide +kernel
theorem dX10_product_56 : decode cX10_product 56 = .ok (.aload_n 0, 1) := by decide +kernel
theorem dX10_product_57 : decode cX10_product 57 = .ok (.iload_n 3, 1) := by decide +kernel
theorem dX10_product_58 : decode cX10_product 58 = .ok (.invokevirtual 270, 3) := by decide +kernel
theorem dX10_product_61 : decode cX10_product 61 = .ok (.imul, 1) := by decide +kernel
theorem dX10_product_62 : decode cX10_product 62 = .ok (.aload_n 0, 1) := by decide +kernel
theorem dX10_product_63 : decode cX10_product 63 = .ok (.getfield 85, 3) := by decide +kernel
theorem dX10_product_66 : decode cX10_product 66 = .ok (.irem, 1) := by decide +kernel
theorem dX10_product_67 : decode cX10_product 67 = .ok (.iastore, 1) := by decide +kernel
theorem dX10_product_68 : decode cX10_product 68 = .ok (.iinc 3 1, 3) := by decide +kernel
theorem dX10_product_71 : decode cX10_product 71 = .ok (.goto (-33), 3) := by decide +kernel
theorem dX10_product_74 : decode cX10_product 74 = .ok (.aload_n 0, 1) := by decide +kernel
theorem dX10_product_75 : decode cX10_product 75 = .ok (.iload_n 1, 1) := by decide +kernel
theorem dX10_product_76 : decode cX10_product 76 = .ok (.iconst 2, 1) := by decide +kernel
theorem dX10_product_77 : decode cX10_product 77 = .ok (.aload_n 0, 1) := by decide +kernel
theorem dX10_product_78 : decode cX10_product 78 = .ok (.getfield 88, 3) := by decide +kernel
theorem dX10_product_81 : decode cX10_product 81 = .ok (.imul, 1) := by decide +kernel
theorem dX10_product_82 : decode cX10_product 82 = .ok (.iload_n 2, 1) := by decide +kernel
theorem dX10_product_83 : decode cX10_product 83 = .ok (.invokevirtual 276, 3) := by decide +kernel
theorem dX10_product_86 : decode cX10_product 86 = .ok (.ireturn, 1) := by decide +kernel
set_option maxRecDepth 20000 in
theorem ggX10_month_X10_in : GoodIn wsX10_month wsX10_in := goodIn_r _ [6] (by decide +kernel) (by decide +kernel)
set_option maxRecDepth 20000 in
theorem gX10_month_X10_in : GoodIn wsX10_month (va_wsS RX10 117 yX10_in wsX10_in) := goodIn_app (goodIn_of _ (by decide +kernel)) ggX10_month_X10_in
theorem dX10_month_0 : decode cX10_month 0 = .ok (.iload_n 1, 1) := by decide +kernel
theorem dX10_month_1 : decode cX10_month 1 = .ok (.i2l, 1) := by decide +kernel
theorem dX10_month_2 : decode cX10_month 2 = .ok (.lconst 0, 1) := by decide +kernel
theorem dX10_month_3 : decode cX10_month 3 = .ok (.lconst 1, 1) := by decide +kernel
theorem dX10_month_4 : decode cX10_month 4 = .ok (.invokestatic 117, 3) := by decide +kernel
theorem dX10_month_7 : decode cX10_month 7 = .ok (.ifCond .ne 5, 3) := by decide +kernel
theorem dX10_month_10 : decode cX10_month 10 = .ok (.iconst (-1), 1) := by decide +kernel
theorem dX10_month_11 : decode cX10_month 11 = .ok (.ireturn, 1) := by decide +kernel
theorem dX10_month_12 : decode cX10_month 12 = .ok (.aload_n 0, 1) := by decide +kernel
theorem dX10_month_13 : decode cX10_month 13 = .ok (.getfield 261, 3) := by decide +kernel
theorem dX10_month_16 : decode cX10_month 16 = .ok (.bipush 29, 2) := by decide +kernel
theorem dX10_month_18 : decode cX10_month 18 = .ok (.if_icmp .ne 6, 3) := by decide +kernel
theorem dX10_month_21 : decode cX10_month 21 = .ok (.bipush (-3), 2) := by decide +kernel
theorem dX10_month_23 : decode cX10_month 23 = .ok (.ireturn, 1) := by decide +kernel
theorem dX10_month_24 : decode cX10_month 24 = .ok (.aload_n 0, 1) := by decide +kernel
theorem dX10_month_25 : decode cX10_month 25 = .ok (.dup, 1) := by decide +kernel
theorem dX10_month_26 : decode cX10_month 26 = .ok (.getfield 261, 3) := by decide +kernel
theorem dX10_month_29 : decode cX10_month 29 = .ok (.iconst 1, 1) := by decide +kernel
theorem dX10_month_30 : decode cX10_month 30 = .ok (.iadd, 1) := by decide +kernel
theorem dX10_month_31 : decode cX10_month 31 = .ok (.putfield 261, 3) := by decide +kernel
theorem dX10_month_34 : decode cX10_month 34 = .ok (.aload_n 0, 1) := by decide +kernel
theorem dX10_month_35 : decode cX10_month 35 = .ok (.getfield 100, 3) := by decide +kernel
theorem dX10_month_38 : decode cX10_month 38 = .ok (.aload_n 0, 1) := by decide +kernel
theorem dX10_month_39 : decode cX10_month 39 = .ok (.getfield 261, 3) := by decide +kernel
theorem dX10_month_42 : decode cX10_month 42 = .ok (.iload_n 1, 1) := by decide +kernel
theorem dX10_month_43 : decode cX10_month 43 = .ok (.iastore, 1) := by decide +kernel
theorem dX10_month_44 : decode cX10_month 44 = .ok (.aload_n 0, 1) := by decide +kernel
theorem dX10_month_45 : decode cX10_month 45 = .ok (.getfield 261, 3) := by decide +kernel
theorem dX10_month_48 : decode cX10_month 48 = .ok (.ireturn, 1) := by decide +kernel
set_option maxRecDepth 20000 in
theorem ggX10_steal_X10_isPoint : GoodIn wsX10_steal wsX10_isPoint := goodIn_r _ [9, 10, 11, 12, 8, 13, 14, 15, 16, 17, 18, 19, 20, 21, 22, 23, 24, 25, 26, 27, 28, 29, 30, 31, 32, 33, 34, 35, 36, 37, 38, 39, 40, 41, 42, 43, 44, 45, 46, 47, 48, 49, 50, 51, 52, 53, 54, 55, 56, 57, 58, 59, 60] (by decide +kernel) (by decide +kernel)
set_option maxRecDepth 20000 in
theorem gX10_steal_X10_isPoint : GoodIn wsX10_steal (wsV RX10 267 RX10 yX10_isPoint wsX10_isPoint) := goodIn_app (goodIn_of _ (by decide +kernel)) ggX10_steal_X10_isPoint
theorem dX10_steal_0 : decode cX10_steal 0 = .ok (.aload_n 0, 1) := by decide +kernel
theorem dX10_steal_1 : decode cX10_steal 1 = .ok (.iload_n 1, 1) := by decide +kernel
theorem dX10_steal_2 : decode cX10_steal 2 = .ok (.invokevirtual 267, 3) := by decide +kernel
theorem dX10_steal_5 : decode cX10_steal 5 = .ok (.ifCond .ne 5, 3) := by decide +kernel
theorem dX10_steal_8 : decode cX10_steal 8 = .ok (.iconst (-1), 1) := by decide +kernel
theorem dX10_steal_9 : decode cX10_steal 9 = .ok (.ireturn, 1) := by decide +kernel
theorem dX10_steal_10 : decode cX10_steal 10 = .ok (.aload_n 0, 1) := by decide +kernel
theorem dX10_steal_11 : decode cX10_steal 11 = .ok (.getfield 264, 3) := by decide +kernel
theorem dX10_steal_14 : decode cX10_steal 14 = .ok (.bipush 30, 2) := by decide +kernel
theorem dX10_steal_16 : decode cX10_steal 16 = .ok (.if_icmp .ne 6, 3) := by decide +kernel
theorem dX10_steal_19 : decode cX10_steal 19 = .ok (.bipush (-3), 2) := by decide +kernel
theorem dX10_steal_21 : decode cX10_steal 21 = .ok (.ireturn, 1) := by decide +kernel
theorem dX10_steal_22 : decode cX10_steal 22 = .ok (.aload_n 0, 1) := by decide +kernel
theorem dX10_steal_23 : decode cX10_steal 23 = .ok (.getfield 103, 3) := by decide +kernel
theorem dX10_steal_26 : decode cX10_steal 26 = .ok (.aload_n 0, 1) := by decide +kernel
theorem dX10_steal_27 : decode cX10_steal 27 = .ok (.getfield 264, 3) := by decide +kernel
theorem dX10_steal_30 : decode cX10_steal 30 = .ok (.iload_n 1, 1) := by decide +kernel
theorem dX10_steal_31 : decode cX10_steal 31 = .ok (.iastore, 1) := by decide +kernel
theorem dX10_steal_32 : decode cX10_steal 32 = .ok (.aload_n 0, 1) := by decide +kernel
theorem dX10_steal_33 : decode cX10_steal 33 = .ok (.getfield 106, 3) := by decide +kernel
theorem dX10_steal_36 : decode cX10_steal 36 = .ok (.aload_n 0, 1) := by decide +kernel
theorem dX10_steal_37 : decode cX10_steal 37 = .ok (.getfield 264, 3) := by decide +kernel
theorem dX10_steal_40 : decode cX10_steal 40 = .ok (.aload_n 0, 1) := by decide +kernel
theorem dX10_steal_41 : decode cX10_steal 41 = .ok (.getfield 261, 3) := by decide +kernel
theorem dX10_steal_44 : decode cX10_steal 44 = .ok (.iastore, 1) := by decide +kernel
theorem dX10_steal_45 : decode cX10_steal 45 = .ok (.aload_n 0, 1) := by decide +kernel
theorem dX10_steal_46 : decode cX10_steal 46 = .ok (.dup, 1) := by decide +kernel
theorem dX10_steal_47 : decode cX10_steal 47 = .ok (.getfield 264, 3) := by decide +kernel
theorem dX10_steal_50 : decode cX10_steal 50 = .ok (.iconst 1, 1) := by decide +kernel
theorem dX10_steal_51 : decode cX10_steal 51 = .ok (.iadd, 1) := by decide +kernel
theorem dX10_steal_52 : decode cX10_steal 52 = .ok (.putfield 264, 3) := by decide +kernel
theorem dX10_steal_55 : decode cX10_steal 55 = .ok (.aload_n 0, 1) := by decide +kernel
theorem dX10_steal_56 : decode cX10_steal 56 = .ok (.getfield 264, 3) := by decide +kernel
theorem dX10_steal_59 : decode cX10_steal 59 = .ok (.ireturn, 1) := by decide +kernel
set_option maxRecDepth 20000 in
theorem ggX10_known_X10_in : GoodIn wsX10_known wsX10_in := goodIn_r _ [10] (by decide +kernel) (by decide +kernel)
set_option maxRecDepth 20000 in
theorem gX10_known_X10_in : GoodIn wsX10_known (va_wsS RX10 117 yX10_in wsX10_in) := goodIn_app (goodIn_of _ (by decide +kernel)) ggX10_known_X10_in
set_option maxRecDepth 20000 in
theorem ggX10_known_X10_bitsIn : GoodIn wsX10_known wsX10_bitsIn := goodIn_r _ [13] (by decide +kernel) (by decide +kernel)
set_option maxRecDepth 20000 in
theorem gX10_known_X10_bitsIn : GoodIn wsX10_known (va_wsS RX10 251 yX10_bitsIn wsX10_bitsIn) := goodIn_app (goodIn_of _ (by decide +kernel)) ggX10_known_X10_bitsIn
theorem dX10_known_0 : decode cX10_known 0 = .ok (.iload_n 1, 1) := by decide +kernel
theorem dX10_known_1 : decode cX10_known 1 = .ok (.i2l, 1) := by decide +kernel
theorem dX10_known_2 : decode cX10_known 2 = .ok (.lconst 0, 1) := by decide +kernel
theorem dX10_known_3 : decode cX10_known 3 = .ok (.lconst 1, 1) := by decide +kernel
theorem dX10_known_4 : decode cX10_known 4 = .ok (.invokestatic 117, 3) := by decide +kernel
theorem dX10_known_7 : decode cX10_known 7 = .ok (.ifCond .ne 5, 3) := by decide +kernel
theorem dX10_known_10 : decode cX10_known 10 = .ok (.iconst (-1), 1) := by decide +kernel
theorem dX10_known_11 : decode cX10_known 11 = .ok (.ireturn, 1) := by decide +kernel
theorem dX10_known_12 : decode cX10_known 12 = .ok (.iconst 0, 1) := by decide +kernel
theorem dX10_known_13 : decode cX10_known 13 = .ok (.istore_n 2, 1) := by decide +kernel
theorem dX10_known_14 : decode cX10_known 14 = .ok (.iconst 0, 1) := by decide +kernel
theorem dX10_known_15 : decode cX10_known 15 = .ok (.istore_n 3, 1) := by decide +kernel
theorem dX10_known_16 : decode cX10_known 16 = .ok (.iconst 0, 1) := by decide +kernel
theorem dX10_known_17 : decode cX10_known 17 = .ok (.istore 4, 2) := by decide +kernel
theorem dX10_known_19 : decode cX10_known 19 = .ok (.iload 4, 2) := by decide +kernel
theorem dX10_known_21 : decode cX10_known 21 = .ok (.aload_n 0, 1) := by decide +kernel
theorem dX10_known_22 : decode cX10_known 22 = .ok (.getfield 261, 3) := by decide +kernel
theorem dX10_known_25 : decode cX10_known 25 = .ok (.if_icmp .gt 98, 3) := by decide +kernel
theorem dX10_known_28 : decode cX10_known 28 = .ok (.iload 4, 2) := by decide +kernel
theorem dX10_known_30 : decode cX10_known 30 = .ok (.ifCond .le 18, 3) := by decide +kernel
theorem dX10_known_33 : decode cX10_known 33 = .ok (.aload_n 0, 1) := by decide +kernel
theorem dX10_known_34 : decode cX10_known 34 = .ok (.getfield 100, 3) := by decide +kernel
theorem dX10_known_37 : decode cX10_known 37 = .ok (.iload 4, 2) := by decide +kernel
theorem dX10_known_39 : decode cX10_known 39 = .ok (.iaload, 1) := by decide +kernel
theorem dX10_known_40 : decode cX10_known 40 = .ok (.iconst 1, 1) := by decide +kernel
theorem dX10_known_41 : decode cX10_known 41 = .ok (.if_icmp .ne 7, 3) := by decide +kernel
theorem dX10_known_44 : decode cX10_known 44 = .ok (.iconst 0, 1) := by decide +kernel
theorem dX10_known_45 : decode cX10_known 45 = .ok (.goto 4, 3) := by decide +kernel
theorem dX10_known_48 : decode cX10_known 48 = .ok (.iload_n 2, 1) := by decide +kernel
theorem dX10_known_49 : decode cX10_known 49 = .ok (.istore_n 2, 1) := by decide +kernel
theorem dX10_known_50 : decode cX10_known 50 = .ok (.iconst 0, 1) := by decide +kernel
theorem dX10_known_51 : decode cX10_known 51 = .ok (.istore 5, 2) := by decide +kernel
theorem dX10_known_53 : decode cX10_known 53 = .ok (.iload 5, 2) := by decide +kernel
theorem dX10_known_55 : decode cX10_known 55 = .ok (.aload_n 0, 1) := by decide +kernel
theorem dX10_known_56 : decode cX10_known 56 = .ok (.getfield 264, 3) := by decide +kernel
theorem dX10_known_59 : decode cX10_known 59 = .ok (.if_icmp .ge 37, 3) := by decide +kernel
theorem dX10_known_62 : decode cX10_known 62 = .ok (.iload_n 2, 1) := by decide +kernel
theorem dX10_known_63 : decode cX10_known 63 = .ok (.aload_n 0, 1) := by decide +kernel
theorem dX10_known_64 : decode cX10_known 64 = .ok (.getfield 106, 3) := by decide +kernel
theorem dX10_known_67 : decode cX10_known 67 = .ok (.iload 5, 2) := by decide +kernel
theorem dX10_known_69 : decode cX10_known 69 = .ok (.iaload, 1) := by decide +kernel
theorem dX10_known_70 : decode cX10_known 70 = .ok (.iload 4, 2) := by decide +kernel
theorem dX10_known_72 : decode cX10_known 72 = .ok (.if_icmp .ne 15, 3) := by decide +kernel
theorem dX10_known_75 : decode cX10_known 75 = .ok (.iconst 1, 1) := by decide +kernel
theorem dX10_known_76 : decode cX10_known 76 = .ok (.aload_n 0, 1) := by decide +kernel
theorem dX10_known_77 : decode cX10_known 77 = .ok (.getfield 103, 3) := by decide +kernel
theorem dX10_known_80 : decode cX10_known 80 = .ok (.iload 5, 2) := by decide +kernel
theorem dX10_known_82 : decode cX10_known 82 = .ok (.iaload, 1) := by decide +kernel

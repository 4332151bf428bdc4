set_option maxRecDepth 20000 in
theorem wd_0 : Cond.selects RX2 yX2_depthOf yX2_depthOf ∈ lw_tbl := List.mem_of_getElem? (i := 0) rfl
set_option maxRecDepth 20000 in
theorem wd_1 : Cond.selects RX3 yX3_readItem yX3_readItem ∈ lw_tbl := List.mem_of_getElem? (i := 1) rfl
set_option maxRecDepth 20000 in
theorem wd_2 : Cond.selects RX3 yX3_step yX3_step ∈ lw_tbl := List.mem_of_getElem? (i := 2) rfl
set_option maxRecDepth 20000 in
theorem wd_3 : Cond.selects RX3 yX3_readWord yX3_readWord ∈ lw_tbl := List.mem_of_getElem? (i := 3) rfl
set_option maxRecDepth 20000 in
theorem wd_4 : Cond.selects RX3 yX3_readDigits yX3_readDigits ∈ lw_tbl := List.mem_of_getElem? (i := 4) rfl
set_option maxRecDepth 20000 in
theorem wd_5 : Cond.selects RX3 yX3_mayBegin yX3_mayBegin ∈ lw_tbl := List.mem_of_getElem? (i := 5) rfl
set_option maxRecDepth 20000 in
theorem wd_6 : Cond.selects RX3 yX3_readNumber yX3_readNumber ∈ lw_tbl := List.mem_of_getElem? (i := 6) rfl
set_option maxRecDepth 20000 in
theorem wd_7 : Cond.selects RX3 yX3_readUsed yX3_readUsed ∈ lw_tbl := List.mem_of_getElem? (i := 7) rfl
set_option maxRecDepth 20000 in
theorem wd_8 : Cond.selects RX4 yX4_cut yX4_cut ∈ lw_tbl := List.mem_of_getElem? (i := 8) rfl
set_option maxRecDepth 20000 in
theorem wd_9 : Cond.selects RX4 yX4_drawLot yX4_drawLot ∈ lw_tbl := List.mem_of_getElem? (i := 9) rfl
set_option maxRecDepth 20000 in
theorem wd_10 : Cond.selects RX4 yX4_isPlace yX4_isPlace ∈ lw_tbl := List.mem_of_getElem? (i := 10) rfl
set_option maxRecDepth 20000 in
theorem wd_11 : Cond.selects RX4 yX4_look yX4_look ∈ lw_tbl := List.mem_of_getElem? (i := 11) rfl
set_option maxRecDepth 20000 in
theorem wd_12 : Cond.selects RX4 yX4_fix yX4_fix ∈ lw_tbl := List.mem_of_getElem? (i := 12) rfl
set_option maxRecDepth 20000 in
theorem wd_13 : Cond.selects RX4 yX4_join yX4_join ∈ lw_tbl := List.mem_of_getElem? (i := 13) rfl
set_option maxRecDepth 20000 in
theorem wd_14 : Cond.selects RX4 yX4_drawTriple yX4_drawTriple ∈ lw_tbl := List.mem_of_getElem? (i := 14) rfl
set_option maxRecDepth 20000 in
theorem wd_15 : Cond.selects RX4 yX4_showLessTriple yX4_showLessTriple ∈ lw_tbl := List.mem_of_getElem? (i := 15) rfl
set_option maxRecDepth 20000 in
theorem wd_16 : Cond.selects RX4 yX4_multiply yX4_multiply ∈ lw_tbl := List.mem_of_getElem? (i := 16) rfl
set_option maxRecDepth 20000 in
theorem wd_17 : Cond.selects RX4 yX4_showAll yX4_showAll ∈ lw_tbl := List.mem_of_getElem? (i := 17) rfl
set_option maxRecDepth 20000 in
theorem wd_18 : Cond.selects RX5 yX5_slotOf yX5_slotOf ∈ lw_tbl := List.mem_of_getElem? (i := 18) rfl
set_option maxRecDepth 20000 in
theorem wd_19 : Cond.selects RX5 yX5_slotAt yX5_slotAt ∈ lw_tbl := List.mem_of_getElem? (i := 19) rfl
set_option maxRecDepth 20000 in
theorem wd_20 : Cond.selects RX5 yX5_putSlot yX5_putSlot ∈ lw_tbl := List.mem_of_getElem? (i := 20) rfl
set_option maxRecDepth 20000 in
theorem wd_21 : Cond.selects RX5 yX5_turnLots yX5_turnLots ∈ lw_tbl := List.mem_of_getElem? (i := 21) rfl
set_option maxRecDepth 20000 in
theorem wd_22 : Cond.selects RX4 yX4_plainEnd yX4_plainEnd ∈ lw_tbl := List.mem_of_getElem? (i := 22) rfl
set_option maxRecDepth 20000 in
theorem wd_23 : Cond.selects RX4 yX4_clearOthers yX4_clearOthers ∈ lw_tbl := List.mem_of_getElem? (i := 23) rfl
set_option maxRecDepth 20000 in
theorem wd_24 : Cond.selects RX4 yX4_turnOthers yX4_turnOthers ∈ lw_tbl := List.mem_of_getElem? (i := 24) rfl
set_option maxRecDepth 20000 in
theorem wd_25 : Cond.selects RX8 yX8_roundsWith yX8_roundsWith ∈ lw_tbl := List.mem_of_getElem? (i := 25) rfl
set_option maxRecDepth 20000 in
theorem wd_26 : Cond.selects RX0 yX0_agreeing yX0_agreeing ∈ lw_tbl := List.mem_of_getElem? (i := 26) rfl
set_option maxRecDepth 20000 in
theorem wd_27 : Cond.selects RX0 yX0_heightAt yX0_heightAt ∈ lw_tbl := List.mem_of_getElem? (i := 27) rfl
set_option maxRecDepth 20000 in
theorem wd_28 : Cond.selects RX0 yX0_inverse yX0_inverse ∈ lw_tbl := List.mem_of_getElem? (i := 28) rfl
set_option maxRecDepth 20000 in
theorem wd_29 : Cond.selects RX9 yX9_shareWeight yX9_shareWeight ∈ lw_tbl := List.mem_of_getElem? (i := 29) rfl
set_option maxRecDepth 20000 in
theorem wd_30 : Cond.selects RX9 yX9_sumWeight yX9_sumWeight ∈ lw_tbl := List.mem_of_getElem? (i := 30) rfl
set_option maxRecDepth 20000 in
theorem wd_31 : Cond.selects RX9 yX9_curveWeight yX9_curveWeight ∈ lw_tbl := List.mem_of_getElem? (i := 31) rfl
set_option maxRecDepth 20000 in
theorem wd_32 : Cond.selects RX9 yX9_bitWeight yX9_bitWeight ∈ lw_tbl := List.mem_of_getElem? (i := 32) rfl
set_option maxRecDepth 20000 in
theorem wd_33 : Cond.selects RX9 yX9_sealedWeight yX9_sealedWeight ∈ lw_tbl := List.mem_of_getElem? (i := 33) rfl
set_option maxRecDepth 20000 in
theorem wd_34 : Cond.selects RX9 yX9_openedWeight yX9_openedWeight ∈ lw_tbl := List.mem_of_getElem? (i := 34) rfl
set_option maxRecDepth 20000 in
theorem wd_35 : Cond.selects RX10 yX10_next yX10_next ∈ lw_tbl := List.mem_of_getElem? (i := 35) rfl
set_option maxRecDepth 20000 in
theorem wd_36 : Cond.selects RX10 yX10_here yX10_here ∈ lw_tbl := List.mem_of_getElem? (i := 36) rfl
set_option maxRecDepth 20000 in
theorem wd_37 : Cond.selects RX10 yX10_word yX10_word ∈ lw_tbl := List.mem_of_getElem? (i := 37) rfl
set_option maxRecDepth 20000 in
theorem wd_38 : Cond.selects RX10 yX10_isSpelled yX10_isSpelled ∈ lw_tbl := List.mem_of_getElem? (i := 38) rfl
set_option maxRecDepth 20000 in
theorem wd_39 : Cond.selects RX10 yX10_due yX10_due ∈ lw_tbl := List.mem_of_getElem? (i := 39) rfl
set_option maxRecDepth 20000 in
theorem wd_40 : Cond.selects RX10 yX10_letter yX10_letter ∈ lw_tbl := List.mem_of_getElem? (i := 40) rfl
set_option maxRecDepth 20000 in
theorem wd_41 : Cond.selects RX10 yX10_isItem yX10_isItem ∈ lw_tbl := List.mem_of_getElem? (i := 41) rfl
set_option maxRecDepth 20000 in
theorem wd_42 : Cond.selects RX10 yX10_findDeep yX10_findDeep ∈ lw_tbl := List.mem_of_getElem? (i := 42) rfl
set_option maxRecDepth 20000 in
theorem wd_43 : Cond.selects RX10 yX10_countOf yX10_countOf ∈ lw_tbl := List.mem_of_getElem? (i := 43) rfl
set_option maxRecDepth 20000 in
theorem wd_44 : Cond.selects RX10 yX10_runAsTold yX10_runAsTold ∈ lw_tbl := List.mem_of_getElem? (i := 44) rfl
set_option maxRecDepth 20000 in
theorem wd_45 : Cond.selects RX10 yX10_run yX10_run ∈ lw_tbl := List.mem_of_getElem? (i := 45) rfl
set_option maxRecDepth 20000 in
theorem wd_46 : Cond.selects RX10 yX10_mod yX10_mod ∈ lw_tbl := List.mem_of_getElem? (i := 46) rfl
set_option maxRecDepth 20000 in
theorem wd_47 : Cond.selects RX10 yX10_see yX10_see ∈ lw_tbl := List.mem_of_getElem? (i := 47) rfl
set_option maxRecDepth 20000 in
theorem wd_48 : Cond.selects RX10 yX10_multiply yX10_multiply ∈ lw_tbl := List.mem_of_getElem? (i := 48) rfl
set_option maxRecDepth 20000 in
theorem wd_49 : Cond.selects RX10 yX10_lieOf yX10_lieOf ∈ lw_tbl := List.mem_of_getElem? (i := 49) rfl
set_option maxRecDepth 20000 in
theorem wd_50 : Cond.selects RX10 yX10_lotsTaken yX10_lotsTaken ∈ lw_tbl := List.mem_of_getElem? (i := 50) rfl
set_option maxRecDepth 20000 in
theorem wd_51 : Cond.selects RX10 yX10_power yX10_power ∈ lw_tbl := List.mem_of_getElem? (i := 51) rfl
set_option maxRecDepth 20000 in
theorem wd_52 : Cond.selects RX10 yX10_findRows yX10_findRows ∈ lw_tbl := List.mem_of_getElem? (i := 52) rfl
set_option maxRecDepth 20000 in
theorem wd_53 : Cond.selects RX10 yX10_order yX10_order ∈ lw_tbl := List.mem_of_getElem? (i := 53) rfl
set_option maxRecDepth 20000 in
theorem wd_54 : Cond.selects RX10 yX10_plainEnd yX10_plainEnd ∈ lw_tbl := List.mem_of_getElem? (i := 54) rfl
set_option maxRecDepth 20000 in
theorem wd_55 : Cond.selects RX10 yX10_isPoint yX10_isPoint ∈ lw_tbl := List.mem_of_getElem? (i := 55) rfl
set_option maxRecDepth 20000 in
theorem wd_56 : Cond.selects RX10 yX10_pointOf yX10_pointOf ∈ lw_tbl := List.mem_of_getElem? (i := 56) rfl
set_option maxRecDepth 20000 in
theorem wd_57 : Cond.selects RX10 yX10_isSet yX10_isSet ∈ lw_tbl := List.mem_of_getElem? (i := 57) rfl
set_option maxRecDepth 20000 in
theorem wd_58 : Cond.selects RX10 yX10_opened yX10_opened ∈ lw_tbl := List.mem_of_getElem? (i := 58) rfl
set_option maxRecDepth 20000 in
theorem wd_60 : Cond.initialized RX9 ∈ lw_tbl := List.mem_of_getElem? (i := 60) rfl
set_option maxRecDepth 20000 in
theorem wd_61 : Cond.initialized RX7 ∈ lw_tbl := List.mem_of_getElem? (i := 61) rfl
set_option maxRecDepth 20000 in
theorem wd_62 : Cond.initialized RX6 ∈ lw_tbl := List.mem_of_getElem? (i := 62) rfl
set_option maxRecDepth 20000 in
theorem wd_63 : Cond.initialized RX2 ∈ lw_tbl := List.mem_of_getElem? (i := 63) rfl
set_option maxRecDepth 20000 in
theorem wd_64 : Cond.initialized "java/lang/Math" ∈ lw_tbl := List.mem_of_getElem? (i := 64) rfl
set_option maxRecDepth 20000 in
theorem wd_65 : Cond.initialized RX3 ∈ lw_tbl := List.mem_of_getElem? (i := 65) rfl
set_option maxRecDepth 20000 in
theorem wd_66 : Cond.initialized RX4 ∈ lw_tbl := List.mem_of_getElem? (i := 66) rfl
set_option maxRecDepth 20000 in
theorem wd_67 : Cond.initialized RX8 ∈ lw_tbl := List.mem_of_getElem? (i := 67) rfl
set_option maxRecDepth 20000 in
theorem wd_68 : Cond.initialized RX0 ∈ lw_tbl := List.mem_of_getElem? (i := 68) rfl
set_option maxRecDepth 20000 in
theorem wd_69 : Cond.initialized RX1 ∈ lw_tbl := List.mem_of_getElem? (i := 69) rfl
set_option maxRecDepth 20000 in
theorem wd_70 : Cond.initialized RX5 ∈ lw_tbl := List.mem_of_getElem? (i := 70) rfl
set_option maxRecDepth 20000 in
theorem wd_71 : Cond.initialized RX10 ∈ lw_tbl := List.mem_of_getElem? (i := 71) rfl
set_option maxRecDepth 20000 in
theorem wd_72 : Cond.initialized RJ7 ∈ lw_tbl := List.mem_of_getElem? (i := 72) rfl
set_option maxRecDepth 20000 in
theorem wd_73 : Cond.initialized RJ6 ∈ lw_tbl := List.mem_of_getElem? (i := 73) rfl
set_option maxRecDepth 20000 in
theorem wd_74 : Cond.classLink RL 7 RX9 ∈ lw_tbl := List.mem_of_getElem? (i := 74) rfl
set_option maxRecDepth 20000 in
theorem wd_75 : Cond.instantiable RX9 9 ∈ lw_tbl := List.mem_of_getElem? (i := 75) rfl
set_option maxRecDepth 20000 in
theorem wd_76 : Cond.methodLink RL 9 yX9_init ∈ lw_tbl := List.mem_of_getElem? (i := 76) rfl
set_option maxRecDepth 20000 in
theorem wd_77 : Cond.instanceMethod yX9_init ∈ lw_tbl := List.mem_of_getElem? (i := 77) rfl
set_option maxRecDepth 20000 in
theorem wd_78 : Cond.code yX9_init cX9_init 1 none ∈ lw_tbl := List.mem_of_getElem? (i := 78) rfl
set_option maxRecDepth 20000 in
theorem wd_79 : Cond.methodLink RX9 1 objectInit ∈ lw_tbl := List.mem_of_getElem? (i := 79) rfl
set_option maxRecDepth 20000 in
theorem wd_80 : Cond.instanceMethod objectInit ∈ lw_tbl := List.mem_of_getElem? (i := 80) rfl
set_option maxRecDepth 20000 in
theorem wd_81 : Cond.code objectInit ⟨#[0xb1]⟩ 1 none ∈ lw_tbl := List.mem_of_getElem? (i := 81) rfl
set_option maxRecDepth 20000 in
theorem wd_82 : Cond.classLink RX9 7 RX7 ∈ lw_tbl := List.mem_of_getElem? (i := 82) rfl
set_option maxRecDepth 20000 in
theorem wd_83 : Cond.instantiable RX7 2 ∈ lw_tbl := List.mem_of_getElem? (i := 83) rfl
set_option maxRecDepth 20000 in
theorem wd_85 : Cond.instanceMethod yX7_init ∈ lw_tbl := List.mem_of_getElem? (i := 85) rfl
set_option maxRecDepth 20000 in
theorem wd_86 : Cond.code yX7_init cX7_init 1 none ∈ lw_tbl := List.mem_of_getElem? (i := 86) rfl
set_option maxRecDepth 20000 in
theorem wd_87 : Cond.methodLink RX7 3 objectInit ∈ lw_tbl := List.mem_of_getElem? (i := 87) rfl
set_option maxRecDepth 20000 in
theorem wd_88 : Cond.fieldLink RX7 9 "DustSums$Text" "bytes" "[B" ∈ lw_tbl := List.mem_of_getElem? (i := 88) rfl
set_option maxRecDepth 20000 in
theorem wd_89 : Cond.fieldLink RX7 15 "DustSums$Text" "length" "I" ∈ lw_tbl := List.mem_of_getElem? (i := 89) rfl
set_option maxRecDepth 20000 in
theorem wd_97 : Cond.arrayClass .byte ∈ lw_tbl := List.mem_of_getElem? (i := 97) rfl
set_option maxRecDepth 20000 in
theorem wd_98 : Cond.classLink RX9 16 RX6 ∈ lw_tbl := List.mem_of_getElem? (i := 98) rfl
set_option maxRecDepth 20000 in
theorem wd_99 : Cond.instantiable RX6 6 ∈ lw_tbl := List.mem_of_getElem? (i := 99) rfl
set_option maxRecDepth 20000 in
theorem wd_100 : Cond.methodLink RX9 18 yX6_init ∈ lw_tbl := List.mem_of_getElem? (i := 100) rfl
set_option maxRecDepth 20000 in
theorem wd_101 : Cond.instanceMethod yX6_init ∈ lw_tbl := List.mem_of_getElem? (i := 101) rfl
set_option maxRecDepth 20000 in
theorem wd_102 : Cond.code yX6_init cX6_init 1 none ∈ lw_tbl := List.mem_of_getElem? (i := 102) rfl
set_option maxRecDepth 20000 in
theorem wd_103 : Cond.methodLink RX6 3 objectInit ∈ lw_tbl := List.mem_of_getElem? (i := 103) rfl
set_option maxRecDepth 20000 in
theorem wd_104 : Cond.classLink RX6 9 RX2 ∈ lw_tbl := List.mem_of_getElem? (i := 104) rfl
set_option maxRecDepth 20000 in
theorem wd_105 : Cond.instantiable RX2 6 ∈ lw_tbl := List.mem_of_getElem? (i := 105) rfl
set_option maxRecDepth 20000 in
theorem wd_107 : Cond.instanceMethod yX2_init ∈ lw_tbl := List.mem_of_getElem? (i := 107) rfl
set_option maxRecDepth 20000 in
theorem wd_108 : Cond.code yX2_init cX2_init 1 none ∈ lw_tbl := List.mem_of_getElem? (i := 108) rfl
set_option maxRecDepth 20000 in
theorem wd_109 : Cond.methodLink RX2 3 objectInit ∈ lw_tbl := List.mem_of_getElem? (i := 109) rfl
set_option maxRecDepth 20000 in
theorem wd_110 : Cond.fieldLink RX2 9 "DustSums$Program" "cells" "[I" ∈ lw_tbl := List.mem_of_getElem? (i := 110) rfl
set_option maxRecDepth 20000 in
theorem wd_112 : Cond.fieldLink RX2 15 "DustSums$Program" "depths" "[I" ∈ lw_tbl := List.mem_of_getElem? (i := 112) rfl
set_option maxRecDepth 20000 in
theorem wd_113 : Cond.fieldLink RX2 26 "DustSums$Program" "became" "I" ∈ lw_tbl := List.mem_of_getElem? (i := 113) rfl
set_option maxRecDepth 20000 in
theorem wd_114 : Cond.fieldLink RX2 18 "DustSums$Program" "items" "I" ∈ lw_tbl := List.mem_of_getElem? (i := 114) rfl
set_option maxRecDepth 20000 in
theorem wd_120 : Cond.fieldLink RX2 29 "DustSums$Program" "inputs" "I" ∈ lw_tbl := List.mem_of_getElem? (i := 120) rfl
set_option maxRecDepth 20000 in
theorem wd_125 : Cond.fieldLink RX2 32 "DustSums$Program" "muls" "I" ∈ lw_tbl := List.mem_of_getElem? (i := 125) rfl
set_option maxRecDepth 20000 in
theorem wd_140 : Cond.arrayClass .int ∈ lw_tbl := List.mem_of_getElem? (i := 140) rfl
set_option maxRecDepth 20000 in
theorem wd_141 : Cond.methodLink RX6 32 yX2_take ∈ lw_tbl := List.mem_of_getElem? (i := 141) rfl
set_option maxRecDepth 20000 in
theorem wd_142 : Cond.instanceMethod yX2_take ∈ lw_tbl := List.mem_of_getElem? (i := 142) rfl
set_option maxRecDepth 20000 in
theorem wd_143 : Cond.selects RX2 yX2_take yX2_take ∈ lw_tbl := List.mem_of_getElem? (i := 143) rfl
set_option maxRecDepth 20000 in
theorem wd_144 : Cond.code yX2_take cX2_take 8 none ∈ lw_tbl := List.mem_of_getElem? (i := 144) rfl
set_option maxRecDepth 20000 in
theorem wd_145 : Cond.methodLink RX2 39 yX2_depthOf ∈ lw_tbl := List.mem_of_getElem? (i := 145) rfl
set_option maxRecDepth 20000 in
theorem wd_147 : Cond.instanceMethod yX2_depthOf ∈ lw_tbl := List.mem_of_getElem? (i := 147) rfl
set_option maxRecDepth 20000 in
theorem wd_148 : Cond.code yX2_depthOf cX2_depthOf 5 (some .int) ∈ lw_tbl := List.mem_of_getElem? (i := 148) rfl
set_option maxRecDepth 20000 in
theorem wd_150 : Cond.static yX9_at ∈ lw_tbl := List.mem_of_getElem? (i := 150) rfl
set_option maxRecDepth 20000 in
theorem wd_151 : Cond.code yX9_at cX9_at 2 (some .int) ∈ lw_tbl := List.mem_of_getElem? (i := 151) rfl
set_option maxRecDepth 20000 in
theorem wd_152 : Cond.methodLink RX2 47 Lib.Math.max.name ∈ lw_tbl := List.mem_of_getElem? (i := 152) rfl
set_option maxRecDepth 20000 in
theorem wd_153 : Cond.static Lib.Math.max.name ∈ lw_tbl := List.mem_of_getElem? (i := 153) rfl
set_option maxRecDepth 20000 in
theorem wd_154 : Cond.code Lib.Math.max.name Lib.Math.max.code 2 (some .int) ∈ lw_tbl := List.mem_of_getElem? (i := 154) rfl
set_option maxRecDepth 20000 in
theorem wd_156 : Cond.static yX9_put ∈ lw_tbl := List.mem_of_getElem? (i := 156) rfl
set_option maxRecDepth 20000 in
theorem wd_157 : Cond.code yX9_put cX9_put 3 none ∈ lw_tbl := List.mem_of_getElem? (i := 157) rfl
set_option maxRecDepth 20000 in
theorem wd_158 : Cond.fieldLink RX6 12 "DustSums$Task" "program" "LDustSums$Program;" ∈ lw_tbl := List.mem_of_getElem? (i := 158) rfl
set_option maxRecDepth 20000 in
theorem wd_162 : Cond.fieldLink RX6 18 "DustSums$Task" "inputs" "[I" ∈ lw_tbl := List.mem_of_getElem? (i := 162) rfl
set_option maxRecDepth 20000 in
theorem wd_164 : Cond.fieldLink RX6 22 "DustSums$Task" "lots" "[I" ∈ lw_tbl := List.mem_of_getElem? (i := 164) rfl
set_option maxRecDepth 20000 in
theorem wd_167 : Cond.fieldLink RX6 25 "DustSums$Task" "lies" "[I" ∈ lw_tbl := List.mem_of_getElem? (i := 167) rfl
set_option maxRecDepth 20000 in
theorem wd_169 : Cond.fieldLink RX6 55 "DustSums$Task" "lieCount" "I" ∈ lw_tbl := List.mem_of_getElem? (i := 169) rfl
set_option maxRecDepth 20000 in
theorem wd_171 : Cond.fieldLink RX6 28 "DustSums$Task" "modulus" "I" ∈ lw_tbl := List.mem_of_getElem? (i := 171) rfl
set_option maxRecDepth 20000 in
theorem wd_188 : Cond.classLink RX9 23 RX3 ∈ lw_tbl := List.mem_of_getElem? (i := 188) rfl
set_option maxRecDepth 20000 in
theorem wd_189 : Cond.instantiable RX3 5 ∈ lw_tbl := List.mem_of_getElem? (i := 189) rfl
set_option maxRecDepth 20000 in
theorem wd_191 : Cond.instanceMethod yX3_init ∈ lw_tbl := List.mem_of_getElem? (i := 191) rfl
set_option maxRecDepth 20000 in
theorem wd_192 : Cond.code yX3_init cX3_init 1 none ∈ lw_tbl := List.mem_of_getElem? (i := 192) rfl
set_option maxRecDepth 20000 in
theorem wd_193 : Cond.methodLink RX3 3 objectInit ∈ lw_tbl := List.mem_of_getElem? (i := 193) rfl
set_option maxRecDepth 20000 in
theorem wd_194 : Cond.classLink RX3 9 RX2 ∈ lw_tbl := List.mem_of_getElem? (i := 194) rfl
set_option maxRecDepth 20000 in
theorem wd_196 : Cond.fieldLink RX3 12 "DustSums$Reader" "draft" "LDustSums$Program;" ∈ lw_tbl := List.mem_of_getElem? (i := 196) rfl
set_option maxRecDepth 20000 in
theorem wd_198 : Cond.fieldLink RX3 21 "DustSums$Reader" "next" "I" ∈ lw_tbl := List.mem_of_getElem? (i := 198) rfl
set_option maxRecDepth 20000 in
theorem wd_199 : Cond.fieldLink RX3 29 "DustSums$Reader" "start" "I" ∈ lw_tbl := List.mem_of_getElem? (i := 199) rfl
set_option maxRecDepth 20000 in
theorem wd_200 : Cond.fieldLink RX3 36 "DustSums$Reader" "kind" "I" ∈ lw_tbl := List.mem_of_getElem? (i := 200) rfl
set_option maxRecDepth 20000 in
theorem wd_201 : Cond.fieldLink RX3 39 "DustSums$Reader" "value" "I" ∈ lw_tbl := List.mem_of_getElem? (i := 201) rfl
set_option maxRecDepth 20000 in
theorem wd_213 : Cond.classLink RX9 30 RX4 ∈ lw_tbl := List.mem_of_getElem? (i := 213) rfl
set_option maxRecDepth 20000 in
theorem wd_214 : Cond.instantiable RX4 13 ∈ lw_tbl := List.mem_of_getElem? (i := 214) rfl
set_option maxRecDepth 20000 in
theorem wd_216 : Cond.instanceMethod yX4_init ∈ lw_tbl := List.mem_of_getElem? (i := 216) rfl
set_option maxRecDepth 20000 in
theorem wd_217 : Cond.code yX4_init cX4_init 1 none ∈ lw_tbl := List.mem_of_getElem? (i := 217) rfl
set_option maxRecDepth 20000 in
theorem wd_218 : Cond.methodLink RX4 3 objectInit ∈ lw_tbl := List.mem_of_getElem? (i := 218) rfl
set_option maxRecDepth 20000 in
theorem wd_219 : Cond.fieldLink RX4 9 "DustSums$Run" "shares" "[I" ∈ lw_tbl := List.mem_of_getElem? (i := 219) rfl
set_option maxRecDepth 20000 in
theorem wd_220 : Cond.fieldLink RX4 15 "DustSums$Run" "shown" "[I" ∈ lw_tbl := List.mem_of_getElem? (i := 220) rfl
set_option maxRecDepth 20000 in
theorem wd_222 : Cond.fieldLink RX4 18 "DustSums$Run" "shownOfY" "[I" ∈ lw_tbl := List.mem_of_getElem? (i := 222) rfl
set_option maxRecDepth 20000 in
theorem wd_223 : Cond.fieldLink RX4 21 "DustSums$Run" "triple" "[I" ∈ lw_tbl := List.mem_of_getElem? (i := 223) rfl
set_option maxRecDepth 20000 in
theorem wd_224 : Cond.fieldLink RX4 24 "DustSums$Run" "view" "[I" ∈ lw_tbl := List.mem_of_getElem? (i := 224) rfl
set_option maxRecDepth 20000 in
theorem wd_226 : Cond.fieldLink RX4 27 "DustSums$Run" "trial" "[I" ∈ lw_tbl := List.mem_of_getElem? (i := 226) rfl
set_option maxRecDepth 20000 in
theorem wd_227 : Cond.fieldLink RX4 30 "DustSums$Run" "plain" "[I" ∈ lw_tbl := List.mem_of_getElem? (i := 227) rfl
set_option maxRecDepth 20000 in
theorem wd_228 : Cond.fieldLink RX4 53 "DustSums$Run" "views" "I" ∈ lw_tbl := List.mem_of_getElem? (i := 228) rfl
set_option maxRecDepth 20000 in
theorem wd_230 : Cond.fieldLink RX4 56 "DustSums$Run" "viewAsNumber" "I" ∈ lw_tbl := List.mem_of_getElem? (i := 230) rfl
set_option maxRecDepth 20000 in
theorem wd_232 : Cond.fieldLink RX4 45 "DustSums$Run" "hand" "I" ∈ lw_tbl := List.mem_of_getElem? (i := 232) rfl
set_option maxRecDepth 20000 in
theorem wd_233 : Cond.fieldLink RX4 52 "DustSums$Run" "modulus" "I" ∈ lw_tbl := List.mem_of_getElem? (i := 233) rfl
set_option maxRecDepth 20000 in
theorem wd_234 : Cond.fieldLink RX4 59 "DustSums$Run" "nextLot" "I" ∈ lw_tbl := List.mem_of_getElem? (i := 234) rfl
set_option maxRecDepth 20000 in
theorem wd_235 : Cond.fieldLink RX4 62 "DustSums$Run" "nextInput" "I" ∈ lw_tbl := List.mem_of_getElem? (i := 235) rfl
set_option maxRecDepth 20000 in
theorem wd_263 : Cond.classLink RX9 37 RX8 ∈ lw_tbl := List.mem_of_getElem? (i := 263) rfl
set_option maxRecDepth 20000 in
theorem wd_264 : Cond.instantiable RX8 2 ∈ lw_tbl := List.mem_of_getElem? (i := 264) rfl
set_option maxRecDepth 20000 in
theorem wd_266 : Cond.instanceMethod yX8_init ∈ lw_tbl := List.mem_of_getElem? (i := 266) rfl
set_option maxRecDepth 20000 in
theorem wd_267 : Cond.code yX8_init cX8_init 1 none ∈ lw_tbl := List.mem_of_getElem? (i := 267) rfl
set_option maxRecDepth 20000 in
theorem wd_268 : Cond.methodLink RX8 3 objectInit ∈ lw_tbl := List.mem_of_getElem? (i := 268) rfl
set_option maxRecDepth 20000 in
theorem wd_269 : Cond.fieldLink RX8 9 "DustSums$Trades" "prices" "[I" ∈ lw_tbl := List.mem_of_getElem? (i := 269) rfl
set_option maxRecDepth 20000 in
theorem wd_271 : Cond.fieldLink RX8 15 "DustSums$Trades" "rounds" "[I" ∈ lw_tbl := List.mem_of_getElem? (i := 271) rfl
set_option maxRecDepth 20000 in
theorem wd_277 : Cond.classLink RX9 44 RX0 ∈ lw_tbl := List.mem_of_getElem? (i := 277) rfl
set_option maxRecDepth 20000 in
theorem wd_278 : Cond.instantiable RX0 8 ∈ lw_tbl := List.mem_of_getElem? (i := 278) rfl
set_option maxRecDepth 20000 in
theorem wd_280 : Cond.instanceMethod yX0_init ∈ lw_tbl := List.mem_of_getElem? (i := 280) rfl
set_option maxRecDepth 20000 in
theorem wd_281 : Cond.code yX0_init cX0_init 1 none ∈ lw_tbl := List.mem_of_getElem? (i := 281) rfl
set_option maxRecDepth 20000 in
theorem wd_282 : Cond.methodLink RX0 3 objectInit ∈ lw_tbl := List.mem_of_getElem? (i := 282) rfl
set_option maxRecDepth 20000 in
theorem wd_283 : Cond.fieldLink RX0 11 "DustSums$Curve" "bends" "[I" ∈ lw_tbl := List.mem_of_getElem? (i := 283) rfl
set_option maxRecDepth 20000 in
theorem wd_285 : Cond.fieldLink RX0 15 "DustSums$Curve" "heights" "[I" ∈ lw_tbl := List.mem_of_getElem? (i := 285) rfl
set_option maxRecDepth 20000 in
theorem wd_286 : Cond.fieldLink RX0 18 "DustSums$Curve" "prime" "I" ∈ lw_tbl := List.mem_of_getElem? (i := 286) rfl
set_option maxRecDepth 20000 in
theorem wd_287 : Cond.fieldLink RX0 22 "DustSums$Curve" "degree" "I" ∈ lw_tbl := List.mem_of_getElem? (i := 287) rfl
set_option maxRecDepth 20000 in
theorem wd_289 : Cond.fieldLink RX0 25 "DustSums$Curve" "points" "I" ∈ lw_tbl := List.mem_of_getElem? (i := 289) rfl
set_option maxRecDepth 20000 in
theorem wd_291 : Cond.fieldLink RX0 36 "DustSums$Curve" "secret" "I" ∈ lw_tbl := List.mem_of_getElem? (i := 291) rfl
set_option maxRecDepth 20000 in
theorem wd_292 : Cond.fieldLink RX0 39 "DustSums$Curve" "c1" "I" ∈ lw_tbl := List.mem_of_getElem? (i := 292) rfl
set_option maxRecDepth 20000 in
theorem wd_293 : Cond.fieldLink RX0 42 "DustSums$Curve" "c2" "I" ∈ lw_tbl := List.mem_of_getElem? (i := 293) rfl
set_option maxRecDepth 20000 in
theorem wd_311 : Cond.classLink RX9 51 RX1 ∈ lw_tbl := List.mem_of_getElem? (i := 311) rfl
set_option maxRecDepth 20000 in
theorem wd_312 : Cond.instantiable RX1 4 ∈ lw_tbl := List.mem_of_getElem? (i := 312) rfl
set_option maxRecDepth 20000 in
theorem wd_314 : Cond.instanceMethod yX1_init ∈ lw_tbl := List.mem_of_getElem? (i := 314) rfl
set_option maxRecDepth 20000 in
theorem wd_315 : Cond.code yX1_init cX1_init 1 none ∈ lw_tbl := List.mem_of_getElem? (i := 315) rfl
set_option maxRecDepth 20000 in
theorem wd_316 : Cond.methodLink RX1 1 objectInit ∈ lw_tbl := List.mem_of_getElem? (i := 316) rfl
set_option maxRecDepth 20000 in
theorem wd_317 : Cond.fieldLink RX1 7 "DustSums$Months" "now" "I" ∈ lw_tbl := List.mem_of_getElem? (i := 317) rfl
set_option maxRecDepth 20000 in
theorem wd_319 : Cond.fieldLink RX1 13 "DustSums$Months" "taken" "I" ∈ lw_tbl := List.mem_of_getElem? (i := 319) rfl
set_option maxRecDepth 20000 in
theorem wd_321 : Cond.fieldLink RX1 16 "DustSums$Months" "handsTaken" "I" ∈ lw_tbl := List.mem_of_getElem? (i := 321) rfl
set_option maxRecDepth 20000 in
theorem wd_322 : Cond.fieldLink RX1 19 "DustSums$Months" "secretIsOut" "Z" ∈ lw_tbl := List.mem_of_getElem? (i := 322) rfl
set_option maxRecDepth 20000 in
theorem wd_333 : Cond.classLink RX9 58 RX5 ∈ lw_tbl := List.mem_of_getElem? (i := 333) rfl
set_option maxRecDepth 20000 in
theorem wd_334 : Cond.instantiable RX5 3 ∈ lw_tbl := List.mem_of_getElem? (i := 334) rfl
set_option maxRecDepth 20000 in
theorem wd_336 : Cond.instanceMethod yX5_init ∈ lw_tbl := List.mem_of_getElem? (i := 336) rfl
set_option maxRecDepth 20000 in
theorem wd_337 : Cond.code yX5_init cX5_init 1 none ∈ lw_tbl := List.mem_of_getElem? (i := 337) rfl
set_option maxRecDepth 20000 in
theorem wd_338 : Cond.methodLink RX5 5 objectInit ∈ lw_tbl := List.mem_of_getElem? (i := 338) rfl
set_option maxRecDepth 20000 in
theorem wd_339 : Cond.fieldLink RX5 11 "DustSums$Spy" "slots" "[J" ∈ lw_tbl := List.mem_of_getElem? (i := 339) rfl
set_option maxRecDepth 20000 in
theorem wd_340 : Cond.fieldLink RX5 15 "DustSums$Spy" "lots" "[I" ∈ lw_tbl := List.mem_of_getElem? (i := 340) rfl
set_option maxRecDepth 20000 in
theorem wd_341 : Cond.fieldLink RX5 29 "DustSums$Spy" "unlike" "I" ∈ lw_tbl := List.mem_of_getElem? (i := 341) rfl
set_option maxRecDepth 20000 in
theorem wd_350 : Cond.arrayClass .long ∈ lw_tbl := List.mem_of_getElem? (i := 350) rfl
set_option maxRecDepth 20000 in
theorem wd_351 : Cond.fieldLink RX9 10 "DustSums" "text" "LDustSums$Text;" ∈ lw_tbl := List.mem_of_getElem? (i := 351) rfl
set_option maxRecDepth 20000 in
theorem wd_352 : Cond.fieldLink RX9 19 "DustSums" "task" "LDustSums$Task;" ∈ lw_tbl := List.mem_of_getElem? (i := 352) rfl
set_option maxRecDepth 20000 in
theorem wd_353 : Cond.fieldLink RX9 26 "DustSums" "reader" "LDustSums$Reader;" ∈ lw_tbl := List.mem_of_getElem? (i := 353) rfl
set_option maxRecDepth 20000 in
theorem wd_354 : Cond.fieldLink RX9 33 "DustSums" "run" "LDustSums$Run;" ∈ lw_tbl := List.mem_of_getElem? (i := 354) rfl
set_option maxRecDepth 20000 in
theorem wd_355 : Cond.fieldLink RX9 40 "DustSums" "trades" "LDustSums$Trades;" ∈ lw_tbl := List.mem_of_getElem? (i := 355) rfl
set_option maxRecDepth 20000 in
theorem wd_356 : Cond.fieldLink RX9 47 "DustSums" "curve" "LDustSums$Curve;" ∈ lw_tbl := List.mem_of_getElem? (i := 356) rfl
set_option maxRecDepth 20000 in
theorem wd_357 : Cond.fieldLink RX9 54 "DustSums" "months" "LDustSums$Months;" ∈ lw_tbl := List.mem_of_getElem? (i := 357) rfl
set_option maxRecDepth 20000 in
theorem wd_358 : Cond.fieldLink RX9 61 "DustSums" "spies" "LDustSums$Spy;" ∈ lw_tbl := List.mem_of_getElem? (i := 358) rfl
set_option maxRecDepth 20000 in
theorem wd_359 : Cond.fieldLink RX9 288 "DustSums" "trace" "J" ∈ lw_tbl := List.mem_of_getElem? (i := 359) rfl
set_option maxRecDepth 20000 in
theorem wd_379 : Cond.methodLink RL 15 yX9_type ∈ lw_tbl := List.mem_of_getElem? (i := 379) rfl
set_option maxRecDepth 20000 in
theorem wd_380 : Cond.instanceMethod yX9_type ∈ lw_tbl := List.mem_of_getElem? (i := 380) rfl
set_option maxRecDepth 20000 in
theorem wd_381 : Cond.selects RX9 yX9_type yX9_type ∈ lw_tbl := List.mem_of_getElem? (i := 381) rfl
set_option maxRecDepth 20000 in
theorem wd_382 : Cond.code yX9_type cX9_type 5 (some .int) ∈ lw_tbl := List.mem_of_getElem? (i := 382) rfl
set_option maxRecDepth 20000 in
theorem wd_383 : Cond.methodLink RX9 69 yX7_take ∈ lw_tbl := List.mem_of_getElem? (i := 383) rfl
set_option maxRecDepth 20000 in
theorem wd_384 : Cond.instanceMethod yX7_take ∈ lw_tbl := List.mem_of_getElem? (i := 384) rfl
set_option maxRecDepth 20000 in
theorem wd_385 : Cond.selects RX7 yX7_take yX7_take ∈ lw_tbl := List.mem_of_getElem? (i := 385) rfl
set_option maxRecDepth 20000 in
theorem wd_386 : Cond.code yX7_take cX7_take 2 none ∈ lw_tbl := List.mem_of_getElem? (i := 386) rfl
set_option maxRecDepth 20000 in
theorem wd_387 : Cond.methodLink RL 20 yX9_clear ∈ lw_tbl := List.mem_of_getElem? (i := 387) rfl
set_option maxRecDepth 20000 in
theorem wd_388 : Cond.instanceMethod yX9_clear ∈ lw_tbl := List.mem_of_getElem? (i := 388) rfl
set_option maxRecDepth 20000 in
theorem wd_389 : Cond.selects RX9 yX9_clear yX9_clear ∈ lw_tbl := List.mem_of_getElem? (i := 389) rfl
set_option maxRecDepth 20000 in
theorem wd_390 : Cond.code yX9_clear cX9_clear 2 (some .int) ∈ lw_tbl := List.mem_of_getElem? (i := 390) rfl
set_option maxRecDepth 20000 in
theorem wd_391 : Cond.methodLink RL 25 yX9_program ∈ lw_tbl := List.mem_of_getElem? (i := 391) rfl
set_option maxRecDepth 20000 in
theorem wd_392 : Cond.instanceMethod yX9_program ∈ lw_tbl := List.mem_of_getElem? (i := 392) rfl
set_option maxRecDepth 20000 in
theorem wd_393 : Cond.selects RX9 yX9_program yX9_program ∈ lw_tbl := List.mem_of_getElem? (i := 393) rfl
set_option maxRecDepth 20000 in
theorem wd_394 : Cond.code yX9_program cX9_program 2 (some .int) ∈ lw_tbl := List.mem_of_getElem? (i := 394) rfl
set_option maxRecDepth 20000 in
theorem wd_395 : Cond.methodLink RX9 73 yX3_faultOf ∈ lw_tbl := List.mem_of_getElem? (i := 395) rfl
set_option maxRecDepth 20000 in
theorem wd_396 : Cond.instanceMethod yX3_faultOf ∈ lw_tbl := List.mem_of_getElem? (i := 396) rfl
set_option maxRecDepth 20000 in
theorem wd_397 : Cond.selects RX3 yX3_faultOf yX3_faultOf ∈ lw_tbl := List.mem_of_getElem? (i := 397) rfl
set_option maxRecDepth 20000 in
theorem wd_398 : Cond.code yX3_faultOf cX3_faultOf 4 (some .int) ∈ lw_tbl := List.mem_of_getElem? (i := 398) rfl
set_option maxRecDepth 20000 in
theorem wd_399 : Cond.methodLink RX3 18 yX2_empty ∈ lw_tbl := List.mem_of_getElem? (i := 399) rfl
set_option maxRecDepth 20000 in
theorem wd_400 : Cond.instanceMethod yX2_empty ∈ lw_tbl := List.mem_of_getElem? (i := 400) rfl
set_option maxRecDepth 20000 in
theorem wd_401 : Cond.selects RX2 yX2_empty yX2_empty ∈ lw_tbl := List.mem_of_getElem? (i := 401) rfl
set_option maxRecDepth 20000 in
theorem wd_402 : Cond.code yX2_empty cX2_empty 1 none ∈ lw_tbl := List.mem_of_getElem? (i := 402) rfl
set_option maxRecDepth 20000 in
theorem wd_403 : Cond.methodLink RX3 25 yX3_readItem ∈ lw_tbl := List.mem_of_getElem? (i := 403) rfl
set_option maxRecDepth 20000 in
theorem wd_405 : Cond.instanceMethod yX3_readItem ∈ lw_tbl := List.mem_of_getElem? (i := 405) rfl
set_option maxRecDepth 20000 in
theorem wd_406 : Cond.code yX3_readItem cX3_readItem 7 (some .int) ∈ lw_tbl := List.mem_of_getElem? (i := 406) rfl
set_option maxRecDepth 20000 in
theorem wd_407 : Cond.methodLink RX3 32 yX3_step ∈ lw_tbl := List.mem_of_getElem? (i := 407) rfl
set_option maxRecDepth 20000 in
theorem wd_409 : Cond.instanceMethod yX3_step ∈ lw_tbl := List.mem_of_getElem? (i := 409) rfl
set_option maxRecDepth 20000 in
theorem wd_410 : Cond.code yX3_step cX3_step 3 none ∈ lw_tbl := List.mem_of_getElem? (i := 410) rfl
set_option maxRecDepth 20000 in
theorem wd_411 : Cond.methodLink RX3 74 yX7_byteAt ∈ lw_tbl := List.mem_of_getElem? (i := 411) rfl
set_option maxRecDepth 20000 in
theorem wd_412 : Cond.instanceMethod yX7_byteAt ∈ lw_tbl := List.mem_of_getElem? (i := 412) rfl
set_option maxRecDepth 20000 in
theorem wd_413 : Cond.selects RX7 yX7_byteAt yX7_byteAt ∈ lw_tbl := List.mem_of_getElem? (i := 413) rfl
set_option maxRecDepth 20000 in
theorem wd_414 : Cond.code yX7_byteAt cX7_byteAt 2 (some .int) ∈ lw_tbl := List.mem_of_getElem? (i := 414) rfl
set_option maxRecDepth 20000 in
theorem wd_415 : Cond.methodLink RX3 78 yX3_isSmall ∈ lw_tbl := List.mem_of_getElem? (i := 415) rfl
set_option maxRecDepth 20000 in
theorem wd_416 : Cond.static yX3_isSmall ∈ lw_tbl := List.mem_of_getElem? (i := 416) rfl
set_option maxRecDepth 20000 in
theorem wd_417 : Cond.code yX3_isSmall cX3_isSmall 1 (some .boolean) ∈ lw_tbl := List.mem_of_getElem? (i := 417) rfl
set_option maxRecDepth 20000 in
theorem wd_419 : Cond.static yX9_within ∈ lw_tbl := List.mem_of_getElem? (i := 419) rfl
set_option maxRecDepth 20000 in
theorem wd_420 : Cond.code yX9_within cX9_within 3 (some .boolean) ∈ lw_tbl := List.mem_of_getElem? (i := 420) rfl
set_option maxRecDepth 20000 in
theorem wd_421 : Cond.methodLink RX3 81 yX3_readWord ∈ lw_tbl := List.mem_of_getElem? (i := 421) rfl
set_option maxRecDepth 20000 in
theorem wd_423 : Cond.instanceMethod yX3_readWord ∈ lw_tbl := List.mem_of_getElem? (i := 423) rfl
set_option maxRecDepth 20000 in
theorem wd_424 : Cond.code yX3_readWord cX3_readWord 3 none ∈ lw_tbl := List.mem_of_getElem? (i := 424) rfl
set_option maxRecDepth 20000 in
theorem wd_425 : Cond.methodLink RX3 94 yX3_whatOf ∈ lw_tbl := List.mem_of_getElem? (i := 425) rfl
set_option maxRecDepth 20000 in
theorem wd_426 : Cond.static yX3_whatOf ∈ lw_tbl := List.mem_of_getElem? (i := 426) rfl
set_option maxRecDepth 20000 in
theorem wd_427 : Cond.code yX3_whatOf cX3_whatOf 1 (some .int) ∈ lw_tbl := List.mem_of_getElem? (i := 427) rfl
set_option maxRecDepth 20000 in
theorem wd_428 : Cond.methodLink RX3 84 yX3_isDigit ∈ lw_tbl := List.mem_of_getElem? (i := 428) rfl
set_option maxRecDepth 20000 in
theorem wd_429 : Cond.static yX3_isDigit ∈ lw_tbl := List.mem_of_getElem? (i := 429) rfl
set_option maxRecDepth 20000 in
theorem wd_430 : Cond.code yX3_isDigit cX3_isDigit 1 (some .boolean) ∈ lw_tbl := List.mem_of_getElem? (i := 430) rfl
set_option maxRecDepth 20000 in
theorem wd_431 : Cond.methodLink RX3 87 yX3_readDigits ∈ lw_tbl := List.mem_of_getElem? (i := 431) rfl
set_option maxRecDepth 20000 in
theorem wd_433 : Cond.instanceMethod yX3_readDigits ∈ lw_tbl := List.mem_of_getElem? (i := 433) rfl
set_option maxRecDepth 20000 in
theorem wd_434 : Cond.code yX3_readDigits cX3_readDigits 4 none ∈ lw_tbl := List.mem_of_getElem? (i := 434) rfl
set_option maxRecDepth 20000 in
theorem wd_435 : Cond.methodLink RX3 42 yX3_mayBegin ∈ lw_tbl := List.mem_of_getElem? (i := 435) rfl
set_option maxRecDepth 20000 in
theorem wd_437 : Cond.instanceMethod yX3_mayBegin ∈ lw_tbl := List.mem_of_getElem? (i := 437) rfl
set_option maxRecDepth 20000 in
theorem wd_438 : Cond.code yX3_mayBegin cX3_mayBegin 2 (some .boolean) ∈ lw_tbl := List.mem_of_getElem? (i := 438) rfl
set_option maxRecDepth 20000 in
theorem wd_439 : Cond.methodLink RX3 46 yX2_hasBecome ∈ lw_tbl := List.mem_of_getElem? (i := 439) rfl
set_option maxRecDepth 20000 in
theorem wd_440 : Cond.instanceMethod yX2_hasBecome ∈ lw_tbl := List.mem_of_getElem? (i := 440) rfl
set_option maxRecDepth 20000 in
theorem wd_441 : Cond.selects RX2 yX2_hasBecome yX2_hasBecome ∈ lw_tbl := List.mem_of_getElem? (i := 441) rfl

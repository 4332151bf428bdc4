set_option maxRecDepth 20000 in
theorem wd_1113 : Cond.selects RX10 yX10_end yX10_end ∈ lw_tbl := List.mem_of_getElem? (i := 1113) rfl
set_option maxRecDepth 20000 in
theorem wd_1114 : Cond.code yX10_end cX10_end 1 (some .int) ∈ lw_tbl := List.mem_of_getElem? (i := 1114) rfl
set_option maxRecDepth 20000 in
theorem wd_1115 : Cond.methodLink RX10 227 yX10_runAsTold ∈ lw_tbl := List.mem_of_getElem? (i := 1115) rfl
set_option maxRecDepth 20000 in
theorem wd_1117 : Cond.instanceMethod yX10_runAsTold ∈ lw_tbl := List.mem_of_getElem? (i := 1117) rfl
set_option maxRecDepth 20000 in
theorem wd_1118 : Cond.code yX10_runAsTold cX10_runAsTold 3 none ∈ lw_tbl := List.mem_of_getElem? (i := 1118) rfl
set_option maxRecDepth 20000 in
theorem wd_1119 : Cond.methodLink RX10 223 yX10_run ∈ lw_tbl := List.mem_of_getElem? (i := 1119) rfl
set_option maxRecDepth 20000 in
theorem wd_1121 : Cond.instanceMethod yX10_run ∈ lw_tbl := List.mem_of_getElem? (i := 1121) rfl
set_option maxRecDepth 20000 in
theorem wd_1122 : Cond.code yX10_run cX10_run 11 none ∈ lw_tbl := List.mem_of_getElem? (i := 1122) rfl
set_option maxRecDepth 20000 in
theorem wd_1123 : Cond.methodLink RX10 206 yX10_mod ∈ lw_tbl := List.mem_of_getElem? (i := 1123) rfl
set_option maxRecDepth 20000 in
theorem wd_1125 : Cond.instanceMethod yX10_mod ∈ lw_tbl := List.mem_of_getElem? (i := 1125) rfl
set_option maxRecDepth 20000 in
theorem wd_1126 : Cond.code yX10_mod cX10_mod 3 (some .int) ∈ lw_tbl := List.mem_of_getElem? (i := 1126) rfl
set_option maxRecDepth 20000 in
theorem wd_1127 : Cond.methodLink RX10 209 yX10_see ∈ lw_tbl := List.mem_of_getElem? (i := 1127) rfl
set_option maxRecDepth 20000 in
theorem wd_1129 : Cond.instanceMethod yX10_see ∈ lw_tbl := List.mem_of_getElem? (i := 1129) rfl
set_option maxRecDepth 20000 in
theorem wd_1130 : Cond.code yX10_see cX10_see 2 none ∈ lw_tbl := List.mem_of_getElem? (i := 1130) rfl
set_option maxRecDepth 20000 in
theorem wd_1131 : Cond.methodLink RX10 212 yX10_multiply ∈ lw_tbl := List.mem_of_getElem? (i := 1131) rfl
set_option maxRecDepth 20000 in
theorem wd_1133 : Cond.instanceMethod yX10_multiply ∈ lw_tbl := List.mem_of_getElem? (i := 1133) rfl
set_option maxRecDepth 20000 in
theorem wd_1134 : Cond.code yX10_multiply cX10_multiply 10 none ∈ lw_tbl := List.mem_of_getElem? (i := 1134) rfl
set_option maxRecDepth 20000 in
theorem wd_1135 : Cond.methodLink RX10 219 yX10_lieOf ∈ lw_tbl := List.mem_of_getElem? (i := 1135) rfl
set_option maxRecDepth 20000 in
theorem wd_1137 : Cond.instanceMethod yX10_lieOf ∈ lw_tbl := List.mem_of_getElem? (i := 1137) rfl
set_option maxRecDepth 20000 in
theorem wd_1138 : Cond.code yX10_lieOf cX10_lieOf 5 (some .int) ∈ lw_tbl := List.mem_of_getElem? (i := 1138) rfl
set_option maxRecDepth 20000 in
theorem wd_1139 : Cond.methodLink RL 63 yX10_share ∈ lw_tbl := List.mem_of_getElem? (i := 1139) rfl
set_option maxRecDepth 20000 in
theorem wd_1140 : Cond.instanceMethod yX10_share ∈ lw_tbl := List.mem_of_getElem? (i := 1140) rfl
set_option maxRecDepth 20000 in
theorem wd_1141 : Cond.selects RX10 yX10_share yX10_share ∈ lw_tbl := List.mem_of_getElem? (i := 1141) rfl
set_option maxRecDepth 20000 in
theorem wd_1142 : Cond.code yX10_share cX10_share 3 (some .int) ∈ lw_tbl := List.mem_of_getElem? (i := 1142) rfl
set_option maxRecDepth 20000 in
theorem wd_1143 : Cond.methodLink RL 67 yX10_seen ∈ lw_tbl := List.mem_of_getElem? (i := 1143) rfl
set_option maxRecDepth 20000 in
theorem wd_1144 : Cond.instanceMethod yX10_seen ∈ lw_tbl := List.mem_of_getElem? (i := 1144) rfl
set_option maxRecDepth 20000 in
theorem wd_1145 : Cond.selects RX10 yX10_seen yX10_seen ∈ lw_tbl := List.mem_of_getElem? (i := 1145) rfl
set_option maxRecDepth 20000 in
theorem wd_1146 : Cond.code yX10_seen cX10_seen 3 (some .int) ∈ lw_tbl := List.mem_of_getElem? (i := 1146) rfl
set_option maxRecDepth 20000 in
theorem wd_1147 : Cond.methodLink RL 71 yX10_spy ∈ lw_tbl := List.mem_of_getElem? (i := 1147) rfl
set_option maxRecDepth 20000 in
theorem wd_1148 : Cond.instanceMethod yX10_spy ∈ lw_tbl := List.mem_of_getElem? (i := 1148) rfl
set_option maxRecDepth 20000 in
theorem wd_1149 : Cond.selects RX10 yX10_spy yX10_spy ∈ lw_tbl := List.mem_of_getElem? (i := 1149) rfl
set_option maxRecDepth 20000 in
theorem wd_1150 : Cond.code yX10_spy cX10_spy 7 (some .int) ∈ lw_tbl := List.mem_of_getElem? (i := 1150) rfl
set_option maxRecDepth 20000 in
theorem wd_1151 : Cond.methodLink RX10 230 yX10_lotsTaken ∈ lw_tbl := List.mem_of_getElem? (i := 1151) rfl
set_option maxRecDepth 20000 in
theorem wd_1153 : Cond.instanceMethod yX10_lotsTaken ∈ lw_tbl := List.mem_of_getElem? (i := 1153) rfl
set_option maxRecDepth 20000 in
theorem wd_1154 : Cond.code yX10_lotsTaken cX10_lotsTaken 1 (some .int) ∈ lw_tbl := List.mem_of_getElem? (i := 1154) rfl
set_option maxRecDepth 20000 in
theorem wd_1155 : Cond.methodLink RX10 237 yX10_power ∈ lw_tbl := List.mem_of_getElem? (i := 1155) rfl
set_option maxRecDepth 20000 in
theorem wd_1157 : Cond.instanceMethod yX10_power ∈ lw_tbl := List.mem_of_getElem? (i := 1157) rfl
set_option maxRecDepth 20000 in
theorem wd_1158 : Cond.code yX10_power cX10_power 4 (some .int) ∈ lw_tbl := List.mem_of_getElem? (i := 1158) rfl
set_option maxRecDepth 20000 in
theorem wd_1159 : Cond.methodLink RX10 240 yX10_findRows ∈ lw_tbl := List.mem_of_getElem? (i := 1159) rfl
set_option maxRecDepth 20000 in
theorem wd_1161 : Cond.instanceMethod yX10_findRows ∈ lw_tbl := List.mem_of_getElem? (i := 1161) rfl
set_option maxRecDepth 20000 in
theorem wd_1162 : Cond.code yX10_findRows cX10_findRows 10 none ∈ lw_tbl := List.mem_of_getElem? (i := 1162) rfl
set_option maxRecDepth 20000 in
theorem wd_1163 : Cond.methodLink RX10 233 yX10_order ∈ lw_tbl := List.mem_of_getElem? (i := 1163) rfl
set_option maxRecDepth 20000 in
theorem wd_1165 : Cond.instanceMethod yX10_order ∈ lw_tbl := List.mem_of_getElem? (i := 1165) rfl
set_option maxRecDepth 20000 in
theorem wd_1166 : Cond.code yX10_order cX10_order 8 none ∈ lw_tbl := List.mem_of_getElem? (i := 1166) rfl
set_option maxRecDepth 20000 in
theorem wd_1167 : Cond.methodLink RL 75 yX10_tells ∈ lw_tbl := List.mem_of_getElem? (i := 1167) rfl
set_option maxRecDepth 20000 in
theorem wd_1168 : Cond.instanceMethod yX10_tells ∈ lw_tbl := List.mem_of_getElem? (i := 1168) rfl
set_option maxRecDepth 20000 in
theorem wd_1169 : Cond.selects RX10 yX10_tells yX10_tells ∈ lw_tbl := List.mem_of_getElem? (i := 1169) rfl
set_option maxRecDepth 20000 in
theorem wd_1170 : Cond.code yX10_tells cX10_tells 12 (some .int) ∈ lw_tbl := List.mem_of_getElem? (i := 1170) rfl
set_option maxRecDepth 20000 in
theorem wd_1171 : Cond.methodLink RX10 244 yX10_plainEnd ∈ lw_tbl := List.mem_of_getElem? (i := 1171) rfl
set_option maxRecDepth 20000 in
theorem wd_1173 : Cond.instanceMethod yX10_plainEnd ∈ lw_tbl := List.mem_of_getElem? (i := 1173) rfl
set_option maxRecDepth 20000 in
theorem wd_1174 : Cond.code yX10_plainEnd cX10_plainEnd 6 (some .int) ∈ lw_tbl := List.mem_of_getElem? (i := 1174) rfl
set_option maxRecDepth 20000 in
theorem wd_1175 : Cond.methodLink RL 79 yX10_trade ∈ lw_tbl := List.mem_of_getElem? (i := 1175) rfl
set_option maxRecDepth 20000 in
theorem wd_1176 : Cond.instanceMethod yX10_trade ∈ lw_tbl := List.mem_of_getElem? (i := 1176) rfl
set_option maxRecDepth 20000 in
theorem wd_1177 : Cond.selects RX10 yX10_trade yX10_trade ∈ lw_tbl := List.mem_of_getElem? (i := 1177) rfl
set_option maxRecDepth 20000 in
theorem wd_1178 : Cond.code yX10_trade cX10_trade 4 (some .int) ∈ lw_tbl := List.mem_of_getElem? (i := 1178) rfl
set_option maxRecDepth 20000 in
theorem wd_1179 : Cond.constantLong RX10 247 (999) ∈ lw_tbl := List.mem_of_getElem? (i := 1179) rfl
set_option maxRecDepth 20000 in
theorem wd_1180 : Cond.methodLink RL 83 yX10_least ∈ lw_tbl := List.mem_of_getElem? (i := 1180) rfl
set_option maxRecDepth 20000 in
theorem wd_1181 : Cond.instanceMethod yX10_least ∈ lw_tbl := List.mem_of_getElem? (i := 1181) rfl
set_option maxRecDepth 20000 in
theorem wd_1182 : Cond.selects RX10 yX10_least yX10_least ∈ lw_tbl := List.mem_of_getElem? (i := 1182) rfl
set_option maxRecDepth 20000 in
theorem wd_1183 : Cond.code yX10_least cX10_least 8 (some .int) ∈ lw_tbl := List.mem_of_getElem? (i := 1183) rfl
set_option maxRecDepth 20000 in
theorem wd_1184 : Cond.constantLong RX10 249 (99) ∈ lw_tbl := List.mem_of_getElem? (i := 1184) rfl
set_option maxRecDepth 20000 in
theorem wd_1185 : Cond.methodLink RX10 251 yX10_bitsIn ∈ lw_tbl := List.mem_of_getElem? (i := 1185) rfl
set_option maxRecDepth 20000 in
theorem wd_1186 : Cond.static yX10_bitsIn ∈ lw_tbl := List.mem_of_getElem? (i := 1186) rfl
set_option maxRecDepth 20000 in
theorem wd_1187 : Cond.code yX10_bitsIn cX10_bitsIn 3 (some .int) ∈ lw_tbl := List.mem_of_getElem? (i := 1187) rfl
set_option maxRecDepth 20000 in
theorem wd_1188 : Cond.methodLink RL 87 yX10_field ∈ lw_tbl := List.mem_of_getElem? (i := 1188) rfl
set_option maxRecDepth 20000 in
theorem wd_1189 : Cond.instanceMethod yX10_field ∈ lw_tbl := List.mem_of_getElem? (i := 1189) rfl
set_option maxRecDepth 20000 in
theorem wd_1190 : Cond.selects RX10 yX10_field yX10_field ∈ lw_tbl := List.mem_of_getElem? (i := 1190) rfl
set_option maxRecDepth 20000 in
theorem wd_1191 : Cond.code yX10_field cX10_field 6 (some .int) ∈ lw_tbl := List.mem_of_getElem? (i := 1191) rfl
set_option maxRecDepth 20000 in
theorem wd_1192 : Cond.methodLink RX10 254 yX10_isPrime ∈ lw_tbl := List.mem_of_getElem? (i := 1192) rfl
set_option maxRecDepth 20000 in
theorem wd_1193 : Cond.static yX10_isPrime ∈ lw_tbl := List.mem_of_getElem? (i := 1193) rfl
set_option maxRecDepth 20000 in
theorem wd_1194 : Cond.code yX10_isPrime cX10_isPrime 1 (some .boolean) ∈ lw_tbl := List.mem_of_getElem? (i := 1194) rfl
set_option maxRecDepth 20000 in
theorem wd_1195 : Cond.constantLong RX10 257 (3) ∈ lw_tbl := List.mem_of_getElem? (i := 1195) rfl
set_option maxRecDepth 20000 in
theorem wd_1196 : Cond.constantLong RX10 259 (6) ∈ lw_tbl := List.mem_of_getElem? (i := 1196) rfl
set_option maxRecDepth 20000 in
theorem wd_1197 : Cond.methodLink RL 91 yX10_curve ∈ lw_tbl := List.mem_of_getElem? (i := 1197) rfl
set_option maxRecDepth 20000 in
theorem wd_1198 : Cond.instanceMethod yX10_curve ∈ lw_tbl := List.mem_of_getElem? (i := 1198) rfl
set_option maxRecDepth 20000 in
theorem wd_1199 : Cond.selects RX10 yX10_curve yX10_curve ∈ lw_tbl := List.mem_of_getElem? (i := 1199) rfl
set_option maxRecDepth 20000 in
theorem wd_1200 : Cond.code yX10_curve cX10_curve 5 (some .int) ∈ lw_tbl := List.mem_of_getElem? (i := 1200) rfl
set_option maxRecDepth 20000 in
theorem wd_1201 : Cond.methodLink RL 95 yX10_point ∈ lw_tbl := List.mem_of_getElem? (i := 1201) rfl
set_option maxRecDepth 20000 in
theorem wd_1202 : Cond.instanceMethod yX10_point ∈ lw_tbl := List.mem_of_getElem? (i := 1202) rfl
set_option maxRecDepth 20000 in
theorem wd_1203 : Cond.selects RX10 yX10_point yX10_point ∈ lw_tbl := List.mem_of_getElem? (i := 1203) rfl
set_option maxRecDepth 20000 in
theorem wd_1204 : Cond.code yX10_point cX10_point 2 (some .int) ∈ lw_tbl := List.mem_of_getElem? (i := 1204) rfl
set_option maxRecDepth 20000 in
theorem wd_1205 : Cond.methodLink RX10 267 yX10_isPoint ∈ lw_tbl := List.mem_of_getElem? (i := 1205) rfl
set_option maxRecDepth 20000 in
theorem wd_1207 : Cond.instanceMethod yX10_isPoint ∈ lw_tbl := List.mem_of_getElem? (i := 1207) rfl
set_option maxRecDepth 20000 in
theorem wd_1208 : Cond.code yX10_isPoint cX10_isPoint 2 (some .boolean) ∈ lw_tbl := List.mem_of_getElem? (i := 1208) rfl
set_option maxRecDepth 20000 in
theorem wd_1209 : Cond.methodLink RX10 270 yX10_pointOf ∈ lw_tbl := List.mem_of_getElem? (i := 1209) rfl
set_option maxRecDepth 20000 in
theorem wd_1211 : Cond.instanceMethod yX10_pointOf ∈ lw_tbl := List.mem_of_getElem? (i := 1211) rfl
set_option maxRecDepth 20000 in
theorem wd_1212 : Cond.code yX10_pointOf cX10_pointOf 3 (some .int) ∈ lw_tbl := List.mem_of_getElem? (i := 1212) rfl
set_option maxRecDepth 20000 in
theorem wd_1213 : Cond.methodLink RL 99 yX10_bend ∈ lw_tbl := List.mem_of_getElem? (i := 1213) rfl
set_option maxRecDepth 20000 in
theorem wd_1214 : Cond.instanceMethod yX10_bend ∈ lw_tbl := List.mem_of_getElem? (i := 1214) rfl
set_option maxRecDepth 20000 in
theorem wd_1215 : Cond.selects RX10 yX10_bend yX10_bend ∈ lw_tbl := List.mem_of_getElem? (i := 1215) rfl
set_option maxRecDepth 20000 in
theorem wd_1216 : Cond.code yX10_bend cX10_bend 4 (some .int) ∈ lw_tbl := List.mem_of_getElem? (i := 1216) rfl
set_option maxRecDepth 20000 in
theorem wd_1217 : Cond.methodLink RL 103 yX10_open ∈ lw_tbl := List.mem_of_getElem? (i := 1217) rfl
set_option maxRecDepth 20000 in
theorem wd_1218 : Cond.instanceMethod yX10_open ∈ lw_tbl := List.mem_of_getElem? (i := 1218) rfl
set_option maxRecDepth 20000 in
theorem wd_1219 : Cond.selects RX10 yX10_open yX10_open ∈ lw_tbl := List.mem_of_getElem? (i := 1219) rfl
set_option maxRecDepth 20000 in
theorem wd_1220 : Cond.code yX10_open cX10_open 4 (some .int) ∈ lw_tbl := List.mem_of_getElem? (i := 1220) rfl
set_option maxRecDepth 20000 in
theorem wd_1221 : Cond.methodLink RX10 273 yX10_isSet ∈ lw_tbl := List.mem_of_getElem? (i := 1221) rfl
set_option maxRecDepth 20000 in
theorem wd_1223 : Cond.instanceMethod yX10_isSet ∈ lw_tbl := List.mem_of_getElem? (i := 1223) rfl
set_option maxRecDepth 20000 in
theorem wd_1224 : Cond.code yX10_isSet cX10_isSet 2 (some .boolean) ∈ lw_tbl := List.mem_of_getElem? (i := 1224) rfl
set_option maxRecDepth 20000 in
theorem wd_1225 : Cond.methodLink RX10 276 yX10_opened ∈ lw_tbl := List.mem_of_getElem? (i := 1225) rfl
set_option maxRecDepth 20000 in
theorem wd_1227 : Cond.instanceMethod yX10_opened ∈ lw_tbl := List.mem_of_getElem? (i := 1227) rfl
set_option maxRecDepth 20000 in
theorem wd_1228 : Cond.code yX10_opened cX10_opened 17 (some .int) ∈ lw_tbl := List.mem_of_getElem? (i := 1228) rfl
set_option maxRecDepth 20000 in
theorem wd_1229 : Cond.methodLink RL 107 yX10_product ∈ lw_tbl := List.mem_of_getElem? (i := 1229) rfl
set_option maxRecDepth 20000 in
theorem wd_1230 : Cond.instanceMethod yX10_product ∈ lw_tbl := List.mem_of_getElem? (i := 1230) rfl
set_option maxRecDepth 20000 in
theorem wd_1231 : Cond.selects RX10 yX10_product yX10_product ∈ lw_tbl := List.mem_of_getElem? (i := 1231) rfl
set_option maxRecDepth 20000 in
theorem wd_1232 : Cond.code yX10_product cX10_product 4 (some .int) ∈ lw_tbl := List.mem_of_getElem? (i := 1232) rfl
set_option maxRecDepth 20000 in
theorem wd_1233 : Cond.methodLink RL 111 yX10_month ∈ lw_tbl := List.mem_of_getElem? (i := 1233) rfl
set_option maxRecDepth 20000 in
theorem wd_1234 : Cond.instanceMethod yX10_month ∈ lw_tbl := List.mem_of_getElem? (i := 1234) rfl
set_option maxRecDepth 20000 in
theorem wd_1235 : Cond.selects RX10 yX10_month yX10_month ∈ lw_tbl := List.mem_of_getElem? (i := 1235) rfl
set_option maxRecDepth 20000 in
theorem wd_1236 : Cond.code yX10_month cX10_month 2 (some .int) ∈ lw_tbl := List.mem_of_getElem? (i := 1236) rfl
set_option maxRecDepth 20000 in
theorem wd_1237 : Cond.methodLink RL 115 yX10_steal ∈ lw_tbl := List.mem_of_getElem? (i := 1237) rfl
set_option maxRecDepth 20000 in
theorem wd_1238 : Cond.instanceMethod yX10_steal ∈ lw_tbl := List.mem_of_getElem? (i := 1238) rfl
set_option maxRecDepth 20000 in
theorem wd_1239 : Cond.selects RX10 yX10_steal yX10_steal ∈ lw_tbl := List.mem_of_getElem? (i := 1239) rfl
set_option maxRecDepth 20000 in
theorem wd_1240 : Cond.code yX10_steal cX10_steal 2 (some .int) ∈ lw_tbl := List.mem_of_getElem? (i := 1240) rfl
set_option maxRecDepth 20000 in
theorem wd_1241 : Cond.methodLink RL 119 yX10_known ∈ lw_tbl := List.mem_of_getElem? (i := 1241) rfl
set_option maxRecDepth 20000 in
theorem wd_1242 : Cond.instanceMethod yX10_known ∈ lw_tbl := List.mem_of_getElem? (i := 1242) rfl
set_option maxRecDepth 20000 in
theorem wd_1243 : Cond.selects RX10 yX10_known yX10_known ∈ lw_tbl := List.mem_of_getElem? (i := 1243) rfl
set_option maxRecDepth 20000 in
theorem wd_1244 : Cond.code yX10_known cX10_known 6 (some .int) ∈ lw_tbl := List.mem_of_getElem? (i := 1244) rfl
set_option maxRecDepth 20000 in
theorem wd_1245 : Cond.methodLink RL 123 yX10_weight ∈ lw_tbl := List.mem_of_getElem? (i := 1245) rfl
set_option maxRecDepth 20000 in
theorem wd_1246 : Cond.instanceMethod yX10_weight ∈ lw_tbl := List.mem_of_getElem? (i := 1246) rfl
set_option maxRecDepth 20000 in
theorem wd_1247 : Cond.selects RX10 yX10_weight yX10_weight ∈ lw_tbl := List.mem_of_getElem? (i := 1247) rfl
set_option maxRecDepth 20000 in
theorem wd_1248 : Cond.code yX10_weight cX10_weight 6 (some .int) ∈ lw_tbl := List.mem_of_getElem? (i := 1248) rfl
set_option maxRecDepth 20000 in
theorem wd_1249 : Cond.constantLong RX10 280 (5) ∈ lw_tbl := List.mem_of_getElem? (i := 1249) rfl
set_option maxRecDepth 20000 in
theorem wd_1250 : Cond.constantLong RX10 286 (11) ∈ lw_tbl := List.mem_of_getElem? (i := 1250) rfl
set_option maxRecDepth 20000 in
theorem wd_1251 : Cond.constantLong RX10 288 (101) ∈ lw_tbl := List.mem_of_getElem? (i := 1251) rfl
set_option maxRecDepth 20000 in
theorem wd_1252 : Cond.constantLong RX10 290 (1011) ∈ lw_tbl := List.mem_of_getElem? (i := 1252) rfl
set_option maxRecDepth 20000 in
theorem wd_1253 : Cond.constantLong RX10 292 (10101) ∈ lw_tbl := List.mem_of_getElem? (i := 1253) rfl
set_option maxRecDepth 20000 in
theorem wd_1254 : Cond.constantLong RX10 294 (100001) ∈ lw_tbl := List.mem_of_getElem? (i := 1254) rfl
set_option maxRecDepth 20000 in
theorem wd_1255 : Cond.methodLink RL 127 yX10_count ∈ lw_tbl := List.mem_of_getElem? (i := 1255) rfl
set_option maxRecDepth 20000 in
theorem wd_1256 : Cond.instanceMethod yX10_count ∈ lw_tbl := List.mem_of_getElem? (i := 1256) rfl
set_option maxRecDepth 20000 in
theorem wd_1257 : Cond.selects RX10 yX10_count yX10_count ∈ lw_tbl := List.mem_of_getElem? (i := 1257) rfl
set_option maxRecDepth 20000 in
theorem wd_1258 : Cond.code yX10_count cX10_count 2 (some .int) ∈ lw_tbl := List.mem_of_getElem? (i := 1258) rfl
set_option maxRecDepth 20000 in
theorem wd_1259 : Cond.methodLink RL 132 yX10_trace ∈ lw_tbl := List.mem_of_getElem? (i := 1259) rfl
set_option maxRecDepth 20000 in
theorem wd_1260 : Cond.instanceMethod yX10_trace ∈ lw_tbl := List.mem_of_getElem? (i := 1260) rfl
set_option maxRecDepth 20000 in
theorem wd_1261 : Cond.selects RX10 yX10_trace yX10_trace ∈ lw_tbl := List.mem_of_getElem? (i := 1261) rfl
set_option maxRecDepth 20000 in
theorem wd_1262 : Cond.code yX10_trace cX10_trace 1 (some .long) ∈ lw_tbl := List.mem_of_getElem? (i := 1262) rfl
set_option maxRecDepth 20000 in
theorem wd_1263 : Cond.constantLong RL 13 (4294967295) ∈ lw_tbl := List.mem_of_getElem? (i := 1263) rfl

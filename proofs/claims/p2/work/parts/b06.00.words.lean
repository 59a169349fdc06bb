set_option maxRecDepth 100000 in
theorem wd_21 : Cond.fieldLink RX11 29 "SaidShallow" "words" "LSaidShallow$Words;" ∈ wsU := wsU_at 616 rfl rfl
set_option maxRecDepth 100000 in
theorem wd_37 : Cond.initialized RX0 ∈ wsU := wsU_at 134 rfl rfl
set_option maxRecDepth 100000 in
theorem wd_42 : Cond.fieldLink RX11 70 "SaidShallow" "told" "[I" ∈ wsU := wsU_at 628 rfl rfl
set_option maxRecDepth 100000 in
theorem wd_143 : Cond.fieldLink RX6 37 "SaidShallow$Standing" "word" "[I" ∈ wsU := wsU_at 506 rfl rfl
set_option maxRecDepth 100000 in
theorem wd_157 : Cond.fieldLink RX0 11 "SaidShallow$BestOrder" "after" "[I" ∈ wsU := wsU_at 576 rfl rfl
set_option maxRecDepth 100000 in
theorem wd_159 : Cond.fieldLink RX0 18 "SaidShallow$BestOrder" "inUse" "[I" ∈ wsU := wsU_at 578 rfl rfl
set_option maxRecDepth 100000 in
theorem wd_239 : Cond.methodLink RX11 83 yX11_emptyTape ∈ wsU := wsU_at 686 rfl rfl
set_option maxRecDepth 100000 in
theorem wd_240 : Cond.instanceMethod yX11_emptyTape ∈ wsU := wsU_at 688 rfl rfl
set_option maxRecDepth 100000 in
theorem wd_241 : Cond.selects RX11 yX11_emptyTape yX11_emptyTape ∈ wsU := wsU_at 1 rfl rfl
set_option maxRecDepth 100000 in
theorem wd_242 : Cond.code yX11_emptyTape cX11_emptyTape 2 (some .int) ∈ wsU := wsU_at 689 rfl rfl
set_option maxRecDepth 100000 in
theorem wd_708 : Cond.fieldLink RX11 138 "SaidShallow$Words" "count" "I" ∈ wsU := wsU_at 362 rfl rfl
set_option maxRecDepth 100000 in
theorem wd_713 : Cond.methodLink RX11 260 yX11_areLetters ∈ wsU := wsU_at 1000 rfl rfl
set_option maxRecDepth 100000 in
theorem wd_714 : Cond.instanceMethod yX11_areLetters ∈ wsU := wsU_at 1002 rfl rfl
set_option maxRecDepth 100000 in
theorem wd_715 : Cond.selects RX11 yX11_areLetters yX11_areLetters ∈ wsU := wsU_at 27 rfl rfl
set_option maxRecDepth 100000 in
theorem wd_716 : Cond.code yX11_areLetters cX11_areLetters 4 (some .boolean) ∈ wsU := wsU_at 1003 rfl rfl
set_option maxRecDepth 100000 in
theorem wd_719 : Cond.instanceMethod yX3_takeSigns ∈ wsU := wsU_at 1006 rfl rfl
set_option maxRecDepth 100000 in
theorem wd_720 : Cond.selects RX3 yX3_takeSigns yX3_takeSigns ∈ wsU := wsU_at 1007 rfl rfl
set_option maxRecDepth 100000 in
theorem wd_721 : Cond.code yX3_takeSigns cX3_takeSigns 3 none ∈ wsU := wsU_at 1008 rfl rfl
set_option maxRecDepth 100000 in
theorem wd_978 : Cond.methodLink RX11 141 yX10_lengthOf ∈ wsU := wsU_at 1124 rfl rfl
set_option maxRecDepth 100000 in
theorem wd_979 : Cond.instanceMethod yX10_lengthOf ∈ wsU := wsU_at 1125 rfl rfl
set_option maxRecDepth 100000 in
theorem wd_980 : Cond.selects RX10 yX10_lengthOf yX10_lengthOf ∈ wsU := wsU_at 1126 rfl rfl
set_option maxRecDepth 100000 in
theorem wd_981 : Cond.code yX10_lengthOf cX10_lengthOf 3 (some .int) ∈ wsU := wsU_at 1127 rfl rfl
set_option maxRecDepth 100000 in
theorem wd_990 : Cond.methodLink RX11 145 yX10_letterOf ∈ wsU := wsU_at 1136 rfl rfl
set_option maxRecDepth 100000 in
theorem wd_999 : Cond.fieldLink RX11 152 "SaidShallow$Tongue" "stems" "LSaidShallow$WordList;" ∈ wsU := wsU_at 315 rfl rfl
set_option maxRecDepth 100000 in
theorem wd_1000 : Cond.fieldLink RX11 156 "SaidShallow$WordList" "count" "I" ∈ wsU := wsU_at 177 rfl rfl
set_option maxRecDepth 100000 in
theorem wd_1001 : Cond.fieldLink RX11 159 "SaidShallow$Tongue" "ends" "LSaidShallow$WordList;" ∈ wsU := wsU_at 318 rfl rfl
set_option maxRecDepth 100000 in
theorem wd_1007 : Cond.instanceMethod yX9_copyTo ∈ wsU := wsU_at 1146 rfl rfl
set_option maxRecDepth 100000 in
theorem wd_1008 : Cond.selects RX9 yX9_copyTo yX9_copyTo ∈ wsU := wsU_at 1147 rfl rfl
set_option maxRecDepth 100000 in
theorem wd_1009 : Cond.code yX9_copyTo cX9_copyTo 5 (some .int) ∈ wsU := wsU_at 1148 rfl rfl
set_option maxRecDepth 100000 in
theorem wd_1071 : Cond.methodLink RX11 166 yX11_takeRow ∈ wsU := wsU_at 1192 rfl rfl
set_option maxRecDepth 100000 in
theorem wd_1072 : Cond.instanceMethod yX11_takeRow ∈ wsU := wsU_at 1194 rfl rfl
set_option maxRecDepth 100000 in
theorem wd_1073 : Cond.selects RX11 yX11_takeRow yX11_takeRow ∈ wsU := wsU_at 43 rfl rfl
set_option maxRecDepth 100000 in
theorem wd_1074 : Cond.code yX11_takeRow cX11_takeRow 4 (some .int) ∈ wsU := wsU_at 1195 rfl rfl
set_option maxRecDepth 100000 in
theorem wd_1075 : Cond.methodLink RX11 316 yX11_pairOfSigns ∈ wsU := wsU_at 1196 rfl rfl
set_option maxRecDepth 100000 in
theorem wd_1076 : Cond.instanceMethod yX11_pairOfSigns ∈ wsU := wsU_at 1198 rfl rfl
set_option maxRecDepth 100000 in
theorem wd_1077 : Cond.selects RX11 yX11_pairOfSigns yX11_pairOfSigns ∈ wsU := wsU_at 44 rfl rfl
set_option maxRecDepth 100000 in
theorem wd_1078 : Cond.code yX11_pairOfSigns cX11_pairOfSigns 5 (some .int) ∈ wsU := wsU_at 1199 rfl rfl
set_option maxRecDepth 100000 in
theorem wd_1079 : Cond.methodLink RX11 198 yX7_pairOf ∈ wsU := wsU_at 1200 rfl rfl
set_option maxRecDepth 100000 in
theorem wd_1080 : Cond.methodLink RX11 173 yX4_firstBreak ∈ wsU := wsU_at 1201 rfl rfl
set_option maxRecDepth 100000 in
theorem wd_1102 : Cond.fieldLink RX11 185 "SaidShallow$Standing" "order" "[I" ∈ wsU := wsU_at 498 rfl rfl
set_option maxRecDepth 100000 in
theorem wd_1151 : Cond.fieldLink RX11 201 "SaidShallow$Tongue" "letterCount" "I" ∈ wsU := wsU_at 280 rfl rfl
set_option maxRecDepth 100000 in
theorem wd_1183 : Cond.methodLink RX11 212 yJ6_bitCount_0f7a4 ∈ wsU := wsU_at 1253 rfl rfl
set_option maxRecDepth 100000 in
theorem wd_1206 : Cond.methodLink RX0 80 yX0_numberOf ∈ wsU := wsU_at 1268 rfl rfl
set_option maxRecDepth 100000 in
theorem wd_1207 : Cond.static yX0_numberOf ∈ wsU := wsU_at 1269 rfl rfl
set_option maxRecDepth 100000 in
theorem wd_1208 : Cond.code yX0_numberOf cX0_numberOf 2 (some .int) ∈ wsU := wsU_at 1270 rfl rfl
set_option maxRecDepth 100000 in
theorem wd_1221 : Cond.fieldLink RX0 104 "SaidShallow$Rows" "listed" "I" ∈ wsU := wsU_at 443 rfl rfl
set_option maxRecDepth 100000 in
theorem wd_1222 : Cond.fieldLink RX0 107 "SaidShallow$Rows" "codes" "[I" ∈ wsU := wsU_at 439 rfl rfl
set_option maxRecDepth 100000 in
theorem wd_1223 : Cond.methodLink RX0 110 yX10_signIn ∈ wsU := wsU_at 1282 rfl rfl
set_option maxRecDepth 100000 in
theorem wd_1224 : Cond.methodLink RX0 69 yX0_tryOrders ∈ wsU := wsU_at 1283 rfl rfl
set_option maxRecDepth 100000 in
theorem wd_1225 : Cond.instanceMethod yX0_tryOrders ∈ wsU := wsU_at 1285 rfl rfl
set_option maxRecDepth 100000 in
theorem wd_1226 : Cond.selects RX0 yX0_tryOrders yX0_tryOrders ∈ wsU := wsU_at 49 rfl rfl
set_option maxRecDepth 100000 in
theorem wd_1227 : Cond.code yX0_tryOrders cX0_tryOrders 6 none ∈ wsU := wsU_at 1286 rfl rfl
set_option maxRecDepth 100000 in
theorem wd_1228 : Cond.methodLink RX0 115 yX0_judge ∈ wsU := wsU_at 1287 rfl rfl
set_option maxRecDepth 100000 in
theorem wd_1229 : Cond.instanceMethod yX0_judge ∈ wsU := wsU_at 1289 rfl rfl
set_option maxRecDepth 100000 in
theorem wd_1230 : Cond.selects RX0 yX0_judge yX0_judge ∈ wsU := wsU_at 50 rfl rfl
set_option maxRecDepth 100000 in
theorem wd_1231 : Cond.code yX0_judge cX0_judge 4 none ∈ wsU := wsU_at 1290 rfl rfl
set_option maxRecDepth 100000 in
theorem wd_1259 : Cond.fieldLink RX11 234 "SaidShallow$Tongue" "pairCount" "I" ∈ wsU := wsU_at 296 rfl rfl
set_option maxRecDepth 100000 in
theorem wd_1260 : Cond.methodLink RX11 230 yX4_mayClash ∈ wsU := wsU_at 1300 rfl rfl
set_option maxRecDepth 100000 in
theorem wd_1261 : Cond.instanceMethod yX4_mayClash ∈ wsU := wsU_at 1301 rfl rfl
set_option maxRecDepth 100000 in
theorem wd_1262 : Cond.selects RX4 yX4_mayClash yX4_mayClash ∈ wsU := wsU_at 1302 rfl rfl
set_option maxRecDepth 100000 in
theorem wd_1263 : Cond.code yX4_mayClash cX4_mayClash 4 (some .boolean) ∈ wsU := wsU_at 1303 rfl rfl
set_option maxRecDepth 100000 in
theorem wd_1264 : Cond.methodLink RX11 237 yX4_shortestClash ∈ wsU := wsU_at 1304 rfl rfl
set_option maxRecDepth 100000 in
theorem wd_1265 : Cond.instanceMethod yX4_shortestClash ∈ wsU := wsU_at 1305 rfl rfl
set_option maxRecDepth 100000 in
theorem wd_1266 : Cond.selects RX4 yX4_shortestClash yX4_shortestClash ∈ wsU := wsU_at 1306 rfl rfl
set_option maxRecDepth 100000 in
theorem wd_1267 : Cond.code yX4_shortestClash cX4_shortestClash 9 (some .int) ∈ wsU := wsU_at 1307 rfl rfl
set_option maxRecDepth 100000 in
theorem wd_1387 : Cond.fieldLink RX11 254 "SaidShallow$Standing" "deeps" "LSaidShallow$WordList;" ∈ wsU := wsU_at 500 rfl rfl
set_option maxRecDepth 100000 in
theorem wd_1412 : Cond.fieldLink RX6 79 "SaidShallow$Rows" "masks" "[I" ∈ wsU := wsU_at 441 rfl rfl
set_option maxRecDepth 100000 in
theorem wd_1413 : Cond.methodLink RX6 65 yX9_copyTo ∈ wsU := wsU_at 1394 rfl rfl
set_option maxRecDepth 100000 in
theorem wd_1414 : Cond.methodLink RX6 69 yX3_takeSigns ∈ wsU := wsU_at 1395 rfl rfl
set_option maxRecDepth 100000 in
theorem wd_1415 : Cond.methodLink RX6 75 yX3_align ∈ wsU := wsU_at 1396 rfl rfl
set_option maxRecDepth 100000 in
theorem wd_1488 : Cond.methodLink RX11 309 yX11_lookFurther ∈ wsU := wsU_at 1434 rfl rfl
set_option maxRecDepth 100000 in
theorem wd_1489 : Cond.instanceMethod yX11_lookFurther ∈ wsU := wsU_at 1436 rfl rfl
set_option maxRecDepth 100000 in
theorem wd_1490 : Cond.selects RX11 yX11_lookFurther yX11_lookFurther ∈ wsU := wsU_at 58 rfl rfl
set_option maxRecDepth 100000 in
theorem wd_1491 : Cond.code yX11_lookFurther cX11_lookFurther 2 (some .int) ∈ wsU := wsU_at 1437 rfl rfl
set_option maxRecDepth 100000 in
theorem wd_1492 : Cond.fieldLink RX11 312 "SaidShallow$Tongue" "classes" "[I" ∈ wsU := wsU_at 283 rfl rfl
set_option maxRecDepth 100000 in
theorem wd_1493 : Cond.methodLink RX11 315 yX9_lengthOf ∈ wsU := wsU_at 1438 rfl rfl
theorem ti_m2 : (-2 : Int32).toInt = -2 := by decide
theorem ti_7 : (7 : Int32).toInt = 7 := by decide
theorem ti_16 : (16 : Int32).toInt = 16 := by decide
theorem ti_40 : (40 : Int32).toInt = 40 := by decide
theorem ti_50 : (50 : Int32).toInt = 50 := by decide

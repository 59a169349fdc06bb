set_option maxRecDepth 100000 in
theorem wd_17 : Cond.fieldLink RX11 16 "SaidShallow" "rows" "LSaidShallow$Rows;" ∈ wsU := wsU_at 614 rfl rfl
set_option maxRecDepth 100000 in
theorem wd_29 : Cond.fieldLink RX11 40 "SaidShallow" "imageTongue" "LSaidShallow$Tongue;" ∈ wsU := wsU_at 618 rfl rfl
set_option maxRecDepth 100000 in
theorem wd_30 : Cond.fieldLink RX11 43 "SaidShallow" "imageStanding" "LSaidShallow$Standing;" ∈ wsU := wsU_at 619 rfl rfl
set_option maxRecDepth 100000 in
theorem wd_38 : Cond.fieldLink RX11 56 "SaidShallow" "bestOrder" "LSaidShallow$BestOrder;" ∈ wsU := wsU_at 622 rfl rfl
set_option maxRecDepth 100000 in
theorem wd_43 : Cond.fieldLink RX11 73 "SaidShallow" "joined" "[I" ∈ wsU := wsU_at 629 rfl rfl
set_option maxRecDepth 100000 in
theorem wd_163 : Cond.fieldLink RX0 30 "SaidShallow$BestOrder" "word" "[I" ∈ wsU := wsU_at 586 rfl rfl
set_option maxRecDepth 100000 in
theorem wd_164 : Cond.fieldLink RX0 33 "SaidShallow$BestOrder" "knownChanges" "I" ∈ wsU := wsU_at 588 rfl rfl
set_option maxRecDepth 100000 in
theorem wd_234 : Cond.fieldLink RX11 91 "SaidShallow$Reader" "draft" "LSaidShallow$Tongue;" ∈ wsU := wsU_at 537 rfl rfl
set_option maxRecDepth 100000 in
theorem wd_243 : Cond.methodLink RX11 87 yX2_read ∈ wsU := wsU_at 690 rfl rfl
set_option maxRecDepth 100000 in
theorem wd_244 : Cond.instanceMethod yX2_read ∈ wsU := wsU_at 691 rfl rfl
set_option maxRecDepth 100000 in
theorem wd_245 : Cond.selects RX2 yX2_read yX2_read ∈ wsU := wsU_at 692 rfl rfl
set_option maxRecDepth 100000 in
theorem wd_246 : Cond.code yX2_read cX2_read 4 (some .boolean) ∈ wsU := wsU_at 693 rfl rfl
set_option maxRecDepth 100000 in
theorem wd_530 : Cond.methodLink RX11 94 yX7_copyFrom ∈ wsU := wsU_at 943 rfl rfl
set_option maxRecDepth 100000 in
theorem wd_531 : Cond.instanceMethod yX7_copyFrom ∈ wsU := wsU_at 944 rfl rfl
set_option maxRecDepth 100000 in
theorem wd_532 : Cond.selects RX7 yX7_copyFrom yX7_copyFrom ∈ wsU := wsU_at 945 rfl rfl
set_option maxRecDepth 100000 in
theorem wd_533 : Cond.code yX7_copyFrom cX7_copyFrom 3 none ∈ wsU := wsU_at 946 rfl rfl
set_option maxRecDepth 100000 in
theorem wd_549 : Cond.methodLink RX11 101 yX6_restart ∈ wsU := wsU_at 962 rfl rfl
set_option maxRecDepth 100000 in
theorem wd_550 : Cond.instanceMethod yX6_restart ∈ wsU := wsU_at 963 rfl rfl
set_option maxRecDepth 100000 in
theorem wd_551 : Cond.selects RX6 yX6_restart yX6_restart ∈ wsU := wsU_at 964 rfl rfl
set_option maxRecDepth 100000 in
theorem wd_552 : Cond.code yX6_restart cX6_restart 3 none ∈ wsU := wsU_at 965 rfl rfl
set_option maxRecDepth 100000 in
theorem wd_556 : Cond.methodLink RX11 107 yX10_clear ∈ wsU := wsU_at 967 rfl rfl
set_option maxRecDepth 100000 in
theorem wd_557 : Cond.instanceMethod yX10_clear ∈ wsU := wsU_at 968 rfl rfl
set_option maxRecDepth 100000 in
theorem wd_558 : Cond.selects RX10 yX10_clear yX10_clear ∈ wsU := wsU_at 969 rfl rfl
set_option maxRecDepth 100000 in
theorem wd_559 : Cond.code yX10_clear cX10_clear 1 none ∈ wsU := wsU_at 970 rfl rfl
set_option maxRecDepth 100000 in
theorem wd_703 : Cond.methodLink RX11 134 yX11_findWords ∈ wsU := wsU_at 992 rfl rfl
set_option maxRecDepth 100000 in
theorem wd_704 : Cond.instanceMethod yX11_findWords ∈ wsU := wsU_at 994 rfl rfl
set_option maxRecDepth 100000 in
theorem wd_705 : Cond.selects RX11 yX11_findWords yX11_findWords ∈ wsU := wsU_at 25 rfl rfl
set_option maxRecDepth 100000 in
theorem wd_706 : Cond.code yX11_findWords cX11_findWords 3 (some .int) ∈ wsU := wsU_at 995 rfl rfl
set_option maxRecDepth 100000 in
theorem wd_707 : Cond.fieldLink RX11 327 "SaidShallow$Words" "tooMany" "Z" ∈ wsU := wsU_at 365 rfl rfl
set_option maxRecDepth 100000 in
theorem wd_709 : Cond.methodLink RX11 149 yX11_takeWord ∈ wsU := wsU_at 996 rfl rfl
set_option maxRecDepth 100000 in
theorem wd_710 : Cond.instanceMethod yX11_takeWord ∈ wsU := wsU_at 998 rfl rfl
set_option maxRecDepth 100000 in
theorem wd_711 : Cond.selects RX11 yX11_takeWord yX11_takeWord ∈ wsU := wsU_at 26 rfl rfl
set_option maxRecDepth 100000 in
theorem wd_712 : Cond.code yX11_takeWord cX11_takeWord 3 (some .int) ∈ wsU := wsU_at 999 rfl rfl
set_option maxRecDepth 100000 in
theorem wd_718 : Cond.methodLink RX11 319 yX3_takeSigns ∈ wsU := wsU_at 1005 rfl rfl
set_option maxRecDepth 100000 in
theorem wd_728 : Cond.methodLink RX11 323 yX3_collect ∈ wsU := wsU_at 1014 rfl rfl
set_option maxRecDepth 100000 in
theorem wd_729 : Cond.instanceMethod yX3_collect ∈ wsU := wsU_at 1015 rfl rfl
set_option maxRecDepth 100000 in
theorem wd_730 : Cond.selects RX3 yX3_collect yX3_collect ∈ wsU := wsU_at 1016 rfl rfl
set_option maxRecDepth 100000 in
theorem wd_731 : Cond.code yX3_collect cX3_collect 4 none ∈ wsU := wsU_at 1017 rfl rfl
set_option maxRecDepth 100000 in
theorem wd_1002 : Cond.methodLink RX11 162 yX11_keepCouple ∈ wsU := wsU_at 1141 rfl rfl
set_option maxRecDepth 100000 in
theorem wd_1003 : Cond.instanceMethod yX11_keepCouple ∈ wsU := wsU_at 1143 rfl rfl
set_option maxRecDepth 100000 in
theorem wd_1004 : Cond.selects RX11 yX11_keepCouple yX11_keepCouple ∈ wsU := wsU_at 40 rfl rfl
set_option maxRecDepth 100000 in
theorem wd_1005 : Cond.code yX11_keepCouple cX11_keepCouple 6 none ∈ wsU := wsU_at 1144 rfl rfl
set_option maxRecDepth 100000 in
theorem wd_1006 : Cond.methodLink RX11 330 yX9_copyTo ∈ wsU := wsU_at 1145 rfl rfl
set_option maxRecDepth 100000 in
theorem wd_1014 : Cond.methodLink RX11 333 yX3_isSaidAs ∈ wsU := wsU_at 1153 rfl rfl
set_option maxRecDepth 100000 in
theorem wd_1015 : Cond.instanceMethod yX3_isSaidAs ∈ wsU := wsU_at 1154 rfl rfl
set_option maxRecDepth 100000 in
theorem wd_1016 : Cond.selects RX3 yX3_isSaidAs yX3_isSaidAs ∈ wsU := wsU_at 1155 rfl rfl
set_option maxRecDepth 100000 in
theorem wd_1017 : Cond.code yX3_isSaidAs cX3_isSaidAs 7 (some .boolean) ∈ wsU := wsU_at 1156 rfl rfl
set_option maxRecDepth 100000 in
theorem wd_1101 : Cond.methodLink RX11 179 arraycopyName ∈ wsU := wsU_at 1210 rfl rfl
set_option maxRecDepth 100000 in
theorem wd_1103 : Cond.methodLink RX11 188 yX7_ageBy ∈ wsU := wsU_at 1211 rfl rfl
set_option maxRecDepth 100000 in
theorem wd_1104 : Cond.instanceMethod yX7_ageBy ∈ wsU := wsU_at 1212 rfl rfl
set_option maxRecDepth 100000 in
theorem wd_1105 : Cond.selects RX7 yX7_ageBy yX7_ageBy ∈ wsU := wsU_at 1213 rfl rfl
set_option maxRecDepth 100000 in
theorem wd_1106 : Cond.code yX7_ageBy cX7_ageBy 9 (some .int) ∈ wsU := wsU_at 1214 rfl rfl
set_option maxRecDepth 100000 in
theorem wd_1152 : Cond.methodLink RX11 204 yX3_takeNumbered ∈ wsU := wsU_at 1237 rfl rfl
set_option maxRecDepth 100000 in
theorem wd_1153 : Cond.instanceMethod yX3_takeNumbered ∈ wsU := wsU_at 1238 rfl rfl
set_option maxRecDepth 100000 in
theorem wd_1154 : Cond.selects RX3 yX3_takeNumbered yX3_takeNumbered ∈ wsU := wsU_at 1239 rfl rfl
set_option maxRecDepth 100000 in
theorem wd_1155 : Cond.code yX3_takeNumbered cX3_takeNumbered 6 none ∈ wsU := wsU_at 1240 rfl rfl
set_option maxRecDepth 100000 in
theorem wd_1157 : Cond.methodLink RX11 208 yX3_hasAllowedRowWith ∈ wsU := wsU_at 1241 rfl rfl
set_option maxRecDepth 100000 in
theorem wd_1158 : Cond.instanceMethod yX3_hasAllowedRowWith ∈ wsU := wsU_at 1242 rfl rfl
set_option maxRecDepth 100000 in
theorem wd_1159 : Cond.selects RX3 yX3_hasAllowedRowWith yX3_hasAllowedRowWith ∈ wsU := wsU_at 1243 rfl rfl
set_option maxRecDepth 100000 in
theorem wd_1160 : Cond.code yX3_hasAllowedRowWith cX3_hasAllowedRowWith 4 (some .boolean) ∈ wsU := wsU_at 1244 rfl rfl
set_option maxRecDepth 100000 in
theorem wd_1181 : Cond.fieldLink RX11 221 "SaidShallow$BestOrder" "best" "[I" ∈ wsU := wsU_at 583 rfl rfl
set_option maxRecDepth 100000 in
theorem wd_1182 : Cond.fieldLink RX11 224 "SaidShallow$BestOrder" "bestAgreed" "I" ∈ wsU := wsU_at 585 rfl rfl
set_option maxRecDepth 100000 in
theorem wd_1190 : Cond.methodLink RX11 217 yX0_refresh ∈ wsU := wsU_at 1259 rfl rfl
set_option maxRecDepth 100000 in
theorem wd_1191 : Cond.instanceMethod yX0_refresh ∈ wsU := wsU_at 1260 rfl rfl
set_option maxRecDepth 100000 in
theorem wd_1192 : Cond.selects RX0 yX0_refresh yX0_refresh ∈ wsU := wsU_at 1261 rfl rfl
set_option maxRecDepth 100000 in
theorem wd_1193 : Cond.code yX0_refresh cX0_refresh 6 none ∈ wsU := wsU_at 1262 rfl rfl
set_option maxRecDepth 100000 in
theorem wd_1196 : Cond.fieldLink RX0 43 "SaidShallow$Rows" "tongue" "LSaidShallow$Tongue;" ∈ wsU := wsU_at 424 rfl rfl
set_option maxRecDepth 100000 in
theorem wd_1197 : Cond.fieldLink RX0 49 "SaidShallow$Tongue" "ruleCount" "I" ∈ wsU := wsU_at 310 rfl rfl
set_option maxRecDepth 100000 in
theorem wd_1198 : Cond.fieldLink RX0 54 "SaidShallow$Standing" "inUse" "I" ∈ wsU := wsU_at 492 rfl rfl
set_option maxRecDepth 100000 in
theorem wd_1200 : Cond.methodLink RX0 58 yX0_fillAfter ∈ wsU := wsU_at 1263 rfl rfl
set_option maxRecDepth 100000 in
theorem wd_1201 : Cond.instanceMethod yX0_fillAfter ∈ wsU := wsU_at 1265 rfl rfl
set_option maxRecDepth 100000 in
theorem wd_1202 : Cond.selects RX0 yX0_fillAfter yX0_fillAfter ∈ wsU := wsU_at 46 rfl rfl
set_option maxRecDepth 100000 in
theorem wd_1203 : Cond.code yX0_fillAfter cX0_fillAfter 10 none ∈ wsU := wsU_at 1266 rfl rfl
set_option maxRecDepth 100000 in
theorem wd_1204 : Cond.fieldLink RX0 73 "SaidShallow$Tongue" "letterCount" "I" ∈ wsU := wsU_at 278 rfl rfl
set_option maxRecDepth 100000 in
theorem wd_1205 : Cond.methodLink RX0 76 yX7_ageBy ∈ wsU := wsU_at 1267 rfl rfl
set_option maxRecDepth 100000 in
theorem wd_1209 : Cond.methodLink RX0 62 yX0_fillAgrees ∈ wsU := wsU_at 1271 rfl rfl
set_option maxRecDepth 100000 in
theorem wd_1210 : Cond.instanceMethod yX0_fillAgrees ∈ wsU := wsU_at 1273 rfl rfl
set_option maxRecDepth 100000 in
theorem wd_1211 : Cond.selects RX0 yX0_fillAgrees yX0_fillAgrees ∈ wsU := wsU_at 47 rfl rfl
set_option maxRecDepth 100000 in
theorem wd_1212 : Cond.code yX0_fillAgrees cX0_fillAgrees 7 none ∈ wsU := wsU_at 1274 rfl rfl
set_option maxRecDepth 100000 in
theorem wd_1213 : Cond.fieldLink RX0 93 "SaidShallow$Standing" "slack" "I" ∈ wsU := wsU_at 495 rfl rfl
set_option maxRecDepth 100000 in
theorem wd_1214 : Cond.methodLink RX0 84 yJ7_fill_53178 ∈ wsU := wsU_at 1275 rfl rfl
set_option maxRecDepth 100000 in
theorem wd_1215 : Cond.methodLink RX0 90 yX3_takeSigns ∈ wsU := wsU_at 1276 rfl rfl
set_option maxRecDepth 100000 in
theorem wd_1216 : Cond.methodLink RX0 96 yX3_list ∈ wsU := wsU_at 1277 rfl rfl
set_option maxRecDepth 100000 in
theorem wd_1217 : Cond.methodLink RX0 100 yX0_noteSaid ∈ wsU := wsU_at 1278 rfl rfl
set_option maxRecDepth 100000 in
theorem wd_1218 : Cond.instanceMethod yX0_noteSaid ∈ wsU := wsU_at 1280 rfl rfl
set_option maxRecDepth 100000 in
theorem wd_1219 : Cond.selects RX0 yX0_noteSaid yX0_noteSaid ∈ wsU := wsU_at 48 rfl rfl
set_option maxRecDepth 100000 in
theorem wd_1220 : Cond.code yX0_noteSaid cX0_noteSaid 6 none ∈ wsU := wsU_at 1281 rfl rfl
set_option maxRecDepth 100000 in
theorem wd_1233 : Cond.methodLink RX11 227 yX0_wordCount ∈ wsU := wsU_at 1292 rfl rfl
set_option maxRecDepth 100000 in
theorem wd_1234 : Cond.instanceMethod yX0_wordCount ∈ wsU := wsU_at 1293 rfl rfl
set_option maxRecDepth 100000 in
theorem wd_1235 : Cond.selects RX0 yX0_wordCount yX0_wordCount ∈ wsU := wsU_at 1294 rfl rfl
set_option maxRecDepth 100000 in
theorem wd_1236 : Cond.code yX0_wordCount cX0_wordCount 2 (some .int) ∈ wsU := wsU_at 1295 rfl rfl
set_option maxRecDepth 100000 in
theorem wd_1313 : Cond.methodLink RX11 241 yX11_firstParted ∈ wsU := wsU_at 1329 rfl rfl
set_option maxRecDepth 100000 in
theorem wd_1314 : Cond.instanceMethod yX11_firstParted ∈ wsU := wsU_at 1331 rfl rfl
set_option maxRecDepth 100000 in
theorem wd_1315 : Cond.selects RX11 yX11_firstParted yX11_firstParted ∈ wsU := wsU_at 53 rfl rfl
set_option maxRecDepth 100000 in
theorem wd_1316 : Cond.code yX11_firstParted cX11_firstParted 8 (some .int) ∈ wsU := wsU_at 1332 rfl rfl
set_option maxRecDepth 100000 in
theorem wd_1317 : Cond.methodLink RX11 337 yX3_tellsApart ∈ wsU := wsU_at 1333 rfl rfl
set_option maxRecDepth 100000 in
theorem wd_1318 : Cond.instanceMethod yX3_tellsApart ∈ wsU := wsU_at 1334 rfl rfl
set_option maxRecDepth 100000 in
theorem wd_1319 : Cond.selects RX3 yX3_tellsApart yX3_tellsApart ∈ wsU := wsU_at 1335 rfl rfl
set_option maxRecDepth 100000 in
theorem wd_1320 : Cond.code yX3_tellsApart cX3_tellsApart 7 (some .boolean) ∈ wsU := wsU_at 1336 rfl rfl
set_option maxRecDepth 100000 in
theorem wd_1358 : Cond.methodLink RX11 245 yX3_clearNeeded ∈ wsU := wsU_at 1354 rfl rfl
set_option maxRecDepth 100000 in
theorem wd_1359 : Cond.instanceMethod yX3_clearNeeded ∈ wsU := wsU_at 1355 rfl rfl
set_option maxRecDepth 100000 in
theorem wd_1360 : Cond.selects RX3 yX3_clearNeeded yX3_clearNeeded ∈ wsU := wsU_at 1356 rfl rfl
set_option maxRecDepth 100000 in
theorem wd_1361 : Cond.code yX3_clearNeeded cX3_clearNeeded 1 none ∈ wsU := wsU_at 1357 rfl rfl
set_option maxRecDepth 100000 in
theorem wd_1363 : Cond.methodLink RX11 248 yX3_noteNeeded ∈ wsU := wsU_at 1359 rfl rfl
set_option maxRecDepth 100000 in
theorem wd_1364 : Cond.instanceMethod yX3_noteNeeded ∈ wsU := wsU_at 1360 rfl rfl
set_option maxRecDepth 100000 in
theorem wd_1365 : Cond.selects RX3 yX3_noteNeeded yX3_noteNeeded ∈ wsU := wsU_at 1361 rfl rfl
set_option maxRecDepth 100000 in
theorem wd_1366 : Cond.code yX3_noteNeeded cX3_noteNeeded 4 none ∈ wsU := wsU_at 1362 rfl rfl
set_option maxRecDepth 100000 in
theorem wd_1367 : Cond.methodLink RX11 251 yX3_leastThatMeetsNeeds ∈ wsU := wsU_at 1363 rfl rfl
set_option maxRecDepth 100000 in
theorem wd_1368 : Cond.instanceMethod yX3_leastThatMeetsNeeds ∈ wsU := wsU_at 1364 rfl rfl
set_option maxRecDepth 100000 in
theorem wd_1369 : Cond.selects RX3 yX3_leastThatMeetsNeeds yX3_leastThatMeetsNeeds ∈ wsU := wsU_at 1365 rfl rfl
set_option maxRecDepth 100000 in
theorem wd_1370 : Cond.code yX3_leastThatMeetsNeeds cX3_leastThatMeetsNeeds 5 (some .int) ∈ wsU := wsU_at 1366 rfl rfl
set_option maxRecDepth 100000 in
theorem wd_1388 : Cond.fieldLink RX11 274 "SaidShallow$Standing" "saids" "LSaidShallow$WordList;" ∈ wsU := wsU_at 502 rfl rfl
set_option maxRecDepth 100000 in
theorem wd_1389 : Cond.methodLink RX11 257 yX11_placeOfColon ∈ wsU := wsU_at 1376 rfl rfl
set_option maxRecDepth 100000 in
theorem wd_1390 : Cond.instanceMethod yX11_placeOfColon ∈ wsU := wsU_at 1378 rfl rfl
set_option maxRecDepth 100000 in
theorem wd_1391 : Cond.selects RX11 yX11_placeOfColon yX11_placeOfColon ∈ wsU := wsU_at 57 rfl rfl
set_option maxRecDepth 100000 in
theorem wd_1392 : Cond.code yX11_placeOfColon cX11_placeOfColon 3 (some .int) ∈ wsU := wsU_at 1379 rfl rfl
set_option maxRecDepth 100000 in
theorem wd_1393 : Cond.methodLink RX11 264 yX6_openExample ∈ wsU := wsU_at 1380 rfl rfl
set_option maxRecDepth 100000 in
theorem wd_1394 : Cond.instanceMethod yX6_openExample ∈ wsU := wsU_at 1381 rfl rfl
set_option maxRecDepth 100000 in
theorem wd_1395 : Cond.selects RX6 yX6_openExample yX6_openExample ∈ wsU := wsU_at 1382 rfl rfl
set_option maxRecDepth 100000 in
theorem wd_1396 : Cond.code yX6_openExample cX6_openExample 2 none ∈ wsU := wsU_at 1383 rfl rfl
set_option maxRecDepth 100000 in
theorem wd_1399 : Cond.methodLink RX11 271 yX9_push ∈ wsU := wsU_at 1385 rfl rfl
set_option maxRecDepth 100000 in
theorem wd_1408 : Cond.methodLink RX11 277 yX6_study ∈ wsU := wsU_at 1390 rfl rfl
set_option maxRecDepth 100000 in
theorem wd_1409 : Cond.instanceMethod yX6_study ∈ wsU := wsU_at 1391 rfl rfl
set_option maxRecDepth 100000 in
theorem wd_1410 : Cond.selects RX6 yX6_study yX6_study ∈ wsU := wsU_at 1392 rfl rfl
set_option maxRecDepth 100000 in
theorem wd_1411 : Cond.code yX6_study cX6_study 7 none ∈ wsU := wsU_at 1393 rfl rfl
set_option maxRecDepth 100000 in
theorem wd_1416 : Cond.methodLink RX11 281 yX6_firstUntrue ∈ wsU := wsU_at 1397 rfl rfl
set_option maxRecDepth 100000 in
theorem wd_1433 : Cond.instanceMethod yX11_learn ∈ wsU := wsU_at 1402 rfl rfl
set_option maxRecDepth 100000 in
theorem wd_1434 : Cond.selects RX11 yX11_learn yX11_learn ∈ wsU := wsU_at 1403 rfl rfl
set_option maxRecDepth 100000 in
theorem wd_1435 : Cond.code yX11_learn cX11_learn 1 (some .int) ∈ wsU := wsU_at 1404 rfl rfl
set_option maxRecDepth 100000 in
theorem wd_1436 : Cond.methodLink RX11 284 yX6_leastTrue ∈ wsU := wsU_at 1405 rfl rfl
set_option maxRecDepth 100000 in
theorem wd_1437 : Cond.instanceMethod yX6_leastTrue ∈ wsU := wsU_at 1406 rfl rfl
set_option maxRecDepth 100000 in
theorem wd_1438 : Cond.selects RX6 yX6_leastTrue yX6_leastTrue ∈ wsU := wsU_at 1407 rfl rfl
set_option maxRecDepth 100000 in
theorem wd_1439 : Cond.code yX6_leastTrue cX6_leastTrue 5 (some .int) ∈ wsU := wsU_at 1408 rfl rfl
set_option maxRecDepth 100000 in
theorem wd_1450 : Cond.methodLink RX11 287 yX11_learn ∈ wsU := wsU_at 1415 rfl rfl
set_option maxRecDepth 100000 in
theorem wd_1472 : Cond.fieldLink RX11 305 "SaidShallow" "imageTaken" "Z" ∈ wsU := wsU_at 620 rfl rfl
set_option maxRecDepth 100000 in
theorem wd_1473 : Cond.methodLink RX11 302 yX6_copyFrom ∈ wsU := wsU_at 1424 rfl rfl
set_option maxRecDepth 100000 in
theorem wd_1474 : Cond.instanceMethod yX6_copyFrom ∈ wsU := wsU_at 1425 rfl rfl
set_option maxRecDepth 100000 in
theorem wd_1475 : Cond.selects RX6 yX6_copyFrom yX6_copyFrom ∈ wsU := wsU_at 1426 rfl rfl
set_option maxRecDepth 100000 in
theorem wd_1476 : Cond.code yX6_copyFrom cX6_copyFrom 2 none ∈ wsU := wsU_at 1427 rfl rfl

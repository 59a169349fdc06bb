set_option maxRecDepth 100000 in
theorem wd_171 : Cond.fieldLink RX12 16 "SaidShallowModel" "kept" "[I" ∈ wsU := wsU_at 1451 rfl rfl
set_option maxRecDepth 100000 in
theorem wd_193 : Cond.fieldLink RX12 83 "SaidShallowModel" "states" "[I" ∈ wsU := wsU_at 1492 rfl rfl
set_option maxRecDepth 100000 in
theorem wd_194 : Cond.fieldLink RX12 86 "SaidShallowModel" "level" "[I" ∈ wsU := wsU_at 1493 rfl rfl
set_option maxRecDepth 100000 in
theorem wd_195 : Cond.fieldLink RX12 89 "SaidShallowModel" "firstWords" "[I" ∈ wsU := wsU_at 1494 rfl rfl
set_option maxRecDepth 100000 in
theorem wd_199 : Cond.fieldLink RX12 98 "SaidShallowModel" "agrees" "[[Z" ∈ wsU := wsU_at 1496 rfl rfl
set_option maxRecDepth 100000 in
theorem wd_200 : Cond.fieldLink RX12 101 "SaidShallowModel" "used" "[I" ∈ wsU := wsU_at 1497 rfl rfl
set_option maxRecDepth 100000 in
theorem wd_201 : Cond.fieldLink RX12 104 "SaidShallowModel" "tried" "[I" ∈ wsU := wsU_at 1498 rfl rfl
set_option maxRecDepth 100000 in
theorem wd_202 : Cond.fieldLink RX12 107 "SaidShallowModel" "bestOrder" "[I" ∈ wsU := wsU_at 1499 rfl rfl
set_option maxRecDepth 100000 in
theorem wd_203 : Cond.fieldLink RX12 110 "SaidShallowModel" "isTried" "[Z" ∈ wsU := wsU_at 1500 rfl rfl
set_option maxRecDepth 100000 in
theorem wd_204 : Cond.fieldLink RX12 113 "SaidShallowModel" "keptAged" "[I" ∈ wsU := wsU_at 1503 rfl rfl
set_option maxRecDepth 100000 in
theorem wd_1169 : Cond.methodLink RX12 392 yX12_wordsUpTo ∈ wsU := wsU_at 1930 rfl rfl
set_option maxRecDepth 100000 in
theorem wd_1170 : Cond.instanceMethod yX12_wordsUpTo ∈ wsU := wsU_at 1932 rfl rfl
set_option maxRecDepth 100000 in
theorem wd_1171 : Cond.selects RX12 yX12_wordsUpTo yX12_wordsUpTo ∈ wsU := wsU_at 113 rfl rfl
set_option maxRecDepth 100000 in
theorem wd_1172 : Cond.code yX12_wordsUpTo cX12_wordsUpTo 5 (some .int) ∈ wsU := wsU_at 1933 rfl rfl
set_option maxRecDepth 100000 in
theorem wd_1173 : Cond.methodLink RX12 395 yX12_laysWord ∈ wsU := wsU_at 1934 rfl rfl
set_option maxRecDepth 100000 in
theorem wd_1174 : Cond.instanceMethod yX12_laysWord ∈ wsU := wsU_at 1936 rfl rfl
set_option maxRecDepth 100000 in
theorem wd_1175 : Cond.selects RX12 yX12_laysWord yX12_laysWord ∈ wsU := wsU_at 114 rfl rfl
set_option maxRecDepth 100000 in
theorem wd_1176 : Cond.code yX12_laysWord cX12_laysWord 5 none ∈ wsU := wsU_at 1937 rfl rfl
set_option maxRecDepth 100000 in
theorem wd_1241 : Cond.fieldLink RX12 410 "SaidShallowModel" "usedMany" "I" ∈ wsU := wsU_at 1501 rfl rfl
set_option maxRecDepth 100000 in
theorem wd_1242 : Cond.fieldLink RX12 416 "SaidShallowModel" "mostAgree" "I" ∈ wsU := wsU_at 1502 rfl rfl
set_option maxRecDepth 100000 in
theorem wd_1243 : Cond.methodLink RX12 389 yX12_marksAll ∈ wsU := wsU_at 1942 rfl rfl
set_option maxRecDepth 100000 in
theorem wd_1244 : Cond.instanceMethod yX12_marksAll ∈ wsU := wsU_at 1944 rfl rfl
set_option maxRecDepth 100000 in
theorem wd_1245 : Cond.selects RX12 yX12_marksAll yX12_marksAll ∈ wsU := wsU_at 116 rfl rfl
set_option maxRecDepth 100000 in
theorem wd_1246 : Cond.code yX12_marksAll cX12_marksAll 2 none ∈ wsU := wsU_at 1945 rfl rfl
set_option maxRecDepth 100000 in
theorem wd_1247 : Cond.methodLink RX12 419 yX12_triesOrders ∈ wsU := wsU_at 1969 rfl rfl
set_option maxRecDepth 100000 in
theorem wd_1248 : Cond.instanceMethod yX12_triesOrders ∈ wsU := wsU_at 1971 rfl rfl
set_option maxRecDepth 100000 in
theorem wd_1249 : Cond.selects RX12 yX12_triesOrders yX12_triesOrders ∈ wsU := wsU_at 118 rfl rfl
set_option maxRecDepth 100000 in
theorem wd_1250 : Cond.code yX12_triesOrders cX12_triesOrders 5 none ∈ wsU := wsU_at 1972 rfl rfl
set_option maxRecDepth 100000 in
theorem wd_1251 : Cond.methodLink RX12 413 yX12_agreeing ∈ wsU := wsU_at 1973 rfl rfl
set_option maxRecDepth 100000 in
theorem wd_1252 : Cond.instanceMethod yX12_agreeing ∈ wsU := wsU_at 1975 rfl rfl
set_option maxRecDepth 100000 in
theorem wd_1253 : Cond.selects RX12 yX12_agreeing yX12_agreeing ∈ wsU := wsU_at 119 rfl rfl
set_option maxRecDepth 100000 in
theorem wd_1254 : Cond.code yX12_agreeing cX12_agreeing 6 (some .int) ∈ wsU := wsU_at 1976 rfl rfl
set_option maxRecDepth 100000 in
theorem wd_1293 : Cond.methodLink RX12 383 yX12_canQuarrel ∈ wsU := wsU_at 1906 rfl rfl
set_option maxRecDepth 100000 in
theorem wd_1294 : Cond.instanceMethod yX12_canQuarrel ∈ wsU := wsU_at 1908 rfl rfl
set_option maxRecDepth 100000 in
theorem wd_1295 : Cond.selects RX12 yX12_canQuarrel yX12_canQuarrel ∈ wsU := wsU_at 108 rfl rfl
set_option maxRecDepth 100000 in
theorem wd_1296 : Cond.code yX12_canQuarrel cX12_canQuarrel 4 (some .boolean) ∈ wsU := wsU_at 1909 rfl rfl
set_option maxRecDepth 100000 in
theorem wd_1301 : Cond.methodLink RX12 386 yX12_fewestPairs ∈ wsU := wsU_at 1914 rfl rfl
set_option maxRecDepth 100000 in
theorem wd_1302 : Cond.instanceMethod yX12_fewestPairs ∈ wsU := wsU_at 1916 rfl rfl
set_option maxRecDepth 100000 in
theorem wd_1303 : Cond.selects RX12 yX12_fewestPairs yX12_fewestPairs ∈ wsU := wsU_at 110 rfl rfl
set_option maxRecDepth 100000 in
theorem wd_1304 : Cond.code yX12_fewestPairs cX12_fewestPairs 10 (some .int) ∈ wsU := wsU_at 1917 rfl rfl
set_option maxRecDepth 100000 in
theorem wd_1305 : Cond.methodLink RX12 374 yX12_sideGoes ∈ wsU := wsU_at 1918 rfl rfl
set_option maxRecDepth 100000 in
theorem wd_1306 : Cond.instanceMethod yX12_sideGoes ∈ wsU := wsU_at 1920 rfl rfl
set_option maxRecDepth 100000 in
theorem wd_1307 : Cond.selects RX12 yX12_sideGoes yX12_sideGoes ∈ wsU := wsU_at 111 rfl rfl
set_option maxRecDepth 100000 in
theorem wd_1308 : Cond.code yX12_sideGoes cX12_sideGoes 5 (some .int) ∈ wsU := wsU_at 1921 rfl rfl
set_option maxRecDepth 100000 in
theorem wd_1334 : Cond.methodLink RX12 401 yX12_partsOf ∈ wsU := wsU_at 1926 rfl rfl
set_option maxRecDepth 100000 in
theorem wd_1335 : Cond.instanceMethod yX12_partsOf ∈ wsU := wsU_at 1928 rfl rfl
set_option maxRecDepth 100000 in
theorem wd_1336 : Cond.selects RX12 yX12_partsOf yX12_partsOf ∈ wsU := wsU_at 112 rfl rfl
set_option maxRecDepth 100000 in
theorem wd_1337 : Cond.code yX12_partsOf cX12_partsOf 6 (some .int) ∈ wsU := wsU_at 1929 rfl rfl
set_option maxRecDepth 100000 in
theorem wd_1338 : Cond.methodLink RX12 398 yX12_isParted ∈ wsU := wsU_at 1938 rfl rfl
set_option maxRecDepth 100000 in
theorem wd_1339 : Cond.instanceMethod yX12_isParted ∈ wsU := wsU_at 1940 rfl rfl
set_option maxRecDepth 100000 in
theorem wd_1340 : Cond.selects RX12 yX12_isParted yX12_isParted ∈ wsU := wsU_at 115 rfl rfl
set_option maxRecDepth 100000 in
theorem wd_1341 : Cond.code yX12_isParted cX12_isParted 5 (some .boolean) ∈ wsU := wsU_at 1941 rfl rfl
set_option maxRecDepth 100000 in
theorem wd_1350 : Cond.methodLink RX12 404 yX12_isUsed ∈ wsU := wsU_at 1950 rfl rfl
set_option maxRecDepth 100000 in
theorem wd_1351 : Cond.instanceMethod yX12_isUsed ∈ wsU := wsU_at 1952 rfl rfl
set_option maxRecDepth 100000 in
theorem wd_1352 : Cond.selects RX12 yX12_isUsed yX12_isUsed ∈ wsU := wsU_at 117 rfl rfl
set_option maxRecDepth 100000 in
theorem wd_1353 : Cond.code yX12_isUsed cX12_isUsed 2 (some .boolean) ∈ wsU := wsU_at 1953 rfl rfl
set_option maxRecDepth 100000 in
theorem wd_1380 : Cond.methodLink RX12 407 yX12_count ∈ wsU := wsU_at 1958 rfl rfl
set_option maxRecDepth 100000 in
theorem wd_1381 : Cond.static yX12_count ∈ wsU := wsU_at 1959 rfl rfl
set_option maxRecDepth 100000 in
theorem wd_1382 : Cond.code yX12_count cX12_count 3 (some .int) ∈ wsU := wsU_at 1960 rfl rfl
set_option maxRecDepth 100000 in
theorem wd_1424 : Cond.methodLink RX12 425 yX12_firstWrong ∈ wsU := wsU_at 1985 rfl rfl
set_option maxRecDepth 100000 in
theorem wd_1425 : Cond.instanceMethod yX12_firstWrong ∈ wsU := wsU_at 1987 rfl rfl
set_option maxRecDepth 100000 in
theorem wd_1426 : Cond.selects RX12 yX12_firstWrong yX12_firstWrong ∈ wsU := wsU_at 120 rfl rfl
set_option maxRecDepth 100000 in
theorem wd_1427 : Cond.code yX12_firstWrong cX12_firstWrong 3 (some .int) ∈ wsU := wsU_at 1988 rfl rfl
set_option maxRecDepth 100000 in
theorem wd_1428 : Cond.methodLink RX12 422 yX12_isRight ∈ wsU := wsU_at 1989 rfl rfl
set_option maxRecDepth 100000 in
theorem wd_1429 : Cond.instanceMethod yX12_isRight ∈ wsU := wsU_at 1991 rfl rfl
set_option maxRecDepth 100000 in
theorem wd_1430 : Cond.selects RX12 yX12_isRight yX12_isRight ∈ wsU := wsU_at 121 rfl rfl
set_option maxRecDepth 100000 in
theorem wd_1431 : Cond.code yX12_isRight cX12_isRight 5 (some .boolean) ∈ wsU := wsU_at 1992 rfl rfl
set_option maxRecDepth 100000 in
theorem wd_1443 : Cond.instanceMethod yX12_learn ∈ wsU := wsU_at 1994 rfl rfl
set_option maxRecDepth 100000 in
theorem wd_1444 : Cond.selects RX12 yX12_learn yX12_learn ∈ wsU := wsU_at 1995 rfl rfl
set_option maxRecDepth 100000 in
theorem wd_1445 : Cond.code yX12_learn cX12_learn 3 (some .int) ∈ wsU := wsU_at 1996 rfl rfl
set_option maxRecDepth 100000 in
theorem wd_1455 : Cond.methodLink RX12 428 yX12_learn ∈ wsU := wsU_at 2001 rfl rfl
set_option maxRecDepth 100000 in
theorem wd_1483 : Cond.fieldLink RX12 431 "SaidShallowModel" "hasImage" "Z" ∈ wsU := wsU_at 1452 rfl rfl
theorem ti_11 : (11 : Int32).toInt = 11 := by decide
theorem ti_15 : (15 : Int32).toInt = 15 := by decide
theorem ti_19 : (19 : Int32).toInt = 19 := by decide
theorem ti_39 : (39 : Int32).toInt = 39 := by decide
theorem ti_49 : (49 : Int32).toInt = 49 := by decide
theorem ti_90 : (90 : Int32).toInt = 90 := by decide
theorem ti_220 : (220 : Int32).toInt = 220 := by decide

set_option maxRecDepth 100000 in
theorem wd_33 : Cond.initialized RX2 ∈ wsU := wsU_at 133 rfl rfl
set_option maxRecDepth 100000 in
theorem wd_151 : Cond.fieldLink RX2 18 "SaidShallow$Reader" "faultPlace" "I" ∈ wsU := wsU_at 540 rfl rfl
set_option maxRecDepth 100000 in
theorem wd_152 : Cond.fieldLink RX2 22 "SaidShallow$Reader" "signs" "[I" ∈ wsU := wsU_at 542 rfl rfl
set_option maxRecDepth 100000 in
theorem wd_251 : Cond.fieldLink RX2 32 "SaidShallow$Reader" "length" "I" ∈ wsU := wsU_at 543 rfl rfl
set_option maxRecDepth 100000 in
theorem wd_256 : Cond.fieldLink RX2 41 "SaidShallow$Reader" "at" "I" ∈ wsU := wsU_at 544 rfl rfl
set_option maxRecDepth 100000 in
theorem wd_257 : Cond.fieldLink RX2 44 "SaidShallow$Reader" "faultKind" "I" ∈ wsU := wsU_at 538 rfl rfl
set_option maxRecDepth 100000 in
theorem wd_274 : Cond.methodLink RX2 50 yX2_peek ∈ wsU := wsU_at 711 rfl rfl
set_option maxRecDepth 100000 in
theorem wd_275 : Cond.instanceMethod yX2_peek ∈ wsU := wsU_at 713 rfl rfl
set_option maxRecDepth 100000 in
theorem wd_276 : Cond.selects RX2 yX2_peek yX2_peek ∈ wsU := wsU_at 2 rfl rfl
set_option maxRecDepth 100000 in
theorem wd_277 : Cond.code yX2_peek cX2_peek 1 (some .int) ∈ wsU := wsU_at 714 rfl rfl
set_option maxRecDepth 100000 in
theorem wd_284 : Cond.methodLink RX2 69 yX2_isSmall ∈ wsU := wsU_at 719 rfl rfl
set_option maxRecDepth 100000 in
theorem wd_285 : Cond.static yX2_isSmall ∈ wsU := wsU_at 720 rfl rfl
set_option maxRecDepth 100000 in
theorem wd_286 : Cond.code yX2_isSmall cX2_isSmall 1 (some .boolean) ∈ wsU := wsU_at 721 rfl rfl
set_option maxRecDepth 100000 in
theorem wd_294 : Cond.initialized RJ0 ∈ wsU := wsU_at 139 rfl rfl
set_option maxRecDepth 100000 in
theorem wd_296 : Cond.fieldLink RJ0 9 "java/lang/String" "value" "[B" ∈ wsU := wsU_at 2014 rfl rfl
set_option maxRecDepth 100000 in
theorem wd_297 : Cond.methodLink RJ0 335 yJ0_coder_7d493 ∈ wsU := wsU_at 731 rfl rfl
set_option maxRecDepth 100000 in
theorem wd_298 : Cond.instanceMethod yJ0_coder_7d493 ∈ wsU := wsU_at 732 rfl rfl
set_option maxRecDepth 100000 in
theorem wd_299 : Cond.selects RJ0 yJ0_coder_7d493 yJ0_coder_7d493 ∈ wsU := wsU_at 733 rfl rfl
set_option maxRecDepth 100000 in
theorem wd_300 : Cond.code yJ0_coder_7d493 cJ0_coder_7d493 1 (some .byte) ∈ wsU := wsU_at 734 rfl rfl
set_option maxRecDepth 100000 in
theorem wd_301 : Cond.fieldLink RJ0 38 "java/lang/String" "COMPACT_STRINGS" "Z" ∈ wsU := wsU_at 735 rfl rfl
set_option maxRecDepth 100000 in
theorem wd_302 : Cond.fieldLink RJ0 15 "java/lang/String" "coder" "B" ∈ wsU := wsU_at 2015 rfl rfl
set_option maxRecDepth 100000 in
theorem wd_307 : Cond.methodLink RJ0 492 yJ0_isLatin1_aae02 ∈ wsU := wsU_at 741 rfl rfl
set_option maxRecDepth 100000 in
theorem wd_308 : Cond.instanceMethod yJ0_isLatin1_aae02 ∈ wsU := wsU_at 742 rfl rfl
set_option maxRecDepth 100000 in
theorem wd_309 : Cond.selects RJ0 yJ0_isLatin1_aae02 yJ0_isLatin1_aae02 ∈ wsU := wsU_at 743 rfl rfl
set_option maxRecDepth 100000 in
theorem wd_310 : Cond.code yJ0_isLatin1_aae02 cJ0_isLatin1_aae02 1 (some .boolean) ∈ wsU := wsU_at 744 rfl rfl
set_option maxRecDepth 100000 in
theorem wd_311 : Cond.methodLink RJ0 495 yJ1_charAt_3b067 ∈ wsU := wsU_at 745 rfl rfl
set_option maxRecDepth 100000 in
theorem wd_312 : Cond.static yJ1_charAt_3b067 ∈ wsU := wsU_at 746 rfl rfl
set_option maxRecDepth 100000 in
theorem wd_313 : Cond.initialized RJ1 ∈ wsU := wsU_at 140 rfl rfl
set_option maxRecDepth 100000 in
theorem wd_314 : Cond.code yJ1_charAt_3b067 cJ1_charAt_3b067 2 (some .char) ∈ wsU := wsU_at 747 rfl rfl
set_option maxRecDepth 100000 in
theorem wd_315 : Cond.methodLink RJ1 9 yJ0_checkIndex_df160 ∈ wsU := wsU_at 748 rfl rfl
set_option maxRecDepth 100000 in
theorem wd_316 : Cond.static yJ0_checkIndex_df160 ∈ wsU := wsU_at 749 rfl rfl
set_option maxRecDepth 100000 in
theorem wd_317 : Cond.code yJ0_checkIndex_df160 cJ0_checkIndex_df160 2 none ∈ wsU := wsU_at 750 rfl rfl
set_option maxRecDepth 100000 in
theorem wd_318 : Cond.fieldLink RJ0 1053 "jdk/internal/util/Preconditions" "SIOOBE_FORMATTER" "Ljava/util/function/BiFunction;" ∈ wsU := wsU_at 751 rfl rfl
set_option maxRecDepth 100000 in
theorem wd_319 : Cond.methodLink RJ0 1059 yJ3_checkIndex_8e157 ∈ wsU := wsU_at 753 rfl rfl
set_option maxRecDepth 100000 in
theorem wd_320 : Cond.static yJ3_checkIndex_8e157 ∈ wsU := wsU_at 754 rfl rfl
set_option maxRecDepth 100000 in
theorem wd_321 : Cond.initialized RJ3 ∈ wsU := wsU_at 141 rfl rfl
set_option maxRecDepth 100000 in
theorem wd_322 : Cond.code yJ3_checkIndex_8e157 cJ3_checkIndex_8e157 3 (some .int) ∈ wsU := wsU_at 755 rfl rfl
set_option maxRecDepth 100000 in
theorem wd_349 : Cond.methodLink RX2 65 yX2_fail ∈ wsU := wsU_at 783 rfl rfl
set_option maxRecDepth 100000 in
theorem wd_350 : Cond.instanceMethod yX2_fail ∈ wsU := wsU_at 785 rfl rfl
set_option maxRecDepth 100000 in
theorem wd_351 : Cond.selects RX2 yX2_fail yX2_fail ∈ wsU := wsU_at 6 rfl rfl
set_option maxRecDepth 100000 in
theorem wd_352 : Cond.code yX2_fail cX2_fail 3 (some .boolean) ∈ wsU := wsU_at 786 rfl rfl
set_option maxRecDepth 100000 in
theorem wd_366 : Cond.methodLink RX2 72 yX2_isClass ∈ wsU := wsU_at 800 rfl rfl
set_option maxRecDepth 100000 in
theorem wd_367 : Cond.static yX2_isClass ∈ wsU := wsU_at 801 rfl rfl
set_option maxRecDepth 100000 in
theorem wd_368 : Cond.code yX2_isClass cX2_isClass 1 (some .boolean) ∈ wsU := wsU_at 802 rfl rfl
set_option maxRecDepth 100000 in
theorem wd_384 : Cond.methodLink RX2 61 yX2_skipIf ∈ wsU := wsU_at 816 rfl rfl
set_option maxRecDepth 100000 in
theorem wd_385 : Cond.instanceMethod yX2_skipIf ∈ wsU := wsU_at 818 rfl rfl
set_option maxRecDepth 100000 in
theorem wd_386 : Cond.selects RX2 yX2_skipIf yX2_skipIf ∈ wsU := wsU_at 12 rfl rfl
set_option maxRecDepth 100000 in
theorem wd_387 : Cond.code yX2_skipIf cX2_skipIf 2 (some .boolean) ∈ wsU := wsU_at 819 rfl rfl
set_option maxRecDepth 100000 in
theorem wd_1268 : Cond.methodLink RX4 114 yX5_shortestCommon ∈ wsU := wsU_at 1308 rfl rfl
set_option maxRecDepth 100000 in
theorem wd_1269 : Cond.instanceMethod yX5_shortestCommon ∈ wsU := wsU_at 1309 rfl rfl
set_option maxRecDepth 100000 in
theorem wd_1270 : Cond.selects RX5 yX5_shortestCommon yX5_shortestCommon ∈ wsU := wsU_at 1310 rfl rfl
set_option maxRecDepth 100000 in
theorem wd_1271 : Cond.code yX5_shortestCommon cX5_shortestCommon 14 (some .int) ∈ wsU := wsU_at 1311 rfl rfl
set_option maxRecDepth 100000 in
theorem wd_1272 : Cond.methodLink RX5 65 yX5_couplesOf ∈ wsU := wsU_at 1312 rfl rfl
set_option maxRecDepth 100000 in
theorem wd_1273 : Cond.static yX5_couplesOf ∈ wsU := wsU_at 1313 rfl rfl
set_option maxRecDepth 100000 in
theorem wd_1274 : Cond.code yX5_couplesOf cX5_couplesOf 5 (some .long) ∈ wsU := wsU_at 1314 rfl rfl
set_option maxRecDepth 100000 in
theorem wd_1275 : Cond.methodLink RX5 69 yX5_moveCouples ∈ wsU := wsU_at 1315 rfl rfl
set_option maxRecDepth 100000 in
theorem wd_1276 : Cond.instanceMethod yX5_moveCouples ∈ wsU := wsU_at 1317 rfl rfl
set_option maxRecDepth 100000 in
theorem wd_1277 : Cond.selects RX5 yX5_moveCouples yX5_moveCouples ∈ wsU := wsU_at 51 rfl rfl
set_option maxRecDepth 100000 in
theorem wd_1278 : Cond.code yX5_moveCouples cX5_moveCouples 12 (some .long) ∈ wsU := wsU_at 1318 rfl rfl
set_option maxRecDepth 100000 in
theorem wd_1279 : Cond.methodLink RX5 73 yX5_moveAlone ∈ wsU := wsU_at 1319 rfl rfl
set_option maxRecDepth 100000 in
theorem wd_1280 : Cond.instanceMethod yX5_moveAlone ∈ wsU := wsU_at 1321 rfl rfl
set_option maxRecDepth 100000 in
theorem wd_1281 : Cond.selects RX5 yX5_moveAlone yX5_moveAlone ∈ wsU := wsU_at 52 rfl rfl
set_option maxRecDepth 100000 in
theorem wd_1282 : Cond.code yX5_moveAlone cX5_moveAlone 8 (some .int) ∈ wsU := wsU_at 1322 rfl rfl
set_option maxRecDepth 100000 in
theorem wd_1283 : Cond.constant RX5 81 (133152) ∈ wsU := wsU_at 1324 rfl rfl
set_option maxRecDepth 100000 in
theorem wd_1284 : Cond.methodLink RX5 77 yX5_step ∈ wsU := wsU_at 1323 rfl rfl
theorem ti_32 : (32 : Int32).toInt = 32 := by decide
theorem ti_48 : (48 : Int32).toInt = 48 := by decide
theorem ti_65 : (65 : Int32).toInt = 65 := by decide
theorem ti_71 : (71 : Int32).toInt = 71 := by decide

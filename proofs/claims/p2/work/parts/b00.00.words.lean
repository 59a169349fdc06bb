set_option maxRecDepth 100000 in
theorem wd_2 : Cond.initialized RX11 ∈ wsU := wsU_at 123 rfl rfl
set_option maxRecDepth 100000 in
theorem wd_13 : Cond.fieldLink RX11 9 "SaidShallow" "tape" "[I" ∈ wsU := wsU_at 612 rfl rfl
set_option maxRecDepth 100000 in
theorem wd_16 : Cond.initialized RX3 ∈ wsU := wsU_at 124 rfl rfl
set_option maxRecDepth 100000 in
theorem wd_19 : Cond.fieldLink RX11 24 "SaidShallow" "tongue" "LSaidShallow$Tongue;" ∈ wsU := wsU_at 615 rfl rfl
set_option maxRecDepth 100000 in
theorem wd_24 : Cond.initialized RX6 ∈ wsU := wsU_at 132 rfl rfl
set_option maxRecDepth 100000 in
theorem wd_25 : Cond.fieldLink RX11 33 "SaidShallow" "standing" "LSaidShallow$Standing;" ∈ wsU := wsU_at 617 rfl rfl
set_option maxRecDepth 100000 in
theorem wd_28 : Cond.initialized RX7 ∈ wsU := wsU_at 125 rfl rfl
set_option maxRecDepth 100000 in
theorem wd_34 : Cond.fieldLink RX11 49 "SaidShallow" "reader" "LSaidShallow$Reader;" ∈ wsU := wsU_at 621 rfl rfl
set_option maxRecDepth 100000 in
theorem wd_39 : Cond.fieldLink RX11 60 "SaidShallow" "couples" "[I" ∈ wsU := wsU_at 623 rfl rfl
set_option maxRecDepth 100000 in
theorem wd_40 : Cond.fieldLink RX11 63 "SaidShallow" "brokenPlace" "I" ∈ wsU := wsU_at 625 rfl rfl
set_option maxRecDepth 100000 in
theorem wd_41 : Cond.fieldLink RX11 67 "SaidShallow" "agedWord" "[I" ∈ wsU := wsU_at 626 rfl rfl
set_option maxRecDepth 100000 in
theorem wd_48 : Cond.fieldLink RX3 14 "SaidShallow$Rows" "tongue" "LSaidShallow$Tongue;" ∈ wsU := wsU_at 422 rfl rfl
set_option maxRecDepth 100000 in
theorem wd_55 : Cond.initialized RX8 ∈ wsU := wsU_at 130 rfl rfl
set_option maxRecDepth 100000 in
theorem wd_61 : Cond.fieldLink RX3 39 "SaidShallow$Rows" "given" "[I" ∈ wsU := wsU_at 429 rfl rfl
set_option maxRecDepth 100000 in
theorem wd_62 : Cond.fieldLink RX3 43 "SaidShallow$Rows" "wanted" "I" ∈ wsU := wsU_at 436 rfl rfl
set_option maxRecDepth 100000 in
theorem wd_63 : Cond.fieldLink RX3 47 "SaidShallow$Rows" "row" "[I" ∈ wsU := wsU_at 437 rfl rfl
set_option maxRecDepth 100000 in
theorem wd_64 : Cond.fieldLink RX3 50 "SaidShallow$Rows" "codes" "[I" ∈ wsU := wsU_at 438 rfl rfl
set_option maxRecDepth 100000 in
theorem wd_66 : Cond.fieldLink RX3 56 "SaidShallow$Rows" "marks" "[I" ∈ wsU := wsU_at 444 rfl rfl
set_option maxRecDepth 100000 in
theorem wd_67 : Cond.fieldLink RX3 59 "SaidShallow$Rows" "needed" "[I" ∈ wsU := wsU_at 445 rfl rfl
set_option maxRecDepth 100000 in
theorem wd_72 : Cond.fieldLink RX7 9 "SaidShallow$Tongue" "signAt" "[I" ∈ wsU := wsU_at 275 rfl rfl
set_option maxRecDepth 100000 in
theorem wd_73 : Cond.fieldLink RX7 15 "SaidShallow$Tongue" "classes" "[I" ∈ wsU := wsU_at 281 rfl rfl
set_option maxRecDepth 100000 in
theorem wd_74 : Cond.fieldLink RX7 18 "SaidShallow$Tongue" "pairAt" "[I" ∈ wsU := wsU_at 284 rfl rfl
set_option maxRecDepth 100000 in
theorem wd_75 : Cond.fieldLink RX7 21 "SaidShallow$Tongue" "deepOf" "[I" ∈ wsU := wsU_at 285 rfl rfl
set_option maxRecDepth 100000 in
theorem wd_76 : Cond.fieldLink RX7 24 "SaidShallow$Tongue" "saidOf" "[I" ∈ wsU := wsU_at 289 rfl rfl
set_option maxRecDepth 100000 in
theorem wd_77 : Cond.fieldLink RX7 27 "SaidShallow$Tongue" "extrasOfDeep" "[I" ∈ wsU := wsU_at 297 rfl rfl
set_option maxRecDepth 100000 in
theorem wd_78 : Cond.fieldLink RX7 30 "SaidShallow$Tongue" "extrasOfSaid" "[I" ∈ wsU := wsU_at 298 rfl rfl
set_option maxRecDepth 100000 in
theorem wd_79 : Cond.fieldLink RX7 33 "SaidShallow$Tongue" "pairsOfDeep" "[I" ∈ wsU := wsU_at 299 rfl rfl
set_option maxRecDepth 100000 in
theorem wd_80 : Cond.fieldLink RX7 36 "SaidShallow$Tongue" "pairsOfSaid" "[I" ∈ wsU := wsU_at 301 rfl rfl
set_option maxRecDepth 100000 in
theorem wd_82 : Cond.fieldLink RX7 41 "SaidShallow$Tongue" "rules" "[LSaidShallow$Rule;" ∈ wsU := wsU_at 303 rfl rfl
set_option maxRecDepth 100000 in
theorem wd_85 : Cond.initialized RX9 ∈ wsU := wsU_at 126 rfl rfl
set_option maxRecDepth 100000 in
theorem wd_86 : Cond.fieldLink RX7 50 "SaidShallow$Tongue" "stems" "LSaidShallow$WordList;" ∈ wsU := wsU_at 314 rfl rfl
set_option maxRecDepth 100000 in
theorem wd_87 : Cond.fieldLink RX7 54 "SaidShallow$Tongue" "ends" "LSaidShallow$WordList;" ∈ wsU := wsU_at 317 rfl rfl
set_option maxRecDepth 100000 in
theorem wd_90 : Cond.initialized RX4 ∈ wsU := wsU_at 127 rfl rfl
set_option maxRecDepth 100000 in
theorem wd_95 : Cond.fieldLink RX9 9 "SaidShallow$WordList" "signs" "[I" ∈ wsU := wsU_at 172 rfl rfl
set_option maxRecDepth 100000 in
theorem wd_96 : Cond.fieldLink RX9 15 "SaidShallow$WordList" "lengths" "[I" ∈ wsU := wsU_at 173 rfl rfl
set_option maxRecDepth 100000 in
theorem wd_102 : Cond.initialized RX5 ∈ wsU := wsU_at 128 rfl rfl
set_option maxRecDepth 100000 in
theorem wd_103 : Cond.fieldLink RX4 12 "SaidShallow$Rule" "left" "LSaidShallow$Side;" ∈ wsU := wsU_at 233 rfl rfl
set_option maxRecDepth 100000 in
theorem wd_104 : Cond.fieldLink RX4 18 "SaidShallow$Rule" "right" "LSaidShallow$Side;" ∈ wsU := wsU_at 237 rfl rfl
set_option maxRecDepth 100000 in
theorem wd_105 : Cond.fieldLink RX4 21 "SaidShallow$Rule" "roles" "[I" ∈ wsU := wsU_at 240 rfl rfl
set_option maxRecDepth 100000 in
theorem wd_106 : Cond.fieldLink RX4 25 "SaidShallow$Rule" "opened" "[I" ∈ wsU := wsU_at 242 rfl rfl
set_option maxRecDepth 100000 in
theorem wd_110 : Cond.fieldLink RX5 11 "SaidShallow$Side" "deepSets" "[I" ∈ wsU := wsU_at 198 rfl rfl
set_option maxRecDepth 100000 in
theorem wd_111 : Cond.fieldLink RX5 15 "SaidShallow$Side" "saidSets" "[I" ∈ wsU := wsU_at 199 rfl rfl
set_option maxRecDepth 100000 in
theorem wd_112 : Cond.fieldLink RX5 18 "SaidShallow$Side" "fitting" "[I" ∈ wsU := wsU_at 200 rfl rfl
set_option maxRecDepth 100000 in
theorem wd_116 : Cond.fieldLink RX10 11 "SaidShallow$Words" "codes" "[I" ∈ wsU := wsU_at 360 rfl rfl
set_option maxRecDepth 100000 in
theorem wd_120 : Cond.fieldLink RX8 13 "SaidShallow$Track" "left" "[I" ∈ wsU := wsU_at 379 rfl rfl
set_option maxRecDepth 100000 in
theorem wd_121 : Cond.fieldLink RX8 17 "SaidShallow$Track" "barred" "[I" ∈ wsU := wsU_at 380 rfl rfl
set_option maxRecDepth 100000 in
theorem wd_122 : Cond.fieldLink RX8 20 "SaidShallow$Track" "owedCount" "[I" ∈ wsU := wsU_at 381 rfl rfl
set_option maxRecDepth 100000 in
theorem wd_123 : Cond.fieldLink RX8 23 "SaidShallow$Track" "owed" "[I" ∈ wsU := wsU_at 382 rfl rfl
set_option maxRecDepth 100000 in
theorem wd_124 : Cond.fieldLink RX8 26 "SaidShallow$Track" "broken" "[I" ∈ wsU := wsU_at 383 rfl rfl
set_option maxRecDepth 100000 in
theorem wd_136 : Cond.fieldLink RX6 9 "SaidShallow$Standing" "slack" "I" ∈ wsU := wsU_at 494 rfl rfl
set_option maxRecDepth 100000 in
theorem wd_137 : Cond.fieldLink RX6 15 "SaidShallow$Standing" "order" "[I" ∈ wsU := wsU_at 497 rfl rfl
set_option maxRecDepth 100000 in
theorem wd_139 : Cond.fieldLink RX6 24 "SaidShallow$Standing" "deeps" "LSaidShallow$WordList;" ∈ wsU := wsU_at 499 rfl rfl
set_option maxRecDepth 100000 in
theorem wd_140 : Cond.fieldLink RX6 28 "SaidShallow$Standing" "saids" "LSaidShallow$WordList;" ∈ wsU := wsU_at 501 rfl rfl
set_option maxRecDepth 100000 in
theorem wd_141 : Cond.fieldLink RX6 31 "SaidShallow$Standing" "breaks" "[I" ∈ wsU := wsU_at 504 rfl rfl
set_option maxRecDepth 100000 in
theorem wd_142 : Cond.fieldLink RX6 34 "SaidShallow$Standing" "ways" "[I" ∈ wsU := wsU_at 505 rfl rfl
set_option maxRecDepth 100000 in
theorem wd_158 : Cond.fieldLink RX0 15 "SaidShallow$BestOrder" "agrees" "[I" ∈ wsU := wsU_at 577 rfl rfl
set_option maxRecDepth 100000 in
theorem wd_160 : Cond.fieldLink RX0 21 "SaidShallow$BestOrder" "path" "[I" ∈ wsU := wsU_at 580 rfl rfl
set_option maxRecDepth 100000 in
theorem wd_161 : Cond.fieldLink RX0 24 "SaidShallow$BestOrder" "stages" "[I" ∈ wsU := wsU_at 581 rfl rfl
set_option maxRecDepth 100000 in
theorem wd_162 : Cond.fieldLink RX0 27 "SaidShallow$BestOrder" "best" "[I" ∈ wsU := wsU_at 582 rfl rfl
set_option maxRecDepth 100000 in
theorem wd_209 : Cond.fieldLink RX11 76 "SaidShallow" "tapeLength" "I" ∈ wsU := wsU_at 613 rfl rfl
set_option maxRecDepth 100000 in
theorem wd_210 : Cond.methodLink RX11 79 yX11_putNumber ∈ wsU := wsU_at 674 rfl rfl
set_option maxRecDepth 100000 in
theorem wd_211 : Cond.instanceMethod yX11_putNumber ∈ wsU := wsU_at 676 rfl rfl
set_option maxRecDepth 100000 in
theorem wd_212 : Cond.selects RX11 yX11_putNumber yX11_putNumber ∈ wsU := wsU_at 0 rfl rfl
set_option maxRecDepth 100000 in
theorem wd_213 : Cond.code yX11_putNumber cX11_putNumber 3 none ∈ wsU := wsU_at 677 rfl rfl
set_option maxRecDepth 100000 in
theorem wd_235 : Cond.fieldLink RX11 98 "SaidShallow$Tongue" "ruleCount" "I" ∈ wsU := wsU_at 311 rfl rfl
set_option maxRecDepth 100000 in
theorem wd_236 : Cond.fieldLink RX11 104 "SaidShallow" "changes" "I" ∈ wsU := wsU_at 630 rfl rfl
set_option maxRecDepth 100000 in
theorem wd_237 : Cond.fieldLink RX11 112 "SaidShallow" "coupleCount" "I" ∈ wsU := wsU_at 624 rfl rfl
set_option maxRecDepth 100000 in
theorem wd_238 : Cond.fieldLink RX11 115 "SaidShallow" "agedLength" "I" ∈ wsU := wsU_at 627 rfl rfl
set_option maxRecDepth 100000 in
theorem wd_248 : Cond.static Lib.Math.min.name ∈ wsU := wsU_at 695 rfl rfl
set_option maxRecDepth 100000 in
theorem wd_249 : Cond.initialized "java/lang/Math" ∈ wsU := wsU_at 136 rfl rfl
set_option maxRecDepth 100000 in
theorem wd_250 : Cond.code Lib.Math.min.name Lib.Math.min.code 2 (some .int) ∈ wsU := wsU_at 696 rfl rfl
set_option maxRecDepth 100000 in
theorem wd_253 : Cond.native arraycopyName ∈ wsU := wsU_at 699 rfl rfl
set_option maxRecDepth 100000 in
theorem wd_254 : Cond.static arraycopyName ∈ wsU := wsU_at 698 rfl rfl
set_option maxRecDepth 100000 in
theorem wd_255 : Cond.initialized "java/lang/System" ∈ wsU := wsU_at 137 rfl rfl
set_option maxRecDepth 100000 in
theorem wd_262 : Cond.fieldLink RX7 67 "SaidShallow$Tongue" "letterCount" "I" ∈ wsU := wsU_at 276 rfl rfl
set_option maxRecDepth 100000 in
theorem wd_263 : Cond.fieldLink RX7 71 "SaidShallow$Tongue" "pairCount" "I" ∈ wsU := wsU_at 293 rfl rfl
set_option maxRecDepth 100000 in
theorem wd_264 : Cond.fieldLink RX7 74 "SaidShallow$Tongue" "ruleCount" "I" ∈ wsU := wsU_at 309 rfl rfl
set_option maxRecDepth 100000 in
theorem wd_265 : Cond.methodLink RX7 61 yJ7_fill_53178 ∈ wsU := wsU_at 704 rfl rfl
set_option maxRecDepth 100000 in
theorem wd_266 : Cond.static yJ7_fill_53178 ∈ wsU := wsU_at 705 rfl rfl
set_option maxRecDepth 100000 in
theorem wd_267 : Cond.initialized RJ7 ∈ wsU := wsU_at 138 rfl rfl
set_option maxRecDepth 100000 in
theorem wd_268 : Cond.code yJ7_fill_53178 cJ7_fill_53178 4 none ∈ wsU := wsU_at 706 rfl rfl
set_option maxRecDepth 100000 in
theorem wd_269 : Cond.methodLink RX7 77 yX9_clear ∈ wsU := wsU_at 707 rfl rfl
set_option maxRecDepth 100000 in
theorem wd_270 : Cond.instanceMethod yX9_clear ∈ wsU := wsU_at 708 rfl rfl
set_option maxRecDepth 100000 in
theorem wd_271 : Cond.selects RX9 yX9_clear yX9_clear ∈ wsU := wsU_at 709 rfl rfl
set_option maxRecDepth 100000 in
theorem wd_272 : Cond.code yX9_clear cX9_clear 1 none ∈ wsU := wsU_at 710 rfl rfl
set_option maxRecDepth 100000 in
theorem wd_273 : Cond.fieldLink RX9 18 "SaidShallow$WordList" "count" "I" ∈ wsU := wsU_at 175 rfl rfl
set_option maxRecDepth 100000 in
theorem wd_346 : Cond.instanceMethod yX7_signOf ∈ wsU := wsU_at 780 rfl rfl
set_option maxRecDepth 100000 in
theorem wd_347 : Cond.selects RX7 yX7_signOf yX7_signOf ∈ wsU := wsU_at 781 rfl rfl
set_option maxRecDepth 100000 in
theorem wd_348 : Cond.code yX7_signOf cX7_signOf 2 (some .int) ∈ wsU := wsU_at 782 rfl rfl
set_option maxRecDepth 100000 in
theorem wd_407 : Cond.fieldLink RX4 28 "SaidShallow$Rule" "deep" "I" ∈ wsU := wsU_at 218 rfl rfl
set_option maxRecDepth 100000 in
theorem wd_408 : Cond.fieldLink RX4 32 "SaidShallow$Rule" "said" "I" ∈ wsU := wsU_at 223 rfl rfl
set_option maxRecDepth 100000 in
theorem wd_409 : Cond.fieldLink RX4 35 "SaidShallow$Rule" "op" "I" ∈ wsU := wsU_at 226 rfl rfl
set_option maxRecDepth 100000 in
theorem wd_410 : Cond.fieldLink RX4 38 "SaidShallow$Rule" "contexts" "I" ∈ wsU := wsU_at 230 rfl rfl
set_option maxRecDepth 100000 in
theorem wd_411 : Cond.methodLink RX4 41 yX5_clear ∈ wsU := wsU_at 837 rfl rfl
set_option maxRecDepth 100000 in
theorem wd_412 : Cond.instanceMethod yX5_clear ∈ wsU := wsU_at 838 rfl rfl
set_option maxRecDepth 100000 in
theorem wd_413 : Cond.selects RX5 yX5_clear yX5_clear ∈ wsU := wsU_at 839 rfl rfl
set_option maxRecDepth 100000 in
theorem wd_414 : Cond.code yX5_clear cX5_clear 1 none ∈ wsU := wsU_at 840 rfl rfl
set_option maxRecDepth 100000 in
theorem wd_415 : Cond.fieldLink RX5 27 "SaidShallow$Side" "starred" "I" ∈ wsU := wsU_at 201 rfl rfl
set_option maxRecDepth 100000 in
theorem wd_416 : Cond.fieldLink RX5 31 "SaidShallow$Side" "starts" "I" ∈ wsU := wsU_at 202 rfl rfl
set_option maxRecDepth 100000 in
theorem wd_417 : Cond.fieldLink RX5 34 "SaidShallow$Side" "edges" "I" ∈ wsU := wsU_at 204 rfl rfl
set_option maxRecDepth 100000 in
theorem wd_418 : Cond.methodLink RX5 21 yJ7_fill_53178 ∈ wsU := wsU_at 841 rfl rfl
set_option maxRecDepth 100000 in
theorem wd_429 : Cond.instanceMethod yX4_isAlways ∈ wsU := wsU_at 856 rfl rfl
set_option maxRecDepth 100000 in
theorem wd_430 : Cond.selects RX4 yX4_isAlways yX4_isAlways ∈ wsU := wsU_at 16 rfl rfl
set_option maxRecDepth 100000 in
theorem wd_431 : Cond.code yX4_isAlways cX4_isAlways 1 (some .boolean) ∈ wsU := wsU_at 857 rfl rfl
set_option maxRecDepth 100000 in
theorem wd_466 : Cond.methodLink RX5 37 arraycopyName ∈ wsU := wsU_at 889 rfl rfl
set_option maxRecDepth 100000 in
theorem wd_474 : Cond.instanceMethod yX9_open ∈ wsU := wsU_at 896 rfl rfl
set_option maxRecDepth 100000 in
theorem wd_475 : Cond.selects RX9 yX9_open yX9_open ∈ wsU := wsU_at 897 rfl rfl
set_option maxRecDepth 100000 in
theorem wd_476 : Cond.code yX9_open cX9_open 1 none ∈ wsU := wsU_at 898 rfl rfl
set_option maxRecDepth 100000 in
theorem wd_485 : Cond.methodLink RX7 101 yX4_compile ∈ wsU := wsU_at 908 rfl rfl
set_option maxRecDepth 100000 in
theorem wd_486 : Cond.instanceMethod yX4_compile ∈ wsU := wsU_at 909 rfl rfl
set_option maxRecDepth 100000 in
theorem wd_487 : Cond.selects RX4 yX4_compile yX4_compile ∈ wsU := wsU_at 910 rfl rfl
set_option maxRecDepth 100000 in
theorem wd_488 : Cond.code yX4_compile cX4_compile 5 none ∈ wsU := wsU_at 911 rfl rfl
set_option maxRecDepth 100000 in
theorem wd_489 : Cond.fieldLink RX4 67 "SaidShallow$Tongue" "pairCount" "I" ∈ wsU := wsU_at 294 rfl rfl
set_option maxRecDepth 100000 in
theorem wd_490 : Cond.fieldLink RX4 72 "SaidShallow$Tongue" "deepOf" "[I" ∈ wsU := wsU_at 286 rfl rfl
set_option maxRecDepth 100000 in
theorem wd_491 : Cond.fieldLink RX4 75 "SaidShallow$Tongue" "saidOf" "[I" ∈ wsU := wsU_at 290 rfl rfl
set_option maxRecDepth 100000 in
theorem wd_492 : Cond.fieldLink RX4 86 "SaidShallow$Side" "starts" "I" ∈ wsU := wsU_at 203 rfl rfl
set_option maxRecDepth 100000 in
theorem wd_493 : Cond.fieldLink RX4 54 "SaidShallow$Rule" "atStart" "I" ∈ wsU := wsU_at 245 rfl rfl
set_option maxRecDepth 100000 in
theorem wd_494 : Cond.fieldLink RX4 57 "SaidShallow$Rule" "anywhere" "I" ∈ wsU := wsU_at 248 rfl rfl
set_option maxRecDepth 100000 in
theorem wd_495 : Cond.fieldLink RX4 60 "SaidShallow$Rule" "free" "I" ∈ wsU := wsU_at 250 rfl rfl
set_option maxRecDepth 100000 in
theorem wd_496 : Cond.methodLink RX4 63 yX5_compile ∈ wsU := wsU_at 912 rfl rfl
set_option maxRecDepth 100000 in
theorem wd_497 : Cond.instanceMethod yX5_compile ∈ wsU := wsU_at 913 rfl rfl
set_option maxRecDepth 100000 in
theorem wd_498 : Cond.selects RX5 yX5_compile yX5_compile ∈ wsU := wsU_at 914 rfl rfl
set_option maxRecDepth 100000 in
theorem wd_499 : Cond.code yX5_compile cX5_compile 5 none ∈ wsU := wsU_at 915 rfl rfl
set_option maxRecDepth 100000 in
theorem wd_500 : Cond.fieldLink RX5 43 "SaidShallow$Tongue" "pairCount" "I" ∈ wsU := wsU_at 295 rfl rfl
set_option maxRecDepth 100000 in
theorem wd_501 : Cond.fieldLink RX5 48 "SaidShallow$Tongue" "deepOf" "[I" ∈ wsU := wsU_at 287 rfl rfl
set_option maxRecDepth 100000 in
theorem wd_502 : Cond.fieldLink RX5 51 "SaidShallow$Tongue" "saidOf" "[I" ∈ wsU := wsU_at 291 rfl rfl
set_option maxRecDepth 100000 in
theorem wd_503 : Cond.methodLink RX5 54 yX5_takes ∈ wsU := wsU_at 916 rfl rfl
set_option maxRecDepth 100000 in
theorem wd_504 : Cond.instanceMethod yX5_takes ∈ wsU := wsU_at 918 rfl rfl
set_option maxRecDepth 100000 in
theorem wd_505 : Cond.selects RX5 yX5_takes yX5_takes ∈ wsU := wsU_at 22 rfl rfl
set_option maxRecDepth 100000 in
theorem wd_506 : Cond.code yX5_takes cX5_takes 5 (some .boolean) ∈ wsU := wsU_at 919 rfl rfl
set_option maxRecDepth 100000 in
theorem wd_507 : Cond.methodLink RX4 78 yX4_roleOf ∈ wsU := wsU_at 920 rfl rfl
set_option maxRecDepth 100000 in
theorem wd_508 : Cond.instanceMethod yX4_roleOf ∈ wsU := wsU_at 922 rfl rfl
set_option maxRecDepth 100000 in
theorem wd_509 : Cond.selects RX4 yX4_roleOf yX4_roleOf ∈ wsU := wsU_at 23 rfl rfl
set_option maxRecDepth 100000 in
theorem wd_510 : Cond.code yX4_roleOf cX4_roleOf 3 (some .int) ∈ wsU := wsU_at 923 rfl rfl
set_option maxRecDepth 100000 in
theorem wd_511 : Cond.methodLink RX4 99 yX4_isAlways ∈ wsU := wsU_at 924 rfl rfl
set_option maxRecDepth 100000 in
theorem wd_512 : Cond.methodLink RX4 82 yX5_startsOf ∈ wsU := wsU_at 925 rfl rfl
set_option maxRecDepth 100000 in
theorem wd_513 : Cond.instanceMethod yX5_startsOf ∈ wsU := wsU_at 926 rfl rfl
set_option maxRecDepth 100000 in
theorem wd_514 : Cond.selects RX5 yX5_startsOf yX5_startsOf ∈ wsU := wsU_at 927 rfl rfl
set_option maxRecDepth 100000 in
theorem wd_515 : Cond.code yX5_startsOf cX5_startsOf 2 (some .int) ∈ wsU := wsU_at 928 rfl rfl
set_option maxRecDepth 100000 in
theorem wd_516 : Cond.methodLink RX5 58 yX5_closure ∈ wsU := wsU_at 929 rfl rfl
set_option maxRecDepth 100000 in
theorem wd_517 : Cond.instanceMethod yX5_closure ∈ wsU := wsU_at 930 rfl rfl
set_option maxRecDepth 100000 in
theorem wd_518 : Cond.selects RX5 yX5_closure yX5_closure ∈ wsU := wsU_at 931 rfl rfl
set_option maxRecDepth 100000 in
theorem wd_519 : Cond.code yX5_closure cX5_closure 2 (some .int) ∈ wsU := wsU_at 932 rfl rfl
set_option maxRecDepth 100000 in
theorem wd_520 : Cond.methodLink RX4 89 yX5_closure ∈ wsU := wsU_at 933 rfl rfl
set_option maxRecDepth 100000 in
theorem wd_521 : Cond.methodLink RX4 92 yX5_freeStarts ∈ wsU := wsU_at 934 rfl rfl
set_option maxRecDepth 100000 in
theorem wd_522 : Cond.instanceMethod yX5_freeStarts ∈ wsU := wsU_at 935 rfl rfl
set_option maxRecDepth 100000 in
theorem wd_523 : Cond.selects RX5 yX5_freeStarts yX5_freeStarts ∈ wsU := wsU_at 936 rfl rfl
set_option maxRecDepth 100000 in
theorem wd_524 : Cond.code yX5_freeStarts cX5_freeStarts 3 (some .int) ∈ wsU := wsU_at 937 rfl rfl
set_option maxRecDepth 100000 in
theorem wd_525 : Cond.methodLink RX5 62 yX5_startsOf ∈ wsU := wsU_at 938 rfl rfl
set_option maxRecDepth 100000 in
theorem wd_526 : Cond.methodLink RX4 96 yX5_freeFinals ∈ wsU := wsU_at 939 rfl rfl
set_option maxRecDepth 100000 in
theorem wd_527 : Cond.instanceMethod yX5_freeFinals ∈ wsU := wsU_at 940 rfl rfl
set_option maxRecDepth 100000 in
theorem wd_528 : Cond.selects RX5 yX5_freeFinals yX5_freeFinals ∈ wsU := wsU_at 941 rfl rfl
set_option maxRecDepth 100000 in
theorem wd_529 : Cond.code yX5_freeFinals cX5_freeFinals 3 (some .int) ∈ wsU := wsU_at 942 rfl rfl
set_option maxRecDepth 100000 in
theorem wd_534 : Cond.methodLink RX7 80 arraycopyName ∈ wsU := wsU_at 947 rfl rfl
set_option maxRecDepth 100000 in
theorem wd_535 : Cond.methodLink RX7 86 yX4_copyFrom ∈ wsU := wsU_at 948 rfl rfl
set_option maxRecDepth 100000 in
theorem wd_536 : Cond.instanceMethod yX4_copyFrom ∈ wsU := wsU_at 949 rfl rfl
set_option maxRecDepth 100000 in
theorem wd_537 : Cond.selects RX4 yX4_copyFrom yX4_copyFrom ∈ wsU := wsU_at 950 rfl rfl
set_option maxRecDepth 100000 in
theorem wd_538 : Cond.code yX4_copyFrom cX4_copyFrom 2 none ∈ wsU := wsU_at 951 rfl rfl
set_option maxRecDepth 100000 in
theorem wd_539 : Cond.methodLink RX4 48 arraycopyName ∈ wsU := wsU_at 956 rfl rfl
set_option maxRecDepth 100000 in
theorem wd_540 : Cond.methodLink RX4 44 yX5_copyFrom ∈ wsU := wsU_at 952 rfl rfl
set_option maxRecDepth 100000 in
theorem wd_541 : Cond.instanceMethod yX5_copyFrom ∈ wsU := wsU_at 953 rfl rfl
set_option maxRecDepth 100000 in
theorem wd_542 : Cond.selects RX5 yX5_copyFrom yX5_copyFrom ∈ wsU := wsU_at 954 rfl rfl
set_option maxRecDepth 100000 in
theorem wd_543 : Cond.code yX5_copyFrom cX5_copyFrom 2 none ∈ wsU := wsU_at 955 rfl rfl
set_option maxRecDepth 100000 in
theorem wd_544 : Cond.methodLink RX7 90 yX9_copyFrom ∈ wsU := wsU_at 957 rfl rfl
set_option maxRecDepth 100000 in
theorem wd_545 : Cond.instanceMethod yX9_copyFrom ∈ wsU := wsU_at 958 rfl rfl
set_option maxRecDepth 100000 in
theorem wd_546 : Cond.selects RX9 yX9_copyFrom yX9_copyFrom ∈ wsU := wsU_at 959 rfl rfl
set_option maxRecDepth 100000 in
theorem wd_547 : Cond.code yX9_copyFrom cX9_copyFrom 2 none ∈ wsU := wsU_at 960 rfl rfl
set_option maxRecDepth 100000 in
theorem wd_548 : Cond.methodLink RX9 22 arraycopyName ∈ wsU := wsU_at 961 rfl rfl
set_option maxRecDepth 100000 in
theorem wd_553 : Cond.fieldLink RX6 40 "SaidShallow$Standing" "inUse" "I" ∈ wsU := wsU_at 491 rfl rfl
set_option maxRecDepth 100000 in
theorem wd_554 : Cond.fieldLink RX6 46 "SaidShallow$Standing" "rights" "I" ∈ wsU := wsU_at 503 rfl rfl
set_option maxRecDepth 100000 in
theorem wd_555 : Cond.methodLink RX6 43 yX9_clear ∈ wsU := wsU_at 966 rfl rfl
set_option maxRecDepth 100000 in
theorem wd_560 : Cond.fieldLink RX10 15 "SaidShallow$Words" "count" "I" ∈ wsU := wsU_at 361 rfl rfl
set_option maxRecDepth 100000 in
theorem wd_561 : Cond.fieldLink RX10 19 "SaidShallow$Words" "tooMany" "Z" ∈ wsU := wsU_at 363 rfl rfl
set_option maxRecDepth 100000 in
theorem wd_667 : Cond.fieldLink RX11 118 "SaidShallow$Reader" "faultKind" "I" ∈ wsU := wsU_at 539 rfl rfl
set_option maxRecDepth 100000 in
theorem wd_668 : Cond.fieldLink RX11 121 "SaidShallow$Reader" "faultPlace" "I" ∈ wsU := wsU_at 541 rfl rfl
set_option maxRecDepth 100000 in
theorem wd_677 : Cond.fieldLink RX11 128 "SaidShallow$Standing" "inUse" "I" ∈ wsU := wsU_at 493 rfl rfl
set_option maxRecDepth 100000 in
theorem wd_678 : Cond.methodLink RX11 124 yX11_isSet ∈ wsU := wsU_at 980 rfl rfl
set_option maxRecDepth 100000 in
theorem wd_679 : Cond.instanceMethod yX11_isSet ∈ wsU := wsU_at 982 rfl rfl
set_option maxRecDepth 100000 in
theorem wd_680 : Cond.selects RX11 yX11_isSet yX11_isSet ∈ wsU := wsU_at 24 rfl rfl
set_option maxRecDepth 100000 in
theorem wd_681 : Cond.code yX11_isSet cX11_isSet 2 (some .boolean) ∈ wsU := wsU_at 983 rfl rfl
set_option maxRecDepth 100000 in
theorem wd_694 : Cond.fieldLink RX11 131 "SaidShallow$Standing" "slack" "I" ∈ wsU := wsU_at 496 rfl rfl
set_option maxRecDepth 100000 in
theorem wd_717 : Cond.methodLink RX11 268 yX7_signOf ∈ wsU := wsU_at 1004 rfl rfl
set_option maxRecDepth 100000 in
theorem wd_722 : Cond.methodLink RX3 62 Lib.Math.min.name ∈ wsU := wsU_at 1009 rfl rfl
set_option maxRecDepth 100000 in
theorem wd_723 : Cond.methodLink RX3 68 Lib.Math.max.name ∈ wsU := wsU_at 1010 rfl rfl
set_option maxRecDepth 100000 in
theorem wd_724 : Cond.static Lib.Math.max.name ∈ wsU := wsU_at 1011 rfl rfl
set_option maxRecDepth 100000 in
theorem wd_725 : Cond.code Lib.Math.max.name Lib.Math.max.code 2 (some .int) ∈ wsU := wsU_at 1012 rfl rfl
set_option maxRecDepth 100000 in
theorem wd_726 : Cond.fieldLink RX3 71 "SaidShallow$Rows" "length" "I" ∈ wsU := wsU_at 430 rfl rfl
set_option maxRecDepth 100000 in
theorem wd_727 : Cond.methodLink RX3 74 arraycopyName ∈ wsU := wsU_at 1013 rfl rfl
set_option maxRecDepth 100000 in
theorem wd_732 : Cond.fieldLink RX3 83 "SaidShallow$Rows" "deepGiven" "Z" ∈ wsU := wsU_at 431 rfl rfl
set_option maxRecDepth 100000 in
theorem wd_735 : Cond.fieldLink RX3 97 "SaidShallow$Rows" "firstSet" "I" ∈ wsU := wsU_at 434 rfl rfl
set_option maxRecDepth 100000 in
theorem wd_736 : Cond.fieldLink RX3 100 "SaidShallow$Rows" "secondSet" "I" ∈ wsU := wsU_at 435 rfl rfl
set_option maxRecDepth 100000 in
theorem wd_741 : Cond.fieldLink RX3 117 "SaidShallow$Tongue" "ruleCount" "I" ∈ wsU := wsU_at 312 rfl rfl
set_option maxRecDepth 100000 in
theorem wd_742 : Cond.fieldLink RX3 120 "SaidShallow$Tongue" "rules" "[LSaidShallow$Rule;" ∈ wsU := wsU_at 305 rfl rfl
set_option maxRecDepth 100000 in
theorem wd_743 : Cond.fieldLink RX3 124 "SaidShallow$Rule" "deep" "I" ∈ wsU := wsU_at 219 rfl rfl
set_option maxRecDepth 100000 in
theorem wd_744 : Cond.methodLink RX3 129 yX3_hasSign ∈ wsU := wsU_at 1022 rfl rfl
set_option maxRecDepth 100000 in
theorem wd_745 : Cond.instanceMethod yX3_hasSign ∈ wsU := wsU_at 1024 rfl rfl
set_option maxRecDepth 100000 in
theorem wd_746 : Cond.selects RX3 yX3_hasSign yX3_hasSign ∈ wsU := wsU_at 29 rfl rfl
set_option maxRecDepth 100000 in
theorem wd_747 : Cond.code yX3_hasSign cX3_hasSign 4 (some .boolean) ∈ wsU := wsU_at 1025 rfl rfl
set_option maxRecDepth 100000 in
theorem wd_759 : Cond.fieldLink RX8 29 "SaidShallow$Tongue" "ruleCount" "I" ∈ wsU := wsU_at 308 rfl rfl
set_option maxRecDepth 100000 in
theorem wd_760 : Cond.fieldLink RX8 35 "SaidShallow$Tongue" "rules" "[LSaidShallow$Rule;" ∈ wsU := wsU_at 304 rfl rfl
set_option maxRecDepth 100000 in
theorem wd_761 : Cond.fieldLink RX8 39 "SaidShallow$Rule" "atStart" "I" ∈ wsU := wsU_at 244 rfl rfl
set_option maxRecDepth 100000 in
theorem wd_796 : Cond.fieldLink RX3 114 "SaidShallow$Rows" "listed" "I" ∈ wsU := wsU_at 442 rfl rfl
set_option maxRecDepth 100000 in
theorem wd_801 : Cond.methodLink RX8 77 yX8_endsWell ∈ wsU := wsU_at 1068 rfl rfl
set_option maxRecDepth 100000 in
theorem wd_802 : Cond.instanceMethod yX8_endsWell ∈ wsU := wsU_at 1070 rfl rfl
set_option maxRecDepth 100000 in
theorem wd_803 : Cond.selects RX8 yX8_endsWell yX8_endsWell ∈ wsU := wsU_at 34 rfl rfl
set_option maxRecDepth 100000 in
theorem wd_804 : Cond.code yX8_endsWell cX8_endsWell 3 (some .boolean) ∈ wsU := wsU_at 1071 rfl rfl
set_option maxRecDepth 100000 in
theorem wd_805 : Cond.constant RX8 81 (133152) ∈ wsU := wsU_at 1072 rfl rfl
set_option maxRecDepth 100000 in
theorem wd_818 : Cond.methodLink RX10 23 arraycopyName ∈ wsU := wsU_at 1085 rfl rfl
set_option maxRecDepth 100000 in
theorem wd_823 : Cond.fieldLink RX3 170 "SaidShallow$Tongue" "pairsOfDeep" "[I" ∈ wsU := wsU_at 300 rfl rfl
set_option maxRecDepth 100000 in
theorem wd_824 : Cond.fieldLink RX3 173 "SaidShallow$Tongue" "pairsOfSaid" "[I" ∈ wsU := wsU_at 302 rfl rfl
set_option maxRecDepth 100000 in
theorem wd_829 : Cond.fieldLink RX8 44 "SaidShallow$Rule" "left" "LSaidShallow$Side;" ∈ wsU := wsU_at 234 rfl rfl
set_option maxRecDepth 100000 in
theorem wd_830 : Cond.fieldLink RX8 51 "SaidShallow$Rule" "anywhere" "I" ∈ wsU := wsU_at 247 rfl rfl
set_option maxRecDepth 100000 in
theorem wd_831 : Cond.fieldLink RX8 54 "SaidShallow$Rule" "roles" "[I" ∈ wsU := wsU_at 241 rfl rfl
set_option maxRecDepth 100000 in
theorem wd_832 : Cond.methodLink RX8 47 yX5_step ∈ wsU := wsU_at 1094 rfl rfl
set_option maxRecDepth 100000 in
theorem wd_833 : Cond.instanceMethod yX5_step ∈ wsU := wsU_at 1095 rfl rfl
set_option maxRecDepth 100000 in
theorem wd_834 : Cond.selects RX5 yX5_step yX5_step ∈ wsU := wsU_at 1096 rfl rfl
set_option maxRecDepth 100000 in
theorem wd_835 : Cond.code yX5_step cX5_step 5 (some .int) ∈ wsU := wsU_at 1097 rfl rfl
set_option maxRecDepth 100000 in
theorem wd_836 : Cond.methodLink RX8 57 yX8_advance ∈ wsU := wsU_at 1098 rfl rfl
set_option maxRecDepth 100000 in
theorem wd_837 : Cond.instanceMethod yX8_advance ∈ wsU := wsU_at 1100 rfl rfl
set_option maxRecDepth 100000 in
theorem wd_838 : Cond.selects RX8 yX8_advance yX8_advance ∈ wsU := wsU_at 38 rfl rfl
set_option maxRecDepth 100000 in
theorem wd_839 : Cond.code yX8_advance cX8_advance 10 (some .boolean) ∈ wsU := wsU_at 1101 rfl rfl
set_option maxRecDepth 100000 in
theorem wd_840 : Cond.fieldLink RX8 61 "SaidShallow$Rule" "opened" "[I" ∈ wsU := wsU_at 243 rfl rfl
set_option maxRecDepth 100000 in
theorem wd_841 : Cond.fieldLink RX8 68 "SaidShallow$Rule" "right" "LSaidShallow$Side;" ∈ wsU := wsU_at 238 rfl rfl
set_option maxRecDepth 100000 in
theorem wd_842 : Cond.fieldLink RX8 71 "SaidShallow$Rule" "free" "I" ∈ wsU := wsU_at 251 rfl rfl
set_option maxRecDepth 100000 in
theorem wd_843 : Cond.methodLink RX8 64 yX5_holding ∈ wsU := wsU_at 1102 rfl rfl
set_option maxRecDepth 100000 in
theorem wd_844 : Cond.static yX5_holding ∈ wsU := wsU_at 1103 rfl rfl
set_option maxRecDepth 100000 in
theorem wd_845 : Cond.code yX5_holding cX5_holding 1 (some .int) ∈ wsU := wsU_at 1104 rfl rfl
set_option maxRecDepth 100000 in
theorem wd_846 : Cond.methodLink RX8 74 yX8_owe ∈ wsU := wsU_at 1105 rfl rfl
set_option maxRecDepth 100000 in
theorem wd_847 : Cond.instanceMethod yX8_owe ∈ wsU := wsU_at 1107 rfl rfl
set_option maxRecDepth 100000 in
theorem wd_848 : Cond.selects RX8 yX8_owe yX8_owe ∈ wsU := wsU_at 39 rfl rfl
set_option maxRecDepth 100000 in
theorem wd_849 : Cond.code yX8_owe cX8_owe 8 (some .boolean) ∈ wsU := wsU_at 1108 rfl rfl
set_option maxRecDepth 100000 in
theorem wd_1010 : Cond.methodLink RX9 28 yX9_lengthOf ∈ wsU := wsU_at 1149 rfl rfl
set_option maxRecDepth 100000 in
theorem wd_1011 : Cond.instanceMethod yX9_lengthOf ∈ wsU := wsU_at 1150 rfl rfl
set_option maxRecDepth 100000 in
theorem wd_1012 : Cond.selects RX9 yX9_lengthOf yX9_lengthOf ∈ wsU := wsU_at 1151 rfl rfl
set_option maxRecDepth 100000 in
theorem wd_1013 : Cond.code yX9_lengthOf cX9_lengthOf 2 (some .int) ∈ wsU := wsU_at 1152 rfl rfl
set_option maxRecDepth 100000 in
theorem wd_1070 : Cond.fieldLink RX11 169 "SaidShallow$Tongue" "rules" "[LSaidShallow$Rule;" ∈ wsU := wsU_at 306 rfl rfl
set_option maxRecDepth 100000 in
theorem wd_1135 : Cond.methodLink RX11 192 yX11_isRule ∈ wsU := wsU_at 1225 rfl rfl
set_option maxRecDepth 100000 in
theorem wd_1136 : Cond.instanceMethod yX11_isRule ∈ wsU := wsU_at 1227 rfl rfl
set_option maxRecDepth 100000 in
theorem wd_1137 : Cond.selects RX11 yX11_isRule yX11_isRule ∈ wsU := wsU_at 45 rfl rfl
set_option maxRecDepth 100000 in
theorem wd_1138 : Cond.code yX11_isRule cX11_isRule 2 (some .boolean) ∈ wsU := wsU_at 1228 rfl rfl
set_option maxRecDepth 100000 in
theorem wd_1139 : Cond.methodLink RX11 195 yX6_moveRule ∈ wsU := wsU_at 1229 rfl rfl
set_option maxRecDepth 100000 in
theorem wd_1140 : Cond.instanceMethod yX6_moveRule ∈ wsU := wsU_at 1230 rfl rfl
set_option maxRecDepth 100000 in
theorem wd_1141 : Cond.selects RX6 yX6_moveRule yX6_moveRule ∈ wsU := wsU_at 1231 rfl rfl
set_option maxRecDepth 100000 in
theorem wd_1142 : Cond.code yX6_moveRule cX6_moveRule 5 none ∈ wsU := wsU_at 1232 rfl rfl
set_option maxRecDepth 100000 in
theorem wd_1156 : Cond.fieldLink RX3 80 "SaidShallow$Tongue" "letterCount" "I" ∈ wsU := wsU_at 277 rfl rfl
set_option maxRecDepth 100000 in
theorem wd_1184 : Cond.static yJ6_bitCount_0f7a4 ∈ wsU := wsU_at 1254 rfl rfl
set_option maxRecDepth 100000 in
theorem wd_1185 : Cond.initialized RJ6 ∈ wsU := wsU_at 143 rfl rfl
set_option maxRecDepth 100000 in
theorem wd_1186 : Cond.code yJ6_bitCount_0f7a4 cJ6_bitCount_0f7a4 1 (some .int) ∈ wsU := wsU_at 1255 rfl rfl
set_option maxRecDepth 100000 in
theorem wd_1187 : Cond.constant RJ6 265 (1431655765) ∈ wsU := wsU_at 1256 rfl rfl
set_option maxRecDepth 100000 in
theorem wd_1188 : Cond.constant RJ6 266 (858993459) ∈ wsU := wsU_at 1257 rfl rfl
set_option maxRecDepth 100000 in
theorem wd_1189 : Cond.constant RJ6 267 (252645135) ∈ wsU := wsU_at 1258 rfl rfl
set_option maxRecDepth 100000 in
theorem wd_1194 : Cond.fieldLink RX0 37 "SaidShallow$BestOrder" "knownLength" "I" ∈ wsU := wsU_at 587 rfl rfl
set_option maxRecDepth 100000 in
theorem wd_1195 : Cond.fieldLink RX0 40 "SaidShallow$BestOrder" "ordered" "I" ∈ wsU := wsU_at 579 rfl rfl
set_option maxRecDepth 100000 in
theorem wd_1199 : Cond.fieldLink RX0 66 "SaidShallow$BestOrder" "bestAgreed" "I" ∈ wsU := wsU_at 584 rfl rfl
set_option maxRecDepth 100000 in
theorem wd_1232 : Cond.methodLink RX0 119 arraycopyName ∈ wsU := wsU_at 1291 rfl rfl
set_option maxRecDepth 100000 in
theorem wd_1321 : Cond.methodLink RX3 190 yX3_shortCode ∈ wsU := wsU_at 1337 rfl rfl
set_option maxRecDepth 100000 in
theorem wd_1322 : Cond.instanceMethod yX3_shortCode ∈ wsU := wsU_at 1339 rfl rfl
set_option maxRecDepth 100000 in
theorem wd_1323 : Cond.selects RX3 yX3_shortCode yX3_shortCode ∈ wsU := wsU_at 54 rfl rfl
set_option maxRecDepth 100000 in
theorem wd_1324 : Cond.code yX3_shortCode cX3_shortCode 2 (some .int) ∈ wsU := wsU_at 1340 rfl rfl
set_option maxRecDepth 100000 in
theorem wd_1325 : Cond.constant RX3 196 (59049) ∈ wsU := wsU_at 1341 rfl rfl
set_option maxRecDepth 100000 in
theorem wd_1362 : Cond.methodLink RX3 197 yJ7_fill_53178 ∈ wsU := wsU_at 1358 rfl rfl
set_option maxRecDepth 100000 in
theorem wd_1371 : Cond.methodLink RX3 203 yJ6_bitCount_0f7a4 ∈ wsU := wsU_at 1367 rfl rfl
set_option maxRecDepth 100000 in
theorem wd_1372 : Cond.methodLink RX3 208 yX3_meetsNeeds ∈ wsU := wsU_at 1368 rfl rfl
set_option maxRecDepth 100000 in
theorem wd_1373 : Cond.instanceMethod yX3_meetsNeeds ∈ wsU := wsU_at 1370 rfl rfl
set_option maxRecDepth 100000 in
theorem wd_1374 : Cond.selects RX3 yX3_meetsNeeds yX3_meetsNeeds ∈ wsU := wsU_at 56 rfl rfl
set_option maxRecDepth 100000 in
theorem wd_1375 : Cond.code yX3_meetsNeeds cX3_meetsNeeds 3 (some .boolean) ∈ wsU := wsU_at 1371 rfl rfl
set_option maxRecDepth 100000 in
theorem wd_1397 : Cond.fieldLink RX6 59 "SaidShallow$WordList" "count" "I" ∈ wsU := wsU_at 176 rfl rfl
set_option maxRecDepth 100000 in
theorem wd_1398 : Cond.methodLink RX6 62 yX9_open ∈ wsU := wsU_at 1384 rfl rfl
set_option maxRecDepth 100000 in
theorem wd_1417 : Cond.instanceMethod yX6_firstUntrue ∈ wsU := wsU_at 1398 rfl rfl
set_option maxRecDepth 100000 in
theorem wd_1418 : Cond.selects RX6 yX6_firstUntrue yX6_firstUntrue ∈ wsU := wsU_at 1399 rfl rfl
set_option maxRecDepth 100000 in
theorem wd_1419 : Cond.code yX6_firstUntrue cX6_firstUntrue 5 (some .int) ∈ wsU := wsU_at 1400 rfl rfl
set_option maxRecDepth 100000 in
theorem wd_1440 : Cond.methodLink RX6 82 yJ6_bitCount_0f7a4 ∈ wsU := wsU_at 1409 rfl rfl
set_option maxRecDepth 100000 in
theorem wd_1441 : Cond.methodLink RX6 88 yX6_firstUntrue ∈ wsU := wsU_at 1410 rfl rfl
set_option maxRecDepth 100000 in
theorem wd_1460 : Cond.fieldLink RX11 290 "SaidShallow$Rule" "deep" "I" ∈ wsU := wsU_at 222 rfl rfl
set_option maxRecDepth 100000 in
theorem wd_1461 : Cond.fieldLink RX11 293 "SaidShallow$Rule" "said" "I" ∈ wsU := wsU_at 225 rfl rfl
set_option maxRecDepth 100000 in
theorem wd_1462 : Cond.fieldLink RX11 296 "SaidShallow$Rule" "op" "I" ∈ wsU := wsU_at 229 rfl rfl
set_option maxRecDepth 100000 in
theorem wd_1463 : Cond.fieldLink RX11 299 "SaidShallow$Rule" "contexts" "I" ∈ wsU := wsU_at 232 rfl rfl
set_option maxRecDepth 100000 in
theorem wd_1477 : Cond.methodLink RX6 49 arraycopyName ∈ wsU := wsU_at 1428 rfl rfl
set_option maxRecDepth 100000 in
theorem wd_1478 : Cond.methodLink RX6 55 yX9_copyFrom ∈ wsU := wsU_at 1429 rfl rfl
set_option maxRecDepth 100000 in
theorem inlX0 : ∀ w ∈ wsX00, w ∈ wsU := by
  show ∀ w ∈ [u_lay RX0 TX0 0, u_lay RX0 TX0 1, u_lay RX0 TX0 2, u_lay RX0 TX0 3, u_lay RX0 TX0 4, u_lay RX0 TX0 5, u_lay RX0 TX0 6, u_lay RX0 TX0 7, u_lay RX0 TX0 8, u_lay RX0 TX0 9, u_lay RX0 TX0 10], w ∈ wsU
  exact List.forall_mem_cons.mpr ⟨wsU_at (w := u_lay RX0 TX0 0) 589 rfl rfl, List.forall_mem_cons.mpr ⟨wsU_at (w := u_lay RX0 TX0 1) 591 rfl rfl, List.forall_mem_cons.mpr ⟨wsU_at (w := u_lay RX0 TX0 2) 593 rfl rfl, List.forall_mem_cons.mpr ⟨wsU_at (w := u_lay RX0 TX0 3) 595 rfl rfl, List.forall_mem_cons.mpr ⟨wsU_at (w := u_lay RX0 TX0 4) 597 rfl rfl, List.forall_mem_cons.mpr ⟨wsU_at (w := u_lay RX0 TX0 5) 599 rfl rfl, List.forall_mem_cons.mpr ⟨wsU_at (w := u_lay RX0 TX0 6) 601 rfl rfl, List.forall_mem_cons.mpr ⟨wsU_at (w := u_lay RX0 TX0 7) 603 rfl rfl, List.forall_mem_cons.mpr ⟨wsU_at (w := u_lay RX0 TX0 8) 605 rfl rfl, List.forall_mem_cons.mpr ⟨wsU_at (w := u_lay RX0 TX0 9) 607 rfl rfl, List.forall_mem_cons.mpr ⟨wsU_at (w := u_lay RX0 TX0 10) 609 rfl rfl, fun _ h => absurd h List.not_mem_nil⟩⟩⟩⟩⟩⟩⟩⟩⟩⟩⟩
set_option maxRecDepth 100000 in
theorem inlX1 : ∀ w ∈ wsX10, w ∈ wsU := by
  show ∀ w ∈ [u_lay RX1 TX1 0, u_lay RX1 TX1 1, u_lay RX1 TX1 2, u_lay RX1 TX1 3, u_lay RX1 TX1 4, u_lay RX1 TX1 5], w ∈ wsU
  exact List.forall_mem_cons.mpr ⟨wsU_at (w := u_lay RX1 TX1 0) 408 rfl rfl, List.forall_mem_cons.mpr ⟨wsU_at (w := u_lay RX1 TX1 1) 410 rfl rfl, List.forall_mem_cons.mpr ⟨wsU_at (w := u_lay RX1 TX1 2) 412 rfl rfl, List.forall_mem_cons.mpr ⟨wsU_at (w := u_lay RX1 TX1 3) 414 rfl rfl, List.forall_mem_cons.mpr ⟨wsU_at (w := u_lay RX1 TX1 4) 416 rfl rfl, List.forall_mem_cons.mpr ⟨wsU_at (w := u_lay RX1 TX1 5) 418 rfl rfl, fun _ h => absurd h List.not_mem_nil⟩⟩⟩⟩⟩⟩
set_option maxRecDepth 100000 in
theorem inlX2 : ∀ w ∈ wsX20, w ∈ wsU := by
  show ∀ w ∈ [u_lay RX2 TX2 0, u_lay RX2 TX2 1, u_lay RX2 TX2 2, u_lay RX2 TX2 3, u_lay RX2 TX2 4, u_lay RX2 TX2 5, u_lay RX2 TX2 6, u_lay RX2 TX2 7, u_lay RX2 TX2 8, u_lay RX2 TX2 9], w ∈ wsU
  exact List.forall_mem_cons.mpr ⟨wsU_at (w := u_lay RX2 TX2 0) 549 rfl rfl, List.forall_mem_cons.mpr ⟨wsU_at (w := u_lay RX2 TX2 1) 551 rfl rfl, List.forall_mem_cons.mpr ⟨wsU_at (w := u_lay RX2 TX2 2) 553 rfl rfl, List.forall_mem_cons.mpr ⟨wsU_at (w := u_lay RX2 TX2 3) 555 rfl rfl, List.forall_mem_cons.mpr ⟨wsU_at (w := u_lay RX2 TX2 4) 557 rfl rfl, List.forall_mem_cons.mpr ⟨wsU_at (w := u_lay RX2 TX2 5) 559 rfl rfl, List.forall_mem_cons.mpr ⟨wsU_at (w := u_lay RX2 TX2 6) 561 rfl rfl, List.forall_mem_cons.mpr ⟨wsU_at (w := u_lay RX2 TX2 7) 563 rfl rfl, List.forall_mem_cons.mpr ⟨wsU_at (w := u_lay RX2 TX2 8) 565 rfl rfl, List.forall_mem_cons.mpr ⟨wsU_at (w := u_lay RX2 TX2 9) 567 rfl rfl, fun _ h => absurd h List.not_mem_nil⟩⟩⟩⟩⟩⟩⟩⟩⟩⟩
set_option maxRecDepth 100000 in
theorem inlX3 : ∀ w ∈ wsX30, w ∈ wsU := by
  show ∀ w ∈ [u_lay RX3 TX3 0, u_lay RX3 TX3 1, u_lay RX3 TX3 2, u_lay RX3 TX3 3, u_lay RX3 TX3 4, u_lay RX3 TX3 5, u_lay RX3 TX3 6, u_lay RX3 TX3 7, u_lay RX3 TX3 8, u_lay RX3 TX3 9, u_lay RX3 TX3 10, u_lay RX3 TX3 11, u_lay RX3 TX3 12, u_lay RX3 TX3 13, u_lay RX3 TX3 14, u_lay RX3 TX3 15, u_lay RX3 TX3 16, u_lay RX3 TX3 17], w ∈ wsU
  exact List.forall_mem_cons.mpr ⟨wsU_at (w := u_lay RX3 TX3 0) 446 rfl rfl, List.forall_mem_cons.mpr ⟨wsU_at (w := u_lay RX3 TX3 1) 448 rfl rfl, List.forall_mem_cons.mpr ⟨wsU_at (w := u_lay RX3 TX3 2) 450 rfl rfl, List.forall_mem_cons.mpr ⟨wsU_at (w := u_lay RX3 TX3 3) 452 rfl rfl, List.forall_mem_cons.mpr ⟨wsU_at (w := u_lay RX3 TX3 4) 454 rfl rfl, List.forall_mem_cons.mpr ⟨wsU_at (w := u_lay RX3 TX3 5) 456 rfl rfl, List.forall_mem_cons.mpr ⟨wsU_at (w := u_lay RX3 TX3 6) 458 rfl rfl, List.forall_mem_cons.mpr ⟨wsU_at (w := u_lay RX3 TX3 7) 460 rfl rfl, List.forall_mem_cons.mpr ⟨wsU_at (w := u_lay RX3 TX3 8) 462 rfl rfl, List.forall_mem_cons.mpr ⟨wsU_at (w := u_lay RX3 TX3 9) 464 rfl rfl, List.forall_mem_cons.mpr ⟨wsU_at (w := u_lay RX3 TX3 10) 466 rfl rfl, List.forall_mem_cons.mpr ⟨wsU_at (w := u_lay RX3 TX3 11) 468 rfl rfl, List.forall_mem_cons.mpr ⟨wsU_at (w := u_lay RX3 TX3 12) 470 rfl rfl, List.forall_mem_cons.mpr ⟨wsU_at (w := u_lay RX3 TX3 13) 472 rfl rfl, List.forall_mem_cons.mpr ⟨wsU_at (w := u_lay RX3 TX3 14) 474 rfl rfl, List.forall_mem_cons.mpr ⟨wsU_at (w := u_lay RX3 TX3 15) 476 rfl rfl, List.forall_mem_cons.mpr ⟨wsU_at (w := u_lay RX3 TX3 16) 478 rfl rfl, List.forall_mem_cons.mpr ⟨wsU_at (w := u_lay RX3 TX3 17) 480 rfl rfl, fun _ h => absurd h List.not_mem_nil⟩⟩⟩⟩⟩⟩⟩⟩⟩⟩⟩⟩⟩⟩⟩⟩⟩⟩
set_option maxRecDepth 100000 in
theorem inlX4 : ∀ w ∈ wsX40, w ∈ wsU := by
  show ∀ w ∈ [u_lay RX4 TX4 0, u_lay RX4 TX4 1, u_lay RX4 TX4 2, u_lay RX4 TX4 3, u_lay RX4 TX4 4, u_lay RX4 TX4 5, u_lay RX4 TX4 6, u_lay RX4 TX4 7, u_lay RX4 TX4 8, u_lay RX4 TX4 9, u_lay RX4 TX4 10], w ∈ wsU
  exact List.forall_mem_cons.mpr ⟨wsU_at (w := u_lay RX4 TX4 0) 252 rfl rfl, List.forall_mem_cons.mpr ⟨wsU_at (w := u_lay RX4 TX4 1) 254 rfl rfl, List.forall_mem_cons.mpr ⟨wsU_at (w := u_lay RX4 TX4 2) 256 rfl rfl, List.forall_mem_cons.mpr ⟨wsU_at (w := u_lay RX4 TX4 3) 258 rfl rfl, List.forall_mem_cons.mpr ⟨wsU_at (w := u_lay RX4 TX4 4) 260 rfl rfl, List.forall_mem_cons.mpr ⟨wsU_at (w := u_lay RX4 TX4 5) 262 rfl rfl, List.forall_mem_cons.mpr ⟨wsU_at (w := u_lay RX4 TX4 6) 264 rfl rfl, List.forall_mem_cons.mpr ⟨wsU_at (w := u_lay RX4 TX4 7) 266 rfl rfl, List.forall_mem_cons.mpr ⟨wsU_at (w := u_lay RX4 TX4 8) 268 rfl rfl, List.forall_mem_cons.mpr ⟨wsU_at (w := u_lay RX4 TX4 9) 270 rfl rfl, List.forall_mem_cons.mpr ⟨wsU_at (w := u_lay RX4 TX4 10) 272 rfl rfl, fun _ h => absurd h List.not_mem_nil⟩⟩⟩⟩⟩⟩⟩⟩⟩⟩⟩
set_option maxRecDepth 100000 in
theorem inlX5 : ∀ w ∈ wsX50, w ∈ wsU := by
  show ∀ w ∈ [u_lay RX5 TX5 0, u_lay RX5 TX5 1, u_lay RX5 TX5 2, u_lay RX5 TX5 3, u_lay RX5 TX5 4, u_lay RX5 TX5 5], w ∈ wsU
  exact List.forall_mem_cons.mpr ⟨wsU_at (w := u_lay RX5 TX5 0) 205 rfl rfl, List.forall_mem_cons.mpr ⟨wsU_at (w := u_lay RX5 TX5 1) 207 rfl rfl, List.forall_mem_cons.mpr ⟨wsU_at (w := u_lay RX5 TX5 2) 209 rfl rfl, List.forall_mem_cons.mpr ⟨wsU_at (w := u_lay RX5 TX5 3) 211 rfl rfl, List.forall_mem_cons.mpr ⟨wsU_at (w := u_lay RX5 TX5 4) 213 rfl rfl, List.forall_mem_cons.mpr ⟨wsU_at (w := u_lay RX5 TX5 5) 215 rfl rfl, fun _ h => absurd h List.not_mem_nil⟩⟩⟩⟩⟩⟩
set_option maxRecDepth 100000 in
theorem inlX6 : ∀ w ∈ wsX60, w ∈ wsU := by
  show ∀ w ∈ [u_lay RX6 TX6 0, u_lay RX6 TX6 1, u_lay RX6 TX6 2, u_lay RX6 TX6 3, u_lay RX6 TX6 4, u_lay RX6 TX6 5, u_lay RX6 TX6 6, u_lay RX6 TX6 7, u_lay RX6 TX6 8], w ∈ wsU
  exact List.forall_mem_cons.mpr ⟨wsU_at (w := u_lay RX6 TX6 0) 507 rfl rfl, List.forall_mem_cons.mpr ⟨wsU_at (w := u_lay RX6 TX6 1) 509 rfl rfl, List.forall_mem_cons.mpr ⟨wsU_at (w := u_lay RX6 TX6 2) 511 rfl rfl, List.forall_mem_cons.mpr ⟨wsU_at (w := u_lay RX6 TX6 3) 513 rfl rfl, List.forall_mem_cons.mpr ⟨wsU_at (w := u_lay RX6 TX6 4) 515 rfl rfl, List.forall_mem_cons.mpr ⟨wsU_at (w := u_lay RX6 TX6 5) 517 rfl rfl, List.forall_mem_cons.mpr ⟨wsU_at (w := u_lay RX6 TX6 6) 519 rfl rfl, List.forall_mem_cons.mpr ⟨wsU_at (w := u_lay RX6 TX6 7) 521 rfl rfl, List.forall_mem_cons.mpr ⟨wsU_at (w := u_lay RX6 TX6 8) 523 rfl rfl, fun _ h => absurd h List.not_mem_nil⟩⟩⟩⟩⟩⟩⟩⟩⟩
set_option maxRecDepth 100000 in
theorem inlX7 : ∀ w ∈ wsX70, w ∈ wsU := by
  show ∀ w ∈ [u_lay RX7 TX7 0, u_lay RX7 TX7 1, u_lay RX7 TX7 2, u_lay RX7 TX7 3, u_lay RX7 TX7 4, u_lay RX7 TX7 5, u_lay RX7 TX7 6, u_lay RX7 TX7 7, u_lay RX7 TX7 8, u_lay RX7 TX7 9, u_lay RX7 TX7 10, u_lay RX7 TX7 11, u_lay RX7 TX7 12, u_lay RX7 TX7 13, u_lay RX7 TX7 14, u_lay RX7 TX7 15], w ∈ wsU
  exact List.forall_mem_cons.mpr ⟨wsU_at (w := u_lay RX7 TX7 0) 321 rfl rfl, List.forall_mem_cons.mpr ⟨wsU_at (w := u_lay RX7 TX7 1) 323 rfl rfl, List.forall_mem_cons.mpr ⟨wsU_at (w := u_lay RX7 TX7 2) 325 rfl rfl, List.forall_mem_cons.mpr ⟨wsU_at (w := u_lay RX7 TX7 3) 327 rfl rfl, List.forall_mem_cons.mpr ⟨wsU_at (w := u_lay RX7 TX7 4) 329 rfl rfl, List.forall_mem_cons.mpr ⟨wsU_at (w := u_lay RX7 TX7 5) 331 rfl rfl, List.forall_mem_cons.mpr ⟨wsU_at (w := u_lay RX7 TX7 6) 333 rfl rfl, List.forall_mem_cons.mpr ⟨wsU_at (w := u_lay RX7 TX7 7) 335 rfl rfl, List.forall_mem_cons.mpr ⟨wsU_at (w := u_lay RX7 TX7 8) 337 rfl rfl, List.forall_mem_cons.mpr ⟨wsU_at (w := u_lay RX7 TX7 9) 339 rfl rfl, List.forall_mem_cons.mpr ⟨wsU_at (w := u_lay RX7 TX7 10) 341 rfl rfl, List.forall_mem_cons.mpr ⟨wsU_at (w := u_lay RX7 TX7 11) 343 rfl rfl, List.forall_mem_cons.mpr ⟨wsU_at (w := u_lay RX7 TX7 12) 345 rfl rfl, List.forall_mem_cons.mpr ⟨wsU_at (w := u_lay RX7 TX7 13) 347 rfl rfl, List.forall_mem_cons.mpr ⟨wsU_at (w := u_lay RX7 TX7 14) 349 rfl rfl, List.forall_mem_cons.mpr ⟨wsU_at (w := u_lay RX7 TX7 15) 351 rfl rfl, fun _ h => absurd h List.not_mem_nil⟩⟩⟩⟩⟩⟩⟩⟩⟩⟩⟩⟩⟩⟩⟩⟩
set_option maxRecDepth 100000 in
theorem inlX8 : ∀ w ∈ wsX80, w ∈ wsU := by
  show ∀ w ∈ [u_lay RX8 TX8 0, u_lay RX8 TX8 1, u_lay RX8 TX8 2, u_lay RX8 TX8 3, u_lay RX8 TX8 4], w ∈ wsU
  exact List.forall_mem_cons.mpr ⟨wsU_at (w := u_lay RX8 TX8 0) 384 rfl rfl, List.forall_mem_cons.mpr ⟨wsU_at (w := u_lay RX8 TX8 1) 386 rfl rfl, List.forall_mem_cons.mpr ⟨wsU_at (w := u_lay RX8 TX8 2) 388 rfl rfl, List.forall_mem_cons.mpr ⟨wsU_at (w := u_lay RX8 TX8 3) 390 rfl rfl, List.forall_mem_cons.mpr ⟨wsU_at (w := u_lay RX8 TX8 4) 392 rfl rfl, fun _ h => absurd h List.not_mem_nil⟩⟩⟩⟩⟩
set_option maxRecDepth 100000 in
theorem inlX9 : ∀ w ∈ wsX90, w ∈ wsU := by
  show ∀ w ∈ [u_lay RX9 TX9 0, u_lay RX9 TX9 1, u_lay RX9 TX9 2], w ∈ wsU
  exact List.forall_mem_cons.mpr ⟨wsU_at (w := u_lay RX9 TX9 0) 179 rfl rfl, List.forall_mem_cons.mpr ⟨wsU_at (w := u_lay RX9 TX9 1) 181 rfl rfl, List.forall_mem_cons.mpr ⟨wsU_at (w := u_lay RX9 TX9 2) 183 rfl rfl, fun _ h => absurd h List.not_mem_nil⟩⟩⟩
set_option maxRecDepth 100000 in
theorem inlX10 : ∀ w ∈ wsX100, w ∈ wsU := by
  show ∀ w ∈ [u_lay RX10 TX10 0, u_lay RX10 TX10 1, u_lay RX10 TX10 2], w ∈ wsU
  exact List.forall_mem_cons.mpr ⟨wsU_at (w := u_lay RX10 TX10 0) 366 rfl rfl, List.forall_mem_cons.mpr ⟨wsU_at (w := u_lay RX10 TX10 1) 368 rfl rfl, List.forall_mem_cons.mpr ⟨wsU_at (w := u_lay RX10 TX10 2) 370 rfl rfl, fun _ h => absurd h List.not_mem_nil⟩⟩⟩
set_option maxRecDepth 100000 in
theorem inlX11 : ∀ w ∈ wsX110, w ∈ wsU := by
  show ∀ w ∈ [u_lay RX11 TX11 0, u_lay RX11 TX11 1, u_lay RX11 TX11 2, u_lay RX11 TX11 3, u_lay RX11 TX11 4, u_lay RX11 TX11 5, u_lay RX11 TX11 6, u_lay RX11 TX11 7, u_lay RX11 TX11 8, u_lay RX11 TX11 9, u_lay RX11 TX11 10, u_lay RX11 TX11 11, u_lay RX11 TX11 12, u_lay RX11 TX11 13, u_lay RX11 TX11 14, u_lay RX11 TX11 15, u_lay RX11 TX11 16, u_lay RX11 TX11 17, u_lay RX11 TX11 18], w ∈ wsU
  exact List.forall_mem_cons.mpr ⟨wsU_at (w := u_lay RX11 TX11 0) 631 rfl rfl, List.forall_mem_cons.mpr ⟨wsU_at (w := u_lay RX11 TX11 1) 633 rfl rfl, List.forall_mem_cons.mpr ⟨wsU_at (w := u_lay RX11 TX11 2) 635 rfl rfl, List.forall_mem_cons.mpr ⟨wsU_at (w := u_lay RX11 TX11 3) 637 rfl rfl, List.forall_mem_cons.mpr ⟨wsU_at (w := u_lay RX11 TX11 4) 639 rfl rfl, List.forall_mem_cons.mpr ⟨wsU_at (w := u_lay RX11 TX11 5) 641 rfl rfl, List.forall_mem_cons.mpr ⟨wsU_at (w := u_lay RX11 TX11 6) 643 rfl rfl, List.forall_mem_cons.mpr ⟨wsU_at (w := u_lay RX11 TX11 7) 645 rfl rfl, List.forall_mem_cons.mpr ⟨wsU_at (w := u_lay RX11 TX11 8) 647 rfl rfl, List.forall_mem_cons.mpr ⟨wsU_at (w := u_lay RX11 TX11 9) 649 rfl rfl, List.forall_mem_cons.mpr ⟨wsU_at (w := u_lay RX11 TX11 10) 651 rfl rfl, List.forall_mem_cons.mpr ⟨wsU_at (w := u_lay RX11 TX11 11) 653 rfl rfl, List.forall_mem_cons.mpr ⟨wsU_at (w := u_lay RX11 TX11 12) 655 rfl rfl, List.forall_mem_cons.mpr ⟨wsU_at (w := u_lay RX11 TX11 13) 657 rfl rfl, List.forall_mem_cons.mpr ⟨wsU_at (w := u_lay RX11 TX11 14) 659 rfl rfl, List.forall_mem_cons.mpr ⟨wsU_at (w := u_lay RX11 TX11 15) 661 rfl rfl, List.forall_mem_cons.mpr ⟨wsU_at (w := u_lay RX11 TX11 16) 663 rfl rfl, List.forall_mem_cons.mpr ⟨wsU_at (w := u_lay RX11 TX11 17) 665 rfl rfl, List.forall_mem_cons.mpr ⟨wsU_at (w := u_lay RX11 TX11 18) 667 rfl rfl, fun _ h => absurd h List.not_mem_nil⟩⟩⟩⟩⟩⟩⟩⟩⟩⟩⟩⟩⟩⟩⟩⟩⟩⟩⟩
set_option maxRecDepth 100000 in
theorem inlX12 : ∀ w ∈ wsX120, w ∈ wsU := by
  show ∀ w ∈ [u_lay RX12 TX12 0, u_lay RX12 TX12 1, u_lay RX12 TX12 2, u_lay RX12 TX12 3, u_lay RX12 TX12 4, u_lay RX12 TX12 5, u_lay RX12 TX12 6, u_lay RX12 TX12 7, u_lay RX12 TX12 8, u_lay RX12 TX12 9, u_lay RX12 TX12 10, u_lay RX12 TX12 11, u_lay RX12 TX12 12, u_lay RX12 TX12 13, u_lay RX12 TX12 14, u_lay RX12 TX12 15, u_lay RX12 TX12 16, u_lay RX12 TX12 17, u_lay RX12 TX12 18, u_lay RX12 TX12 19, u_lay RX12 TX12 20, u_lay RX12 TX12 21, u_lay RX12 TX12 22, u_lay RX12 TX12 23, u_lay RX12 TX12 24, u_lay RX12 TX12 25, u_lay RX12 TX12 26, u_lay RX12 TX12 27, u_lay RX12 TX12 28, u_lay RX12 TX12 29, u_lay RX12 TX12 30, u_lay RX12 TX12 31, u_lay RX12 TX12 32, u_lay RX12 TX12 33, u_lay RX12 TX12 34, u_lay RX12 TX12 35, u_lay RX12 TX12 36, u_lay RX12 TX12 37, u_lay RX12 TX12 38, u_lay RX12 TX12 39, u_lay RX12 TX12 40, u_lay RX12 TX12 41, u_lay RX12 TX12 42, u_lay RX12 TX12 43, u_lay RX12 TX12 44, u_lay RX12 TX12 45, u_lay RX12 TX12 46, u_lay RX12 TX12 47, u_lay RX12 TX12 48, u_lay RX12 TX12 49, u_lay RX12 TX12 50, u_lay RX12 TX12 51, u_lay RX12 TX12 52, u_lay RX12 TX12 53, u_lay RX12 TX12 54, u_lay RX12 TX12 55], w ∈ wsU
  exact List.forall_mem_cons.mpr ⟨wsU_at (w := u_lay RX12 TX12 0) 1504 rfl rfl, List.forall_mem_cons.mpr ⟨wsU_at (w := u_lay RX12 TX12 1) 1506 rfl rfl, List.forall_mem_cons.mpr ⟨wsU_at (w := u_lay RX12 TX12 2) 1508 rfl rfl, List.forall_mem_cons.mpr ⟨wsU_at (w := u_lay RX12 TX12 3) 1510 rfl rfl, List.forall_mem_cons.mpr ⟨wsU_at (w := u_lay RX12 TX12 4) 1512 rfl rfl, List.forall_mem_cons.mpr ⟨wsU_at (w := u_lay RX12 TX12 5) 1514 rfl rfl, List.forall_mem_cons.mpr ⟨wsU_at (w := u_lay RX12 TX12 6) 1516 rfl rfl, List.forall_mem_cons.mpr ⟨wsU_at (w := u_lay RX12 TX12 7) 1518 rfl rfl, List.forall_mem_cons.mpr ⟨wsU_at (w := u_lay RX12 TX12 8) 1520 rfl rfl, List.forall_mem_cons.mpr ⟨wsU_at (w := u_lay RX12 TX12 9) 1522 rfl rfl, List.forall_mem_cons.mpr ⟨wsU_at (w := u_lay RX12 TX12 10) 1524 rfl rfl, List.forall_mem_cons.mpr ⟨wsU_at (w := u_lay RX12 TX12 11) 1526 rfl rfl, List.forall_mem_cons.mpr ⟨wsU_at (w := u_lay RX12 TX12 12) 1528 rfl rfl, List.forall_mem_cons.mpr ⟨wsU_at (w := u_lay RX12 TX12 13) 1530 rfl rfl, List.forall_mem_cons.mpr ⟨wsU_at (w := u_lay RX12 TX12 14) 1532 rfl rfl, List.forall_mem_cons.mpr ⟨wsU_at (w := u_lay RX12 TX12 15) 1534 rfl rfl, List.forall_mem_cons.mpr ⟨wsU_at (w := u_lay RX12 TX12 16) 1536 rfl rfl, List.forall_mem_cons.mpr ⟨wsU_at (w := u_lay RX12 TX12 17) 1538 rfl rfl, List.forall_mem_cons.mpr ⟨wsU_at (w := u_lay RX12 TX12 18) 1540 rfl rfl, List.forall_mem_cons.mpr ⟨wsU_at (w := u_lay RX12 TX12 19) 1542 rfl rfl, List.forall_mem_cons.mpr ⟨wsU_at (w := u_lay RX12 TX12 20) 1544 rfl rfl, List.forall_mem_cons.mpr ⟨wsU_at (w := u_lay RX12 TX12 21) 1546 rfl rfl, List.forall_mem_cons.mpr ⟨wsU_at (w := u_lay RX12 TX12 22) 1548 rfl rfl, List.forall_mem_cons.mpr ⟨wsU_at (w := u_lay RX12 TX12 23) 1550 rfl rfl, List.forall_mem_cons.mpr ⟨wsU_at (w := u_lay RX12 TX12 24) 1552 rfl rfl, List.forall_mem_cons.mpr ⟨wsU_at (w := u_lay RX12 TX12 25) 1554 rfl rfl, List.forall_mem_cons.mpr ⟨wsU_at (w := u_lay RX12 TX12 26) 1556 rfl rfl, List.forall_mem_cons.mpr ⟨wsU_at (w := u_lay RX12 TX12 27) 1558 rfl rfl, List.forall_mem_cons.mpr ⟨wsU_at (w := u_lay RX12 TX12 28) 1560 rfl rfl, List.forall_mem_cons.mpr ⟨wsU_at (w := u_lay RX12 TX12 29) 1562 rfl rfl, List.forall_mem_cons.mpr ⟨wsU_at (w := u_lay RX12 TX12 30) 1564 rfl rfl, List.forall_mem_cons.mpr ⟨wsU_at (w := u_lay RX12 TX12 31) 1566 rfl rfl, List.forall_mem_cons.mpr ⟨wsU_at (w := u_lay RX12 TX12 32) 1568 rfl rfl, List.forall_mem_cons.mpr ⟨wsU_at (w := u_lay RX12 TX12 33) 1570 rfl rfl, List.forall_mem_cons.mpr ⟨wsU_at (w := u_lay RX12 TX12 34) 1572 rfl rfl, List.forall_mem_cons.mpr ⟨wsU_at (w := u_lay RX12 TX12 35) 1574 rfl rfl, List.forall_mem_cons.mpr ⟨wsU_at (w := u_lay RX12 TX12 36) 1576 rfl rfl, List.forall_mem_cons.mpr ⟨wsU_at (w := u_lay RX12 TX12 37) 1578 rfl rfl, List.forall_mem_cons.mpr ⟨wsU_at (w := u_lay RX12 TX12 38) 1580 rfl rfl, List.forall_mem_cons.mpr ⟨wsU_at (w := u_lay RX12 TX12 39) 1582 rfl rfl, List.forall_mem_cons.mpr ⟨wsU_at (w := u_lay RX12 TX12 40) 1584 rfl rfl, List.forall_mem_cons.mpr ⟨wsU_at (w := u_lay RX12 TX12 41) 1586 rfl rfl, List.forall_mem_cons.mpr ⟨wsU_at (w := u_lay RX12 TX12 42) 1588 rfl rfl, List.forall_mem_cons.mpr ⟨wsU_at (w := u_lay RX12 TX12 43) 1590 rfl rfl, List.forall_mem_cons.mpr ⟨wsU_at (w := u_lay RX12 TX12 44) 1592 rfl rfl, List.forall_mem_cons.mpr ⟨wsU_at (w := u_lay RX12 TX12 45) 1594 rfl rfl, List.forall_mem_cons.mpr ⟨wsU_at (w := u_lay RX12 TX12 46) 1596 rfl rfl, List.forall_mem_cons.mpr ⟨wsU_at (w := u_lay RX12 TX12 47) 1598 rfl rfl, List.forall_mem_cons.mpr ⟨wsU_at (w := u_lay RX12 TX12 48) 1600 rfl rfl, List.forall_mem_cons.mpr ⟨wsU_at (w := u_lay RX12 TX12 49) 1602 rfl rfl, List.forall_mem_cons.mpr ⟨wsU_at (w := u_lay RX12 TX12 50) 1604 rfl rfl, List.forall_mem_cons.mpr ⟨wsU_at (w := u_lay RX12 TX12 51) 1606 rfl rfl, List.forall_mem_cons.mpr ⟨wsU_at (w := u_lay RX12 TX12 52) 1608 rfl rfl, List.forall_mem_cons.mpr ⟨wsU_at (w := u_lay RX12 TX12 53) 1610 rfl rfl, List.forall_mem_cons.mpr ⟨wsU_at (w := u_lay RX12 TX12 54) 1612 rfl rfl, List.forall_mem_cons.mpr ⟨wsU_at (w := u_lay RX12 TX12 55) 1614 rfl rfl, fun _ h => absurd h List.not_mem_nil⟩⟩⟩⟩⟩⟩⟩⟩⟩⟩⟩⟩⟩⟩⟩⟩⟩⟩⟩⟩⟩⟩⟩⟩⟩⟩⟩⟩⟩⟩⟩⟩⟩⟩⟩⟩⟩⟩⟩⟩⟩⟩⟩⟩⟩⟩⟩⟩⟩⟩⟩⟩⟩⟩⟩⟩
theorem ti_m1 : (-1 : Int32).toInt = -1 := by decide
theorem ti_0 : (0 : Int32).toInt = 0 := by decide
theorem ti_1 : (1 : Int32).toInt = 1 := by decide
theorem ti_2 : (2 : Int32).toInt = 2 := by decide
theorem ti_3 : (3 : Int32).toInt = 3 := by decide
theorem ti_4 : (4 : Int32).toInt = 4 := by decide
theorem ti_5 : (5 : Int32).toInt = 5 := by decide
theorem ti_6 : (6 : Int32).toInt = 6 := by decide
theorem ti_8 : (8 : Int32).toInt = 8 := by decide
theorem ti_9 : (9 : Int32).toInt = 9 := by decide
theorem ti_10 : (10 : Int32).toInt = 10 := by decide
theorem ti_12 : (12 : Int32).toInt = 12 := by decide
theorem ti_18 : (18 : Int32).toInt = 18 := by decide
theorem ti_20 : (20 : Int32).toInt = 20 := by decide
theorem ti_26 : (26 : Int32).toInt = 26 := by decide
theorem ti_36 : (36 : Int32).toInt = 36 := by decide
theorem ti_58 : (58 : Int32).toInt = 58 := by decide
theorem ti_63 : (63 : Int32).toInt = 63 := by decide
theorem ti_64 : (64 : Int32).toInt = 64 := by decide
theorem ti_73 : (73 : Int32).toInt = 73 := by decide
theorem ti_81 : (81 : Int32).toInt = 81 := by decide
theorem ti_96 : (96 : Int32).toInt = 96 := by decide
theorem ti_97 : (97 : Int32).toInt = 97 := by decide
theorem ti_122 : (122 : Int32).toInt = 122 := by decide
theorem ti_200 : (200 : Int32).toInt = 200 := by decide
theorem ti_255 : (255 : Int32).toInt = 255 := by decide
theorem ti_256 : (256 : Int32).toInt = 256 := by decide
theorem ti_512 : (512 : Int32).toInt = 512 := by decide
theorem ti_600 : (600 : Int32).toInt = 600 := by decide
theorem ti_4096 : (4096 : Int32).toInt = 4096 := by decide
theorem ti_5329 : (5329 : Int32).toInt = 5329 := by decide
theorem ti_6560 : (6560 : Int32).toInt = 6560 := by decide
theorem ti_59049 : (59049 : Int32).toInt = 59049 := by decide
theorem ti_133152 : (133152 : Int32).toInt = 133152 := by decide
theorem ti_252645135 : (252645135 : Int32).toInt = 252645135 := by decide
theorem ti_858993459 : (858993459 : Int32).toInt = 858993459 := by decide
theorem ti_1431655765 : (1431655765 : Int32).toInt = 1431655765 := by decide

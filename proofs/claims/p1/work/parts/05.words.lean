set_option maxRecDepth 100000 in
theorem wd_9 : Cond.methodLink RX11 3 objectInit ∈ wsU := wsU_at 149 rfl rfl
set_option maxRecDepth 100000 in
theorem wd_10 : Cond.instanceMethod objectInit ∈ wsU := wsU_at 150 rfl rfl
set_option maxRecDepth 100000 in
theorem wd_11 : Cond.code objectInit ⟨#[0xb1]⟩ 1 none ∈ wsU := wsU_at 151 rfl rfl
set_option maxRecDepth 100000 in
theorem wd_12 : Cond.arrayClass .int ∈ wsU := wsU_at 186 rfl rfl
set_option maxRecDepth 100000 in
theorem wd_13 : Cond.fieldLink RX11 9 "SaidShallow" "tape" "[I" ∈ wsU := wsU_at 612 rfl rfl
set_option maxRecDepth 100000 in
theorem wd_14 : Cond.classLink RX11 13 RX3 ∈ wsU := wsU_at 152 rfl rfl
set_option maxRecDepth 100000 in
theorem wd_15 : Cond.instantiable RX3 18 ∈ wsU := wsU_at 153 rfl rfl
set_option maxRecDepth 100000 in
theorem wd_16 : Cond.initialized RX3 ∈ wsU := wsU_at 124 rfl rfl
set_option maxRecDepth 100000 in
theorem wd_17 : Cond.fieldLink RX11 16 "SaidShallow" "rows" "LSaidShallow$Rows;" ∈ wsU := wsU_at 614 rfl rfl
set_option maxRecDepth 100000 in
theorem wd_18 : Cond.fieldLink RX11 20 "SaidShallow$Rows" "tongue" "LSaidShallow$Tongue;" ∈ wsU := wsU_at 423 rfl rfl
set_option maxRecDepth 100000 in
theorem wd_19 : Cond.fieldLink RX11 24 "SaidShallow" "tongue" "LSaidShallow$Tongue;" ∈ wsU := wsU_at 615 rfl rfl
set_option maxRecDepth 100000 in
theorem wd_20 : Cond.fieldLink RX11 25 "SaidShallow$Rows" "words" "LSaidShallow$Words;" ∈ wsU := wsU_at 426 rfl rfl
set_option maxRecDepth 100000 in
theorem wd_21 : Cond.fieldLink RX11 29 "SaidShallow" "words" "LSaidShallow$Words;" ∈ wsU := wsU_at 616 rfl rfl
set_option maxRecDepth 100000 in
theorem wd_22 : Cond.classLink RX11 30 RX6 ∈ wsU := wsU_at 483 rfl rfl
set_option maxRecDepth 100000 in
theorem wd_23 : Cond.instantiable RX6 9 ∈ wsU := wsU_at 484 rfl rfl
set_option maxRecDepth 100000 in
theorem wd_24 : Cond.initialized RX6 ∈ wsU := wsU_at 132 rfl rfl
set_option maxRecDepth 100000 in
theorem wd_25 : Cond.fieldLink RX11 33 "SaidShallow" "standing" "LSaidShallow$Standing;" ∈ wsU := wsU_at 617 rfl rfl
set_option maxRecDepth 100000 in
theorem wd_26 : Cond.classLink RX11 37 RX7 ∈ wsU := wsU_at 526 rfl rfl
set_option maxRecDepth 100000 in
theorem wd_27 : Cond.instantiable RX7 16 ∈ wsU := wsU_at 159 rfl rfl
set_option maxRecDepth 100000 in
theorem wd_28 : Cond.initialized RX7 ∈ wsU := wsU_at 125 rfl rfl
set_option maxRecDepth 100000 in
theorem wd_29 : Cond.fieldLink RX11 40 "SaidShallow" "imageTongue" "LSaidShallow$Tongue;" ∈ wsU := wsU_at 618 rfl rfl
set_option maxRecDepth 100000 in
theorem wd_30 : Cond.fieldLink RX11 43 "SaidShallow" "imageStanding" "LSaidShallow$Standing;" ∈ wsU := wsU_at 619 rfl rfl
set_option maxRecDepth 100000 in
theorem wd_31 : Cond.classLink RX11 46 RX2 ∈ wsU := wsU_at 528 rfl rfl
set_option maxRecDepth 100000 in
theorem wd_32 : Cond.instantiable RX2 10 ∈ wsU := wsU_at 529 rfl rfl
set_option maxRecDepth 100000 in
theorem wd_33 : Cond.initialized RX2 ∈ wsU := wsU_at 133 rfl rfl
set_option maxRecDepth 100000 in
theorem wd_34 : Cond.fieldLink RX11 49 "SaidShallow" "reader" "LSaidShallow$Reader;" ∈ wsU := wsU_at 621 rfl rfl
set_option maxRecDepth 100000 in
theorem wd_35 : Cond.classLink RX11 53 RX0 ∈ wsU := wsU_at 570 rfl rfl
set_option maxRecDepth 100000 in
theorem wd_36 : Cond.instantiable RX0 11 ∈ wsU := wsU_at 571 rfl rfl
set_option maxRecDepth 100000 in
theorem wd_37 : Cond.initialized RX0 ∈ wsU := wsU_at 134 rfl rfl
set_option maxRecDepth 100000 in
theorem wd_38 : Cond.fieldLink RX11 56 "SaidShallow" "bestOrder" "LSaidShallow$BestOrder;" ∈ wsU := wsU_at 622 rfl rfl
set_option maxRecDepth 100000 in
theorem wd_39 : Cond.fieldLink RX11 60 "SaidShallow" "couples" "[I" ∈ wsU := wsU_at 623 rfl rfl
set_option maxRecDepth 100000 in
theorem wd_40 : Cond.fieldLink RX11 63 "SaidShallow" "brokenPlace" "I" ∈ wsU := wsU_at 625 rfl rfl
set_option maxRecDepth 100000 in
theorem wd_41 : Cond.fieldLink RX11 67 "SaidShallow" "agedWord" "[I" ∈ wsU := wsU_at 626 rfl rfl
set_option maxRecDepth 100000 in
theorem wd_42 : Cond.fieldLink RX11 70 "SaidShallow" "told" "[I" ∈ wsU := wsU_at 628 rfl rfl
set_option maxRecDepth 100000 in
theorem wd_43 : Cond.fieldLink RX11 73 "SaidShallow" "joined" "[I" ∈ wsU := wsU_at 629 rfl rfl
set_option maxRecDepth 100000 in
theorem wd_44 : Cond.instanceMethod yX3_init ∈ wsU := wsU_at 155 rfl rfl
set_option maxRecDepth 100000 in
theorem wd_45 : Cond.code yX3_init cX3_init 1 none ∈ wsU := wsU_at 156 rfl rfl
set_option maxRecDepth 100000 in
theorem wd_46 : Cond.methodLink RX3 7 objectInit ∈ wsU := wsU_at 157 rfl rfl
set_option maxRecDepth 100000 in
theorem wd_47 : Cond.classLink RX3 1 RX7 ∈ wsU := wsU_at 158 rfl rfl
set_option maxRecDepth 100000 in
theorem wd_48 : Cond.fieldLink RX3 14 "SaidShallow$Rows" "tongue" "LSaidShallow$Tongue;" ∈ wsU := wsU_at 422 rfl rfl
set_option maxRecDepth 100000 in
theorem wd_49 : Cond.classLink RX3 18 RX10 ∈ wsU := wsU_at 354 rfl rfl
set_option maxRecDepth 100000 in
theorem wd_50 : Cond.instantiable RX10 3 ∈ wsU := wsU_at 355 rfl rfl
set_option maxRecDepth 100000 in
theorem wd_51 : Cond.initialized RX10 ∈ wsU := wsU_at 129 rfl rfl
set_option maxRecDepth 100000 in
theorem wd_52 : Cond.fieldLink RX3 21 "SaidShallow$Rows" "words" "LSaidShallow$Words;" ∈ wsU := wsU_at 425 rfl rfl
set_option maxRecDepth 100000 in
theorem wd_53 : Cond.classLink RX3 25 RX8 ∈ wsU := wsU_at 373 rfl rfl
set_option maxRecDepth 100000 in
theorem wd_54 : Cond.instantiable RX8 5 ∈ wsU := wsU_at 374 rfl rfl
set_option maxRecDepth 100000 in
theorem wd_55 : Cond.initialized RX8 ∈ wsU := wsU_at 130 rfl rfl
set_option maxRecDepth 100000 in
theorem wd_56 : Cond.fieldLink RX3 28 "SaidShallow$Rows" "track" "LSaidShallow$Track;" ∈ wsU := wsU_at 427 rfl rfl
set_option maxRecDepth 100000 in
theorem wd_57 : Cond.classLink RX3 32 RX1 ∈ wsU := wsU_at 395 rfl rfl
set_option maxRecDepth 100000 in
theorem wd_58 : Cond.instantiable RX1 6 ∈ wsU := wsU_at 396 rfl rfl
set_option maxRecDepth 100000 in
theorem wd_59 : Cond.initialized RX1 ∈ wsU := wsU_at 131 rfl rfl
set_option maxRecDepth 100000 in
theorem wd_60 : Cond.fieldLink RX3 35 "SaidShallow$Rows" "deadEnds" "LSaidShallow$DeadEnds;" ∈ wsU := wsU_at 428 rfl rfl
set_option maxRecDepth 100000 in
theorem wd_61 : Cond.fieldLink RX3 39 "SaidShallow$Rows" "given" "[I" ∈ wsU := wsU_at 429 rfl rfl
set_option maxRecDepth 100000 in
theorem wd_62 : Cond.fieldLink RX3 43 "SaidShallow$Rows" "wanted" "I" ∈ wsU := wsU_at 436 rfl rfl
set_option maxRecDepth 100000 in
theorem wd_63 : Cond.fieldLink RX3 47 "SaidShallow$Rows" "row" "[I" ∈ wsU := wsU_at 437 rfl rfl
set_option maxRecDepth 100000 in
theorem wd_64 : Cond.fieldLink RX3 50 "SaidShallow$Rows" "codes" "[I" ∈ wsU := wsU_at 438 rfl rfl
set_option maxRecDepth 100000 in
theorem wd_65 : Cond.fieldLink RX3 53 "SaidShallow$Rows" "masks" "[I" ∈ wsU := wsU_at 440 rfl rfl
set_option maxRecDepth 100000 in
theorem wd_66 : Cond.fieldLink RX3 56 "SaidShallow$Rows" "marks" "[I" ∈ wsU := wsU_at 444 rfl rfl
set_option maxRecDepth 100000 in
theorem wd_67 : Cond.fieldLink RX3 59 "SaidShallow$Rows" "needed" "[I" ∈ wsU := wsU_at 445 rfl rfl
set_option maxRecDepth 100000 in
theorem wd_68 : Cond.methodLink RX3 13 yX7_init ∈ wsU := wsU_at 160 rfl rfl
set_option maxRecDepth 100000 in
theorem wd_69 : Cond.instanceMethod yX7_init ∈ wsU := wsU_at 161 rfl rfl
set_option maxRecDepth 100000 in
theorem wd_70 : Cond.code yX7_init cX7_init 2 none ∈ wsU := wsU_at 162 rfl rfl
set_option maxRecDepth 100000 in
theorem wd_71 : Cond.methodLink RX7 3 objectInit ∈ wsU := wsU_at 163 rfl rfl
set_option maxRecDepth 100000 in
theorem wd_72 : Cond.fieldLink RX7 9 "SaidShallow$Tongue" "signAt" "[I" ∈ wsU := wsU_at 275 rfl rfl
set_option maxRecDepth 100000 in
theorem wd_73 : Cond.fieldLink RX7 15 "SaidShallow$Tongue" "classes" "[I" ∈ wsU := wsU_at 281 rfl rfl
set_option maxRecDepth 100000 in
theorem wd_74 : Cond.fieldLink RX7 18 "SaidShallow$Tongue" "pairAt" "[I" ∈ wsU := wsU_at 284 rfl rfl
set_option maxRecDepth 100000 in
theorem wd_75 : Cond.fieldLink RX7 21 "SaidShallow$Tongue" "deepOf" "[I" ∈ wsU := wsU_at 285 rfl rfl
set_option maxRecDepth 100000 in
theorem wd_76 : Cond.fieldLink RX7 24 "SaidShallow$Tongue" "saidOf" "[I" ∈ wsU := wsU_at 289 rfl rfl
set_option maxRecDepth 100000 in
theorem wd_77 : Cond.fieldLink RX7 27 "SaidShallow$Tongue" "extrasOfDeep" "[I" ∈ wsU := wsU_at 297 rfl rfl
set_option maxRecDepth 100000 in
theorem wd_78 : Cond.fieldLink RX7 30 "SaidShallow$Tongue" "extrasOfSaid" "[I" ∈ wsU := wsU_at 298 rfl rfl
set_option maxRecDepth 100000 in
theorem wd_79 : Cond.fieldLink RX7 33 "SaidShallow$Tongue" "pairsOfDeep" "[I" ∈ wsU := wsU_at 299 rfl rfl
set_option maxRecDepth 100000 in
theorem wd_80 : Cond.fieldLink RX7 36 "SaidShallow$Tongue" "pairsOfSaid" "[I" ∈ wsU := wsU_at 301 rfl rfl
set_option maxRecDepth 100000 in
theorem wd_81 : Cond.classLink RX7 39 RX4 ∈ wsU := wsU_at 164 rfl rfl
set_option maxRecDepth 100000 in
theorem wd_82 : Cond.fieldLink RX7 41 "SaidShallow$Tongue" "rules" "[LSaidShallow$Rule;" ∈ wsU := wsU_at 303 rfl rfl
set_option maxRecDepth 100000 in
theorem wd_83 : Cond.classLink RX7 45 RX9 ∈ wsU := wsU_at 166 rfl rfl
set_option maxRecDepth 100000 in
theorem wd_84 : Cond.instantiable RX9 3 ∈ wsU := wsU_at 167 rfl rfl
set_option maxRecDepth 100000 in
theorem wd_85 : Cond.initialized RX9 ∈ wsU := wsU_at 126 rfl rfl
set_option maxRecDepth 100000 in
theorem wd_86 : Cond.fieldLink RX7 50 "SaidShallow$Tongue" "stems" "LSaidShallow$WordList;" ∈ wsU := wsU_at 314 rfl rfl
set_option maxRecDepth 100000 in
theorem wd_87 : Cond.fieldLink RX7 54 "SaidShallow$Tongue" "ends" "LSaidShallow$WordList;" ∈ wsU := wsU_at 317 rfl rfl
set_option maxRecDepth 100000 in
theorem wd_88 : Cond.fieldLink RX7 57 "SaidShallow$Tongue" "row" "[I" ∈ wsU := wsU_at 320 rfl rfl
set_option maxRecDepth 100000 in
theorem wd_89 : Cond.instantiable RX4 11 ∈ wsU := wsU_at 187 rfl rfl
set_option maxRecDepth 100000 in
theorem wd_90 : Cond.initialized RX4 ∈ wsU := wsU_at 127 rfl rfl
set_option maxRecDepth 100000 in
theorem wd_91 : Cond.methodLink RX7 47 yX9_init ∈ wsU := wsU_at 168 rfl rfl
set_option maxRecDepth 100000 in
theorem wd_92 : Cond.instanceMethod yX9_init ∈ wsU := wsU_at 169 rfl rfl
set_option maxRecDepth 100000 in
theorem wd_93 : Cond.code yX9_init cX9_init 2 none ∈ wsU := wsU_at 170 rfl rfl
set_option maxRecDepth 100000 in
theorem wd_94 : Cond.methodLink RX9 3 objectInit ∈ wsU := wsU_at 171 rfl rfl
set_option maxRecDepth 100000 in
theorem wd_95 : Cond.fieldLink RX9 9 "SaidShallow$WordList" "signs" "[I" ∈ wsU := wsU_at 172 rfl rfl
set_option maxRecDepth 100000 in
theorem wd_96 : Cond.fieldLink RX9 15 "SaidShallow$WordList" "lengths" "[I" ∈ wsU := wsU_at 173 rfl rfl
set_option maxRecDepth 100000 in
theorem wd_97 : Cond.instanceMethod yX4_init ∈ wsU := wsU_at 189 rfl rfl
set_option maxRecDepth 100000 in
theorem wd_98 : Cond.code yX4_init cX4_init 1 none ∈ wsU := wsU_at 190 rfl rfl
set_option maxRecDepth 100000 in
theorem wd_99 : Cond.methodLink RX4 3 objectInit ∈ wsU := wsU_at 191 rfl rfl
set_option maxRecDepth 100000 in
theorem wd_100 : Cond.classLink RX4 9 RX5 ∈ wsU := wsU_at 192 rfl rfl
set_option maxRecDepth 100000 in
theorem wd_101 : Cond.instantiable RX5 6 ∈ wsU := wsU_at 193 rfl rfl
set_option maxRecDepth 100000 in
theorem wd_102 : Cond.initialized RX5 ∈ wsU := wsU_at 128 rfl rfl
set_option maxRecDepth 100000 in
theorem wd_103 : Cond.fieldLink RX4 12 "SaidShallow$Rule" "left" "LSaidShallow$Side;" ∈ wsU := wsU_at 233 rfl rfl
set_option maxRecDepth 100000 in
theorem wd_104 : Cond.fieldLink RX4 18 "SaidShallow$Rule" "right" "LSaidShallow$Side;" ∈ wsU := wsU_at 237 rfl rfl
set_option maxRecDepth 100000 in
theorem wd_105 : Cond.fieldLink RX4 21 "SaidShallow$Rule" "roles" "[I" ∈ wsU := wsU_at 240 rfl rfl
set_option maxRecDepth 100000 in
theorem wd_106 : Cond.fieldLink RX4 25 "SaidShallow$Rule" "opened" "[I" ∈ wsU := wsU_at 242 rfl rfl
set_option maxRecDepth 100000 in
theorem wd_107 : Cond.instanceMethod yX5_init ∈ wsU := wsU_at 195 rfl rfl
set_option maxRecDepth 100000 in
theorem wd_108 : Cond.code yX5_init cX5_init 1 none ∈ wsU := wsU_at 196 rfl rfl
set_option maxRecDepth 100000 in
theorem wd_109 : Cond.methodLink RX5 5 objectInit ∈ wsU := wsU_at 197 rfl rfl
set_option maxRecDepth 100000 in
theorem wd_110 : Cond.fieldLink RX5 11 "SaidShallow$Side" "deepSets" "[I" ∈ wsU := wsU_at 198 rfl rfl
set_option maxRecDepth 100000 in
theorem wd_111 : Cond.fieldLink RX5 15 "SaidShallow$Side" "saidSets" "[I" ∈ wsU := wsU_at 199 rfl rfl
set_option maxRecDepth 100000 in
theorem wd_112 : Cond.fieldLink RX5 18 "SaidShallow$Side" "fitting" "[I" ∈ wsU := wsU_at 200 rfl rfl
set_option maxRecDepth 100000 in
theorem wd_113 : Cond.instanceMethod yX10_init ∈ wsU := wsU_at 357 rfl rfl
set_option maxRecDepth 100000 in
theorem wd_114 : Cond.code yX10_init cX10_init 1 none ∈ wsU := wsU_at 358 rfl rfl
set_option maxRecDepth 100000 in
theorem wd_115 : Cond.methodLink RX10 3 objectInit ∈ wsU := wsU_at 359 rfl rfl
set_option maxRecDepth 100000 in
theorem wd_116 : Cond.fieldLink RX10 11 "SaidShallow$Words" "codes" "[I" ∈ wsU := wsU_at 360 rfl rfl
set_option maxRecDepth 100000 in
theorem wd_117 : Cond.instanceMethod yX8_init ∈ wsU := wsU_at 376 rfl rfl
set_option maxRecDepth 100000 in
theorem wd_118 : Cond.code yX8_init cX8_init 1 none ∈ wsU := wsU_at 377 rfl rfl
set_option maxRecDepth 100000 in
theorem wd_119 : Cond.methodLink RX8 7 objectInit ∈ wsU := wsU_at 378 rfl rfl
set_option maxRecDepth 100000 in
theorem wd_120 : Cond.fieldLink RX8 13 "SaidShallow$Track" "left" "[I" ∈ wsU := wsU_at 379 rfl rfl
set_option maxRecDepth 100000 in
theorem wd_121 : Cond.fieldLink RX8 17 "SaidShallow$Track" "barred" "[I" ∈ wsU := wsU_at 380 rfl rfl
set_option maxRecDepth 100000 in
theorem wd_122 : Cond.fieldLink RX8 20 "SaidShallow$Track" "owedCount" "[I" ∈ wsU := wsU_at 381 rfl rfl
set_option maxRecDepth 100000 in
theorem wd_123 : Cond.fieldLink RX8 23 "SaidShallow$Track" "owed" "[I" ∈ wsU := wsU_at 382 rfl rfl
set_option maxRecDepth 100000 in
theorem wd_124 : Cond.fieldLink RX8 26 "SaidShallow$Track" "broken" "[I" ∈ wsU := wsU_at 383 rfl rfl
set_option maxRecDepth 100000 in
theorem wd_125 : Cond.instanceMethod yX1_init ∈ wsU := wsU_at 398 rfl rfl
set_option maxRecDepth 100000 in
theorem wd_126 : Cond.code yX1_init cX1_init 1 none ∈ wsU := wsU_at 399 rfl rfl
set_option maxRecDepth 100000 in
theorem wd_127 : Cond.methodLink RX1 3 objectInit ∈ wsU := wsU_at 400 rfl rfl
set_option maxRecDepth 100000 in
theorem wd_128 : Cond.fieldLink RX1 11 "SaidShallow$DeadEnds" "slots" "[I" ∈ wsU := wsU_at 402 rfl rfl
set_option maxRecDepth 100000 in
theorem wd_129 : Cond.constant RX1 15 (32768) ∈ wsU := wsU_at 401 rfl rfl
set_option maxRecDepth 100000 in
theorem wd_130 : Cond.arrayClass .long ∈ wsU := wsU_at 421 rfl rfl
set_option maxRecDepth 100000 in
theorem wd_131 : Cond.fieldLink RX1 16 "SaidShallow$DeadEnds" "pool" "[J" ∈ wsU := wsU_at 403 rfl rfl
set_option maxRecDepth 100000 in
theorem wd_132 : Cond.fieldLink RX1 22 "SaidShallow$DeadEnds" "key" "[J" ∈ wsU := wsU_at 404 rfl rfl
set_option maxRecDepth 100000 in
theorem wd_133 : Cond.instanceMethod yX6_init ∈ wsU := wsU_at 486 rfl rfl
set_option maxRecDepth 100000 in
theorem wd_134 : Cond.code yX6_init cX6_init 1 none ∈ wsU := wsU_at 487 rfl rfl
set_option maxRecDepth 100000 in
theorem wd_135 : Cond.methodLink RX6 3 objectInit ∈ wsU := wsU_at 488 rfl rfl
set_option maxRecDepth 100000 in
theorem wd_136 : Cond.fieldLink RX6 9 "SaidShallow$Standing" "slack" "I" ∈ wsU := wsU_at 494 rfl rfl
set_option maxRecDepth 100000 in
theorem wd_137 : Cond.fieldLink RX6 15 "SaidShallow$Standing" "order" "[I" ∈ wsU := wsU_at 497 rfl rfl
set_option maxRecDepth 100000 in
theorem wd_138 : Cond.classLink RX6 19 RX9 ∈ wsU := wsU_at 489 rfl rfl
set_option maxRecDepth 100000 in
theorem wd_139 : Cond.fieldLink RX6 24 "SaidShallow$Standing" "deeps" "LSaidShallow$WordList;" ∈ wsU := wsU_at 499 rfl rfl
set_option maxRecDepth 100000 in
theorem wd_140 : Cond.fieldLink RX6 28 "SaidShallow$Standing" "saids" "LSaidShallow$WordList;" ∈ wsU := wsU_at 501 rfl rfl
set_option maxRecDepth 100000 in
theorem wd_141 : Cond.fieldLink RX6 31 "SaidShallow$Standing" "breaks" "[I" ∈ wsU := wsU_at 504 rfl rfl
set_option maxRecDepth 100000 in
theorem wd_142 : Cond.fieldLink RX6 34 "SaidShallow$Standing" "ways" "[I" ∈ wsU := wsU_at 505 rfl rfl
set_option maxRecDepth 100000 in
theorem wd_143 : Cond.fieldLink RX6 37 "SaidShallow$Standing" "word" "[I" ∈ wsU := wsU_at 506 rfl rfl
set_option maxRecDepth 100000 in
theorem wd_144 : Cond.methodLink RX6 21 yX9_init ∈ wsU := wsU_at 490 rfl rfl
set_option maxRecDepth 100000 in
theorem wd_145 : Cond.methodLink RX11 39 yX7_init ∈ wsU := wsU_at 527 rfl rfl
set_option maxRecDepth 100000 in
theorem wd_146 : Cond.instanceMethod yX2_init ∈ wsU := wsU_at 531 rfl rfl
set_option maxRecDepth 100000 in
theorem wd_147 : Cond.code yX2_init cX2_init 1 none ∈ wsU := wsU_at 532 rfl rfl
set_option maxRecDepth 100000 in
theorem wd_148 : Cond.methodLink RX2 3 objectInit ∈ wsU := wsU_at 533 rfl rfl
set_option maxRecDepth 100000 in
theorem wd_149 : Cond.classLink RX2 9 RX7 ∈ wsU := wsU_at 534 rfl rfl
set_option maxRecDepth 100000 in
theorem wd_150 : Cond.fieldLink RX2 12 "SaidShallow$Reader" "draft" "LSaidShallow$Tongue;" ∈ wsU := wsU_at 536 rfl rfl
set_option maxRecDepth 100000 in
theorem wd_151 : Cond.fieldLink RX2 18 "SaidShallow$Reader" "faultPlace" "I" ∈ wsU := wsU_at 540 rfl rfl
set_option maxRecDepth 100000 in
theorem wd_152 : Cond.fieldLink RX2 22 "SaidShallow$Reader" "signs" "[I" ∈ wsU := wsU_at 542 rfl rfl
set_option maxRecDepth 100000 in
theorem wd_153 : Cond.methodLink RX2 11 yX7_init ∈ wsU := wsU_at 535 rfl rfl
set_option maxRecDepth 100000 in
theorem wd_154 : Cond.instanceMethod yX0_init ∈ wsU := wsU_at 573 rfl rfl
set_option maxRecDepth 100000 in
theorem wd_155 : Cond.code yX0_init cX0_init 1 none ∈ wsU := wsU_at 574 rfl rfl
set_option maxRecDepth 100000 in
theorem wd_156 : Cond.methodLink RX0 3 objectInit ∈ wsU := wsU_at 575 rfl rfl
set_option maxRecDepth 100000 in
theorem wd_157 : Cond.fieldLink RX0 11 "SaidShallow$BestOrder" "after" "[I" ∈ wsU := wsU_at 576 rfl rfl
set_option maxRecDepth 100000 in
theorem wd_158 : Cond.fieldLink RX0 15 "SaidShallow$BestOrder" "agrees" "[I" ∈ wsU := wsU_at 577 rfl rfl
set_option maxRecDepth 100000 in
theorem wd_159 : Cond.fieldLink RX0 18 "SaidShallow$BestOrder" "inUse" "[I" ∈ wsU := wsU_at 578 rfl rfl
set_option maxRecDepth 100000 in
theorem wd_160 : Cond.fieldLink RX0 21 "SaidShallow$BestOrder" "path" "[I" ∈ wsU := wsU_at 580 rfl rfl
set_option maxRecDepth 100000 in
theorem wd_161 : Cond.fieldLink RX0 24 "SaidShallow$BestOrder" "stages" "[I" ∈ wsU := wsU_at 581 rfl rfl
set_option maxRecDepth 100000 in
theorem wd_162 : Cond.fieldLink RX0 27 "SaidShallow$BestOrder" "best" "[I" ∈ wsU := wsU_at 582 rfl rfl
set_option maxRecDepth 100000 in
theorem wd_163 : Cond.fieldLink RX0 30 "SaidShallow$BestOrder" "word" "[I" ∈ wsU := wsU_at 586 rfl rfl
set_option maxRecDepth 100000 in
theorem wd_164 : Cond.fieldLink RX0 33 "SaidShallow$BestOrder" "knownChanges" "I" ∈ wsU := wsU_at 588 rfl rfl
set_option maxRecDepth 100000 in
theorem inlX0 : ∀ w ∈ wsX00, w ∈ wsU := by
  show ∀ w ∈ [u_lay RX0 TX0 0, u_lay RX0 TX0 1, u_lay RX0 TX0 2, u_lay RX0 TX0 3, u_lay RX0 TX0 4, u_lay RX0 TX0 5, u_lay RX0 TX0 6, u_lay RX0 TX0 7, u_lay RX0 TX0 8, u_lay RX0 TX0 9, u_lay RX0 TX0 10], w ∈ wsU
  exact List.forall_mem_cons.mpr ⟨wsU_at (w := u_lay RX0 TX0 0) 589 rfl rfl, List.forall_mem_cons.mpr ⟨wsU_at (w := u_lay RX0 TX0 1) 591 rfl rfl, List.forall_mem_cons.mpr ⟨wsU_at (w := u_lay RX0 TX0 2) 593 rfl rfl, List.forall_mem_cons.mpr ⟨wsU_at (w := u_lay RX0 TX0 3) 595 rfl rfl, List.forall_mem_cons.mpr ⟨wsU_at (w := u_lay RX0 TX0 4) 597 rfl rfl, List.forall_mem_cons.mpr ⟨wsU_at (w := u_lay RX0 TX0 5) 599 rfl rfl, List.forall_mem_cons.mpr ⟨wsU_at (w := u_lay RX0 TX0 6) 601 rfl rfl, List.forall_mem_cons.mpr ⟨wsU_at (w := u_lay RX0 TX0 7) 603 rfl rfl, List.forall_mem_cons.mpr ⟨wsU_at (w := u_lay RX0 TX0 8) 605 rfl rfl, List.forall_mem_cons.mpr ⟨wsU_at (w := u_lay RX0 TX0 9) 607 rfl rfl, List.forall_mem_cons.mpr ⟨wsU_at (w := u_lay RX0 TX0 10) 609 rfl rfl, fun _ h => absurd h List.not_mem_nil⟩⟩⟩⟩⟩⟩⟩⟩⟩⟩⟩
set_option maxRecDepth 100000 in
theorem inlX1 : ∀ w ∈ wsX10, w ∈ wsU := by
  show ∀ w ∈ [u_lay RX1 TX1 0, u_lay RX1 TX1 1, u_lay RX1 TX1 2, u_lay RX1 TX1 3, u_lay RX1 TX1 4, u_lay RX1 TX1 5], w ∈ wsU
  exact List.forall_mem_cons.mpr ⟨wsU_at (w := u_lay RX1 TX1 0) 408 rfl rfl, List.forall_mem_cons.mpr ⟨wsU_at (w := u_lay RX1 TX1 1) 410 rfl rfl, List.forall_mem_cons.mpr ⟨wsU_at (w := u_lay RX1 TX1 2) 412 rfl rfl, List.forall_mem_cons.mpr ⟨wsU_at (w := u_lay RX1 TX1 3) 414 rfl rfl, List.forall_mem_cons.mpr ⟨wsU_at (w := u_lay RX1 TX1 4) 416 rfl rfl, List.forall_mem_cons.mpr ⟨wsU_at (w := u_lay RX1 TX1 5) 418 rfl rfl, fun _ h => absurd h List.not_mem_nil⟩⟩⟩⟩⟩⟩
set_option maxRecDepth 100000 in
theorem inlX2 : ∀ w ∈ wsX20, w ∈ wsU := by
  show ∀ w ∈ [u_lay RX2 TX2 0, u_lay RX2 TX2 1, u_lay RX2 TX2 2, u_lay RX2 TX2 3, u_lay RX2 TX2 4, u_lay RX2 TX2 5, u_lay RX2 TX2 6, u_lay RX2 TX2 7, u_lay RX2 TX2 8, u_lay RX2 TX2 9], w ∈ wsU
  exact List.forall_mem_cons.mpr ⟨wsU_at (w := u_lay RX2 TX2 0) 549 rfl rfl, List.forall_mem_cons.mpr ⟨wsU_at (w := u_lay RX2 TX2 1) 551 rfl rfl, List.forall_mem_cons.mpr ⟨wsU_at (w := u_lay RX2 TX2 2) 553 rfl rfl, List.forall_mem_cons.mpr ⟨wsU_at (w := u_lay RX2 TX2 3) 555 rfl rfl, List.forall_mem_cons.mpr ⟨wsU_at (w := u_lay RX2 TX2 4) 557 rfl rfl, List.forall_mem_cons.mpr ⟨wsU_at (w := u_lay RX2 TX2 5) 559 rfl rfl, List.forall_mem_cons.mpr ⟨wsU_at (w := u_lay RX2 TX2 6) 561 rfl rfl, List.forall_mem_cons.mpr ⟨wsU_at (w := u_lay RX2 TX2 7) 563 rfl rfl, List.forall_mem_cons.mpr ⟨wsU_at (w := u_lay RX2 TX2 8) 565 rfl rfl, List.forall_mem_cons.mpr ⟨wsU_at (w := u_lay RX2 TX2 9) 567 rfl rfl, fun _ h => absurd h List.not_mem_nil⟩⟩⟩⟩⟩⟩⟩⟩⟩⟩
set_option maxRecDepth 100000 in
theorem inlX3 : ∀ w ∈ wsX30, w ∈ wsU := by
  show ∀ w ∈ [u_lay RX3 TX3 0, u_lay RX3 TX3 1, u_lay RX3 TX3 2, u_lay RX3 TX3 3, u_lay RX3 TX3 4, u_lay RX3 TX3 5, u_lay RX3 TX3 6, u_lay RX3 TX3 7, u_lay RX3 TX3 8, u_lay RX3 TX3 9, u_lay RX3 TX3 10, u_lay RX3 TX3 11, u_lay RX3 TX3 12, u_lay RX3 TX3 13, u_lay RX3 TX3 14, u_lay RX3 TX3 15, u_lay RX3 TX3 16, u_lay RX3 TX3 17], w ∈ wsU
  exact List.forall_mem_cons.mpr ⟨wsU_at (w := u_lay RX3 TX3 0) 446 rfl rfl, List.forall_mem_cons.mpr ⟨wsU_at (w := u_lay RX3 TX3 1) 448 rfl rfl, List.forall_mem_cons.mpr ⟨wsU_at (w := u_lay RX3 TX3 2) 450 rfl rfl, List.forall_mem_cons.mpr ⟨wsU_at (w := u_lay RX3 TX3 3) 452 rfl rfl, List.forall_mem_cons.mpr ⟨wsU_at (w := u_lay RX3 TX3 4) 454 rfl rfl, List.forall_mem_cons.mpr ⟨wsU_at (w := u_lay RX3 TX3 5) 456 rfl rfl, List.forall_mem_cons.mpr ⟨wsU_at (w := u_lay RX3 TX3 6) 458 rfl rfl, List.forall_mem_cons.mpr ⟨wsU_at (w := u_lay RX3 TX3 7) 460 rfl rfl, List.forall_mem_cons.mpr ⟨wsU_at (w := u_lay RX3 TX3 8) 462 rfl rfl, List.forall_mem_cons.mpr ⟨wsU_at (w := u_lay RX3 TX3 9) 464 rfl rfl, List.forall_mem_cons.mpr ⟨wsU_at (w := u_lay RX3 TX3 10) 466 rfl rfl, List.forall_mem_cons.mpr ⟨wsU_at (w := u_lay RX3 TX3 11) 468 rfl rfl, List.forall_mem_cons.mpr ⟨wsU_at (w := u_lay RX3 TX3 12) 470 rfl rfl, List.forall_mem_cons.mpr ⟨wsU_at (w := u_lay RX3 TX3 13) 472 rfl rfl, List.forall_mem_cons.mpr ⟨wsU_at (w := u_lay RX3 TX3 14) 474 rfl rfl, List.forall_mem_cons.mpr ⟨wsU_at (w := u_lay RX3 TX3 15) 476 rfl rfl, List.forall_mem_cons.mpr ⟨wsU_at (w := u_lay RX3 TX3 16) 478 rfl rfl, List.forall_mem_cons.mpr ⟨wsU_at (w := u_lay RX3 TX3 17) 480 rfl rfl, fun _ h => absurd h List.not_mem_nil⟩⟩⟩⟩⟩⟩⟩⟩⟩⟩⟩⟩⟩⟩⟩⟩⟩⟩
set_option maxRecDepth 100000 in
theorem inlX4 : ∀ w ∈ wsX40, w ∈ wsU := by
  show ∀ w ∈ [u_lay RX4 TX4 0, u_lay RX4 TX4 1, u_lay RX4 TX4 2, u_lay RX4 TX4 3, u_lay RX4 TX4 4, u_lay RX4 TX4 5, u_lay RX4 TX4 6, u_lay RX4 TX4 7, u_lay RX4 TX4 8, u_lay RX4 TX4 9, u_lay RX4 TX4 10], w ∈ wsU
  exact List.forall_mem_cons.mpr ⟨wsU_at (w := u_lay RX4 TX4 0) 252 rfl rfl, List.forall_mem_cons.mpr ⟨wsU_at (w := u_lay RX4 TX4 1) 254 rfl rfl, List.forall_mem_cons.mpr ⟨wsU_at (w := u_lay RX4 TX4 2) 256 rfl rfl, List.forall_mem_cons.mpr ⟨wsU_at (w := u_lay RX4 TX4 3) 258 rfl rfl, List.forall_mem_cons.mpr ⟨wsU_at (w := u_lay RX4 TX4 4) 260 rfl rfl, List.forall_mem_cons.mpr ⟨wsU_at (w := u_lay RX4 TX4 5) 262 rfl rfl, List.forall_mem_cons.mpr ⟨wsU_at (w := u_lay RX4 TX4 6) 264 rfl rfl, List.forall_mem_cons.mpr ⟨wsU_at (w := u_lay RX4 TX4 7) 266 rfl rfl, List.forall_mem_cons.mpr ⟨wsU_at (w := u_lay RX4 TX4 8) 268 rfl rfl, List.forall_mem_cons.mpr ⟨wsU_at (w := u_lay RX4 TX4 9) 270 rfl rfl, List.forall_mem_cons.mpr ⟨wsU_at (w := u_lay RX4 TX4 10) 272 rfl rfl, fun _ h => absurd h List.not_mem_nil⟩⟩⟩⟩⟩⟩⟩⟩⟩⟩⟩
set_option maxRecDepth 100000 in
theorem inlX5 : ∀ w ∈ wsX50, w ∈ wsU := by
  show ∀ w ∈ [u_lay RX5 TX5 0, u_lay RX5 TX5 1, u_lay RX5 TX5 2, u_lay RX5 TX5 3, u_lay RX5 TX5 4, u_lay RX5 TX5 5], w ∈ wsU
  exact List.forall_mem_cons.mpr ⟨wsU_at (w := u_lay RX5 TX5 0) 205 rfl rfl, List.forall_mem_cons.mpr ⟨wsU_at (w := u_lay RX5 TX5 1) 207 rfl rfl, List.forall_mem_cons.mpr ⟨wsU_at (w := u_lay RX5 TX5 2) 209 rfl rfl, List.forall_mem_cons.mpr ⟨wsU_at (w := u_lay RX5 TX5 3) 211 rfl rfl, List.forall_mem_cons.mpr ⟨wsU_at (w := u_lay RX5 TX5 4) 213 rfl rfl, List.forall_mem_cons.mpr ⟨wsU_at (w := u_lay RX5 TX5 5) 215 rfl rfl, fun _ h => absurd h List.not_mem_nil⟩⟩⟩⟩⟩⟩
set_option maxRecDepth 100000 in
theorem inlX6 : ∀ w ∈ wsX60, w ∈ wsU := by
  show ∀ w ∈ [u_lay RX6 TX6 0, u_lay RX6 TX6 1, u_lay RX6 TX6 2, u_lay RX6 TX6 3, u_lay RX6 TX6 4, u_lay RX6 TX6 5, u_lay RX6 TX6 6, u_lay RX6 TX6 7, u_lay RX6 TX6 8], w ∈ wsU
  exact List.forall_mem_cons.mpr ⟨wsU_at (w := u_lay RX6 TX6 0) 507 rfl rfl, List.forall_mem_cons.mpr ⟨wsU_at (w := u_lay RX6 TX6 1) 509 rfl rfl, List.forall_mem_cons.mpr ⟨wsU_at (w := u_lay RX6 TX6 2) 511 rfl rfl, List.forall_mem_cons.mpr ⟨wsU_at (w := u_lay RX6 TX6 3) 513 rfl rfl, List.forall_mem_cons.mpr ⟨wsU_at (w := u_lay RX6 TX6 4) 515 rfl rfl, List.forall_mem_cons.mpr ⟨wsU_at (w := u_lay RX6 TX6 5) 517 rfl rfl, List.forall_mem_cons.mpr ⟨wsU_at (w := u_lay RX6 TX6 6) 519 rfl rfl, List.forall_mem_cons.mpr ⟨wsU_at (w := u_lay RX6 TX6 7) 521 rfl rfl, List.forall_mem_cons.mpr ⟨wsU_at (w := u_lay RX6 TX6 8) 523 rfl rfl, fun _ h => absurd h List.not_mem_nil⟩⟩⟩⟩⟩⟩⟩⟩⟩
set_option maxRecDepth 100000 in
theorem inlX7 : ∀ w ∈ wsX70, w ∈ wsU := by
  show ∀ w ∈ [u_lay RX7 TX7 0, u_lay RX7 TX7 1, u_lay RX7 TX7 2, u_lay RX7 TX7 3, u_lay RX7 TX7 4, u_lay RX7 TX7 5, u_lay RX7 TX7 6, u_lay RX7 TX7 7, u_lay RX7 TX7 8, u_lay RX7 TX7 9, u_lay RX7 TX7 10, u_lay RX7 TX7 11, u_lay RX7 TX7 12, u_lay RX7 TX7 13, u_lay RX7 TX7 14, u_lay RX7 TX7 15], w ∈ wsU
  exact List.forall_mem_cons.mpr ⟨wsU_at (w := u_lay RX7 TX7 0) 321 rfl rfl, List.forall_mem_cons.mpr ⟨wsU_at (w := u_lay RX7 TX7 1) 323 rfl rfl, List.forall_mem_cons.mpr ⟨wsU_at (w := u_lay RX7 TX7 2) 325 rfl rfl, List.forall_mem_cons.mpr ⟨wsU_at (w := u_lay RX7 TX7 3) 327 rfl rfl, List.forall_mem_cons.mpr ⟨wsU_at (w := u_lay RX7 TX7 4) 329 rfl rfl, List.forall_mem_cons.mpr ⟨wsU_at (w := u_lay RX7 TX7 5) 331 rfl rfl, List.forall_mem_cons.mpr ⟨wsU_at (w := u_lay RX7 TX7 6) 333 rfl rfl, List.forall_mem_cons.mpr ⟨wsU_at (w := u_lay RX7 TX7 7) 335 rfl rfl, List.forall_mem_cons.mpr ⟨wsU_at (w := u_lay RX7 TX7 8) 337 rfl rfl, List.forall_mem_cons.mpr ⟨wsU_at (w := u_lay RX7 TX7 9) 339 rfl rfl, List.forall_mem_cons.mpr ⟨wsU_at (w := u_lay RX7 TX7 10) 341 rfl rfl, List.forall_mem_cons.mpr ⟨wsU_at (w := u_lay RX7 TX7 11) 343 rfl rfl, List.forall_mem_cons.mpr ⟨wsU_at (w := u_lay RX7 TX7 12) 345 rfl rfl, List.forall_mem_cons.mpr ⟨wsU_at (w := u_lay RX7 TX7 13) 347 rfl rfl, List.forall_mem_cons.mpr ⟨wsU_at (w := u_lay RX7 TX7 14) 349 rfl rfl, List.forall_mem_cons.mpr ⟨wsU_at (w := u_lay RX7 TX7 15) 351 rfl rfl, fun _ h => absurd h List.not_mem_nil⟩⟩⟩⟩⟩⟩⟩⟩⟩⟩⟩⟩⟩⟩⟩⟩
set_option maxRecDepth 100000 in
theorem inlX8 : ∀ w ∈ wsX80, w ∈ wsU := by
  show ∀ w ∈ [u_lay RX8 TX8 0, u_lay RX8 TX8 1, u_lay RX8 TX8 2, u_lay RX8 TX8 3, u_lay RX8 TX8 4], w ∈ wsU
  exact List.forall_mem_cons.mpr ⟨wsU_at (w := u_lay RX8 TX8 0) 384 rfl rfl, List.forall_mem_cons.mpr ⟨wsU_at (w := u_lay RX8 TX8 1) 386 rfl rfl, List.forall_mem_cons.mpr ⟨wsU_at (w := u_lay RX8 TX8 2) 388 rfl rfl, List.forall_mem_cons.mpr ⟨wsU_at (w := u_lay RX8 TX8 3) 390 rfl rfl, List.forall_mem_cons.mpr ⟨wsU_at (w := u_lay RX8 TX8 4) 392 rfl rfl, fun _ h => absurd h List.not_mem_nil⟩⟩⟩⟩⟩
set_option maxRecDepth 100000 in
theorem inlX9 : ∀ w ∈ wsX90, w ∈ wsU := by
  show ∀ w ∈ [u_lay RX9 TX9 0, u_lay RX9 TX9 1, u_lay RX9 TX9 2], w ∈ wsU
  exact List.forall_mem_cons.mpr ⟨wsU_at (w := u_lay RX9 TX9 0) 179 rfl rfl, List.forall_mem_cons.mpr ⟨wsU_at (w := u_lay RX9 TX9 1) 181 rfl rfl, List.forall_mem_cons.mpr ⟨wsU_at (w := u_lay RX9 TX9 2) 183 rfl rfl, fun _ h => absurd h List.not_mem_nil⟩⟩⟩
set_option maxRecDepth 100000 in
theorem inlX10 : ∀ w ∈ wsX100, w ∈ wsU := by
  show ∀ w ∈ [u_lay RX10 TX10 0, u_lay RX10 TX10 1, u_lay RX10 TX10 2], w ∈ wsU
  exact List.forall_mem_cons.mpr ⟨wsU_at (w := u_lay RX10 TX10 0) 366 rfl rfl, List.forall_mem_cons.mpr ⟨wsU_at (w := u_lay RX10 TX10 1) 368 rfl rfl, List.forall_mem_cons.mpr ⟨wsU_at (w := u_lay RX10 TX10 2) 370 rfl rfl, fun _ h => absurd h List.not_mem_nil⟩⟩⟩
set_option maxRecDepth 100000 in
theorem inlX11 : ∀ w ∈ wsX110, w ∈ wsU := by
  show ∀ w ∈ [u_lay RX11 TX11 0, u_lay RX11 TX11 1, u_lay RX11 TX11 2, u_lay RX11 TX11 3, u_lay RX11 TX11 4, u_lay RX11 TX11 5, u_lay RX11 TX11 6, u_lay RX11 TX11 7, u_lay RX11 TX11 8, u_lay RX11 TX11 9, u_lay RX11 TX11 10, u_lay RX11 TX11 11, u_lay RX11 TX11 12, u_lay RX11 TX11 13, u_lay RX11 TX11 14, u_lay RX11 TX11 15, u_lay RX11 TX11 16, u_lay RX11 TX11 17, u_lay RX11 TX11 18], w ∈ wsU
  exact List.forall_mem_cons.mpr ⟨wsU_at (w := u_lay RX11 TX11 0) 631 rfl rfl, List.forall_mem_cons.mpr ⟨wsU_at (w := u_lay RX11 TX11 1) 633 rfl rfl, List.forall_mem_cons.mpr ⟨wsU_at (w := u_lay RX11 TX11 2) 635 rfl rfl, List.forall_mem_cons.mpr ⟨wsU_at (w := u_lay RX11 TX11 3) 637 rfl rfl, List.forall_mem_cons.mpr ⟨wsU_at (w := u_lay RX11 TX11 4) 639 rfl rfl, List.forall_mem_cons.mpr ⟨wsU_at (w := u_lay RX11 TX11 5) 641 rfl rfl, List.forall_mem_cons.mpr ⟨wsU_at (w := u_lay RX11 TX11 6) 643 rfl rfl, List.forall_mem_cons.mpr ⟨wsU_at (w := u_lay RX11 TX11 7) 645 rfl rfl, List.forall_mem_cons.mpr ⟨wsU_at (w := u_lay RX11 TX11 8) 647 rfl rfl, List.forall_mem_cons.mpr ⟨wsU_at (w := u_lay RX11 TX11 9) 649 rfl rfl, List.forall_mem_cons.mpr ⟨wsU_at (w := u_lay RX11 TX11 10) 651 rfl rfl, List.forall_mem_cons.mpr ⟨wsU_at (w := u_lay RX11 TX11 11) 653 rfl rfl, List.forall_mem_cons.mpr ⟨wsU_at (w := u_lay RX11 TX11 12) 655 rfl rfl, List.forall_mem_cons.mpr ⟨wsU_at (w := u_lay RX11 TX11 13) 657 rfl rfl, List.forall_mem_cons.mpr ⟨wsU_at (w := u_lay RX11 TX11 14) 659 rfl rfl, List.forall_mem_cons.mpr ⟨wsU_at (w := u_lay RX11 TX11 15) 661 rfl rfl, List.forall_mem_cons.mpr ⟨wsU_at (w := u_lay RX11 TX11 16) 663 rfl rfl, List.forall_mem_cons.mpr ⟨wsU_at (w := u_lay RX11 TX11 17) 665 rfl rfl, List.forall_mem_cons.mpr ⟨wsU_at (w := u_lay RX11 TX11 18) 667 rfl rfl, fun _ h => absurd h List.not_mem_nil⟩⟩⟩⟩⟩⟩⟩⟩⟩⟩⟩⟩⟩⟩⟩⟩⟩⟩⟩
set_option maxRecDepth 100000 in
theorem inlX12 : ∀ w ∈ wsX120, w ∈ wsU := by
  show ∀ w ∈ [u_lay RX12 TX12 0, u_lay RX12 TX12 1, u_lay RX12 TX12 2, u_lay RX12 TX12 3, u_lay RX12 TX12 4, u_lay RX12 TX12 5, u_lay RX12 TX12 6, u_lay RX12 TX12 7, u_lay RX12 TX12 8, u_lay RX12 TX12 9, u_lay RX12 TX12 10, u_lay RX12 TX12 11, u_lay RX12 TX12 12, u_lay RX12 TX12 13, u_lay RX12 TX12 14, u_lay RX12 TX12 15, u_lay RX12 TX12 16, u_lay RX12 TX12 17, u_lay RX12 TX12 18, u_lay RX12 TX12 19, u_lay RX12 TX12 20, u_lay RX12 TX12 21, u_lay RX12 TX12 22, u_lay RX12 TX12 23, u_lay RX12 TX12 24, u_lay RX12 TX12 25, u_lay RX12 TX12 26, u_lay RX12 TX12 27, u_lay RX12 TX12 28, u_lay RX12 TX12 29, u_lay RX12 TX12 30, u_lay RX12 TX12 31, u_lay RX12 TX12 32, u_lay RX12 TX12 33, u_lay RX12 TX12 34, u_lay RX12 TX12 35, u_lay RX12 TX12 36, u_lay RX12 TX12 37, u_lay RX12 TX12 38, u_lay RX12 TX12 39, u_lay RX12 TX12 40, u_lay RX12 TX12 41, u_lay RX12 TX12 42, u_lay RX12 TX12 43, u_lay RX12 TX12 44, u_lay RX12 TX12 45, u_lay RX12 TX12 46, u_lay RX12 TX12 47, u_lay RX12 TX12 48, u_lay RX12 TX12 49, u_lay RX12 TX12 50, u_lay RX12 TX12 51, u_lay RX12 TX12 52, u_lay RX12 TX12 53, u_lay RX12 TX12 54, u_lay RX12 TX12 55], w ∈ wsU
  exact List.forall_mem_cons.mpr ⟨wsU_at (w := u_lay RX12 TX12 0) 1504 rfl rfl, List.forall_mem_cons.mpr ⟨wsU_at (w := u_lay RX12 TX12 1) 1506 rfl rfl, List.forall_mem_cons.mpr ⟨wsU_at (w := u_lay RX12 TX12 2) 1508 rfl rfl, List.forall_mem_cons.mpr ⟨wsU_at (w := u_lay RX12 TX12 3) 1510 rfl rfl, List.forall_mem_cons.mpr ⟨wsU_at (w := u_lay RX12 TX12 4) 1512 rfl rfl, List.forall_mem_cons.mpr ⟨wsU_at (w := u_lay RX12 TX12 5) 1514 rfl rfl, List.forall_mem_cons.mpr ⟨wsU_at (w := u_lay RX12 TX12 6) 1516 rfl rfl, List.forall_mem_cons.mpr ⟨wsU_at (w := u_lay RX12 TX12 7) 1518 rfl rfl, List.forall_mem_cons.mpr ⟨wsU_at (w := u_lay RX12 TX12 8) 1520 rfl rfl, List.forall_mem_cons.mpr ⟨wsU_at (w := u_lay RX12 TX12 9) 1522 rfl rfl, List.forall_mem_cons.mpr ⟨wsU_at (w := u_lay RX12 TX12 10) 1524 rfl rfl, List.forall_mem_cons.mpr ⟨wsU_at (w := u_lay RX12 TX12 11) 1526 rfl rfl, List.forall_mem_cons.mpr ⟨wsU_at (w := u_lay RX12 TX12 12) 1528 rfl rfl, List.forall_mem_cons.mpr ⟨wsU_at (w := u_lay RX12 TX12 13) 1530 rfl rfl, List.forall_mem_cons.mpr ⟨wsU_at (w := u_lay RX12 TX12 14) 1532 rfl rfl, List.forall_mem_cons.mpr ⟨wsU_at (w := u_lay RX12 TX12 15) 1534 rfl rfl, List.forall_mem_cons.mpr ⟨wsU_at (w := u_lay RX12 TX12 16) 1536 rfl rfl, List.forall_mem_cons.mpr ⟨wsU_at (w := u_lay RX12 TX12 17) 1538 rfl rfl, List.forall_mem_cons.mpr ⟨wsU_at (w := u_lay RX12 TX12 18) 1540 rfl rfl, List.forall_mem_cons.mpr ⟨wsU_at (w := u_lay RX12 TX12 19) 1542 rfl rfl, List.forall_mem_cons.mpr ⟨wsU_at (w := u_lay RX12 TX12 20) 1544 rfl rfl, List.forall_mem_cons.mpr ⟨wsU_at (w := u_lay RX12 TX12 21) 1546 rfl rfl, List.forall_mem_cons.mpr ⟨wsU_at (w := u_lay RX12 TX12 22) 1548 rfl rfl, List.forall_mem_cons.mpr ⟨wsU_at (w := u_lay RX12 TX12 23) 1550 rfl rfl, List.forall_mem_cons.mpr ⟨wsU_at (w := u_lay RX12 TX12 24) 1552 rfl rfl, List.forall_mem_cons.mpr ⟨wsU_at (w := u_lay RX12 TX12 25) 1554 rfl rfl, List.forall_mem_cons.mpr ⟨wsU_at (w := u_lay RX12 TX12 26) 1556 rfl rfl, List.forall_mem_cons.mpr ⟨wsU_at (w := u_lay RX12 TX12 27) 1558 rfl rfl, List.forall_mem_cons.mpr ⟨wsU_at (w := u_lay RX12 TX12 28) 1560 rfl rfl, List.forall_mem_cons.mpr ⟨wsU_at (w := u_lay RX12 TX12 29) 1562 rfl rfl, List.forall_mem_cons.mpr ⟨wsU_at (w := u_lay RX12 TX12 30) 1564 rfl rfl, List.forall_mem_cons.mpr ⟨wsU_at (w := u_lay RX12 TX12 31) 1566 rfl rfl, List.forall_mem_cons.mpr ⟨wsU_at (w := u_lay RX12 TX12 32) 1568 rfl rfl, List.forall_mem_cons.mpr ⟨wsU_at (w := u_lay RX12 TX12 33) 1570 rfl rfl, List.forall_mem_cons.mpr ⟨wsU_at (w := u_lay RX12 TX12 34) 1572 rfl rfl, List.forall_mem_cons.mpr ⟨wsU_at (w := u_lay RX12 TX12 35) 1574 rfl rfl, List.forall_mem_cons.mpr ⟨wsU_at (w := u_lay RX12 TX12 36) 1576 rfl rfl, List.forall_mem_cons.mpr ⟨wsU_at (w := u_lay RX12 TX12 37) 1578 rfl rfl, List.forall_mem_cons.mpr ⟨wsU_at (w := u_lay RX12 TX12 38) 1580 rfl rfl, List.forall_mem_cons.mpr ⟨wsU_at (w := u_lay RX12 TX12 39) 1582 rfl rfl, List.forall_mem_cons.mpr ⟨wsU_at (w := u_lay RX12 TX12 40) 1584 rfl rfl, List.forall_mem_cons.mpr ⟨wsU_at (w := u_lay RX12 TX12 41) 1586 rfl rfl, List.forall_mem_cons.mpr ⟨wsU_at (w := u_lay RX12 TX12 42) 1588 rfl rfl, List.forall_mem_cons.mpr ⟨wsU_at (w := u_lay RX12 TX12 43) 1590 rfl rfl, List.forall_mem_cons.mpr ⟨wsU_at (w := u_lay RX12 TX12 44) 1592 rfl rfl, List.forall_mem_cons.mpr ⟨wsU_at (w := u_lay RX12 TX12 45) 1594 rfl rfl, List.forall_mem_cons.mpr ⟨wsU_at (w := u_lay RX12 TX12 46) 1596 rfl rfl, List.forall_mem_cons.mpr ⟨wsU_at (w := u_lay RX12 TX12 47) 1598 rfl rfl, List.forall_mem_cons.mpr ⟨wsU_at (w := u_lay RX12 TX12 48) 1600 rfl rfl, List.forall_mem_cons.mpr ⟨wsU_at (w := u_lay RX12 TX12 49) 1602 rfl rfl, List.forall_mem_cons.mpr ⟨wsU_at (w := u_lay RX12 TX12 50) 1604 rfl rfl, List.forall_mem_cons.mpr ⟨wsU_at (w := u_lay RX12 TX12 51) 1606 rfl rfl, List.forall_mem_cons.mpr ⟨wsU_at (w := u_lay RX12 TX12 52) 1608 rfl rfl, List.forall_mem_cons.mpr ⟨wsU_at (w := u_lay RX12 TX12 53) 1610 rfl rfl, List.forall_mem_cons.mpr ⟨wsU_at (w := u_lay RX12 TX12 54) 1612 rfl rfl, List.forall_mem_cons.mpr ⟨wsU_at (w := u_lay RX12 TX12 55) 1614 rfl rfl, fun _ h => absurd h List.not_mem_nil⟩⟩⟩⟩⟩⟩⟩⟩⟩⟩⟩⟩⟩⟩⟩⟩⟩⟩⟩⟩⟩⟩⟩⟩⟩⟩⟩⟩⟩⟩⟩⟩⟩⟩⟩⟩⟩⟩⟩⟩⟩⟩⟩⟩⟩⟩⟩⟩⟩⟩⟩⟩⟩⟩⟩⟩
theorem dvX3 : ∀ j, j < 18 → defaultValue (tyX3 j) = vp_V [.null, .null, .null, .null, .null, .int 0, .int 0, .int 0, .int 0, .int 0, .int 0, .int 0, .null, .null, .null, .int 0, .null, .null] j := fun j hj => by
  rcases (show j = 0 ∨ j = 1 ∨ j = 2 ∨ j = 3 ∨ j = 4 ∨ j = 5 ∨ j = 6 ∨ j = 7 ∨ j = 8 ∨ j = 9 ∨ j = 10 ∨ j = 11 ∨ j = 12 ∨ j = 13 ∨ j = 14 ∨ j = 15 ∨ j = 16 ∨ j = 17 by omega) with rfl | rfl | rfl | rfl | rfl | rfl | rfl | rfl | rfl | rfl | rfl | rfl | rfl | rfl | rfl | rfl | rfl | rfl <;> rfl
theorem dvX7 : ∀ j, j < 16 → defaultValue (tyX7 j) = vp_V [.null, .int 0, .null, .null, .null, .null, .int 0, .null, .null, .null, .null, .null, .int 0, .null, .null, .null] j := fun j hj => by
  rcases (show j = 0 ∨ j = 1 ∨ j = 2 ∨ j = 3 ∨ j = 4 ∨ j = 5 ∨ j = 6 ∨ j = 7 ∨ j = 8 ∨ j = 9 ∨ j = 10 ∨ j = 11 ∨ j = 12 ∨ j = 13 ∨ j = 14 ∨ j = 15 by omega) with rfl | rfl | rfl | rfl | rfl | rfl | rfl | rfl | rfl | rfl | rfl | rfl | rfl | rfl | rfl | rfl <;> rfl
theorem dvX9 : ∀ j, j < 3 → defaultValue (tyX9 j) = vp_V [.null, .null, .int 0] j := fun j hj => by
  rcases (show j = 0 ∨ j = 1 ∨ j = 2 by omega) with rfl | rfl | rfl <;> rfl
theorem dvX4 : ∀ j, j < 11 → defaultValue (tyX4 j) = vp_V [.int 0, .int 0, .int 0, .int 0, .null, .null, .null, .null, .int 0, .int 0, .int 0] j := fun j hj => by
  rcases (show j = 0 ∨ j = 1 ∨ j = 2 ∨ j = 3 ∨ j = 4 ∨ j = 5 ∨ j = 6 ∨ j = 7 ∨ j = 8 ∨ j = 9 ∨ j = 10 by omega) with rfl | rfl | rfl | rfl | rfl | rfl | rfl | rfl | rfl | rfl | rfl <;> rfl
theorem dvX5 : ∀ j, j < 6 → defaultValue (tyX5 j) = vp_V [.null, .null, .null, .int 0, .int 0, .int 0] j := fun j hj => by
  rcases (show j = 0 ∨ j = 1 ∨ j = 2 ∨ j = 3 ∨ j = 4 ∨ j = 5 by omega) with rfl | rfl | rfl | rfl | rfl | rfl <;> rfl
theorem dvX10 : ∀ j, j < 3 → defaultValue (tyX10 j) = vp_V [.null, .int 0, .int 0] j := fun j hj => by
  rcases (show j = 0 ∨ j = 1 ∨ j = 2 by omega) with rfl | rfl | rfl <;> rfl
theorem dvX8 : ∀ j, j < 5 → defaultValue (tyX8 j) = vp_V [.null, .null, .null, .null, .null] j := fun j hj => by
  rcases (show j = 0 ∨ j = 1 ∨ j = 2 ∨ j = 3 ∨ j = 4 by omega) with rfl | rfl | rfl | rfl | rfl <;> rfl
theorem dvX1 : ∀ j, j < 6 → defaultValue (tyX1 j) = vp_V [.null, .null, .null, .int 0, .int 0, .int 0] j := fun j hj => by
  rcases (show j = 0 ∨ j = 1 ∨ j = 2 ∨ j = 3 ∨ j = 4 ∨ j = 5 by omega) with rfl | rfl | rfl | rfl | rfl | rfl <;> rfl
theorem dvX6 : ∀ j, j < 9 → defaultValue (tyX6 j) = vp_V [.int 0, .int 0, .null, .null, .null, .int 0, .null, .null, .null] j := fun j hj => by
  rcases (show j = 0 ∨ j = 1 ∨ j = 2 ∨ j = 3 ∨ j = 4 ∨ j = 5 ∨ j = 6 ∨ j = 7 ∨ j = 8 by omega) with rfl | rfl | rfl | rfl | rfl | rfl | rfl | rfl | rfl <;> rfl
theorem dvX2 : ∀ j, j < 10 → defaultValue (tyX2 j) = vp_V [.null, .int 0, .int 0, .null, .int 0, .int 0, .int 0, .int 0, .int 0, .int 0] j := fun j hj => by
  rcases (show j = 0 ∨ j = 1 ∨ j = 2 ∨ j = 3 ∨ j = 4 ∨ j = 5 ∨ j = 6 ∨ j = 7 ∨ j = 8 ∨ j = 9 by omega) with rfl | rfl | rfl | rfl | rfl | rfl | rfl | rfl | rfl | rfl <;> rfl
theorem dvX0 : ∀ j, j < 11 → defaultValue (tyX0 j) = vp_V [.null, .null, .null, .int 0, .null, .null, .null, .int 0, .null, .int 0, .int 0] j := fun j hj => by
  rcases (show j = 0 ∨ j = 1 ∨ j = 2 ∨ j = 3 ∨ j = 4 ∨ j = 5 ∨ j = 6 ∨ j = 7 ∨ j = 8 ∨ j = 9 ∨ j = 10 by omega) with rfl | rfl | rfl | rfl | rfl | rfl | rfl | rfl | rfl | rfl | rfl <;> rfl

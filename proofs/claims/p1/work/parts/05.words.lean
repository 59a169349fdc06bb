set_option maxRecDepth 100000 in
theorem wd_0 : Cond.classLink RL 7 RX11 ∈ wsU := wsU_at 144 rfl rfl
set_option maxRecDepth 100000 in
theorem wd_1 : Cond.instantiable RX11 19 ∈ wsU := wsU_at 145 rfl rfl
set_option maxRecDepth 100000 in
theorem wd_2 : Cond.initialized RX11 ∈ wsU := wsU_at 123 rfl rfl
set_option maxRecDepth 100000 in
theorem wd_3 : Cond.classLink RL 10 RX12 ∈ wsU := wsU_at 1439 rfl rfl
set_option maxRecDepth 100000 in
theorem wd_4 : Cond.instantiable RX12 56 ∈ wsU := wsU_at 1440 rfl rfl
set_option maxRecDepth 100000 in
theorem wd_5 : Cond.initialized RX12 ∈ wsU := wsU_at 135 rfl rfl
set_option maxRecDepth 100000 in
theorem wd_6 : Cond.methodLink RL 9 yX11_init ∈ wsU := wsU_at 146 rfl rfl
set_option maxRecDepth 100000 in
theorem wd_7 : Cond.instanceMethod yX11_init ∈ wsU := wsU_at 147 rfl rfl
set_option maxRecDepth 100000 in
theorem wd_8 : Cond.code yX11_init cX11_init 1 none ∈ wsU := wsU_at 148 rfl rfl
set_option maxRecDepth 100000 in
theorem wd_9 : Cond.methodLink RX11 3 objectInit ∈ wsU := wsU_at 149 rfl rfl
set_option maxRecDepth 100000 in
theorem wd_10 : Cond.instanceMethod objectInit ∈ wsU := wsU_at 150 rfl rfl
set_option maxRecDepth 100000 in
theorem wd_11 : Cond.code objectInit ⟨#[0xb1]⟩ 1 none ∈ wsU := wsU_at 151 rfl rfl
set_option maxRecDepth 100000 in
theorem wd_12 : Cond.arrayClass .int ∈ wsU := wsU_at 186 rfl rfl
set_option maxRecDepth 100000 in
theorem wd_13 : Cond.fieldLink RX11 9 "SaidShallow" "tape" "[I" ∈ wsU := wsU_at 612 rfl rfl
set_option maxRecDepth 100000 in
theorem wd_14 : Cond.classLink RX11 13 RX3 ∈ wsU := wsU_at 152 rfl rfl
set_option maxRecDepth 100000 in
theorem wd_15 : Cond.instantiable RX3 18 ∈ wsU := wsU_at 153 rfl rfl
set_option maxRecDepth 100000 in
theorem wd_16 : Cond.initialized RX3 ∈ wsU := wsU_at 124 rfl rfl
set_option maxRecDepth 100000 in
theorem wd_17 : Cond.fieldLink RX11 16 "SaidShallow" "rows" "LSaidShallow$Rows;" ∈ wsU := wsU_at 614 rfl rfl
set_option maxRecDepth 100000 in
theorem wd_18 : Cond.fieldLink RX11 20 "SaidShallow$Rows" "tongue" "LSaidShallow$Tongue;" ∈ wsU := wsU_at 423 rfl rfl
set_option maxRecDepth 100000 in
theorem wd_19 : Cond.fieldLink RX11 24 "SaidShallow" "tongue" "LSaidShallow$Tongue;" ∈ wsU := wsU_at 615 rfl rfl
set_option maxRecDepth 100000 in
theorem wd_20 : Cond.fieldLink RX11 25 "SaidShallow$Rows" "words" "LSaidShallow$Words;" ∈ wsU := wsU_at 426 rfl rfl
set_option maxRecDepth 100000 in
theorem wd_21 : Cond.fieldLink RX11 29 "SaidShallow" "words" "LSaidShallow$Words;" ∈ wsU := wsU_at 616 rfl rfl
set_option maxRecDepth 100000 in
theorem wd_22 : Cond.classLink RX11 30 RX6 ∈ wsU := wsU_at 483 rfl rfl
set_option maxRecDepth 100000 in
theorem wd_23 : Cond.instantiable RX6 9 ∈ wsU := wsU_at 484 rfl rfl
set_option maxRecDepth 100000 in
theorem wd_24 : Cond.initialized RX6 ∈ wsU := wsU_at 132 rfl rfl
set_option maxRecDepth 100000 in
theorem wd_25 : Cond.fieldLink RX11 33 "SaidShallow" "standing" "LSaidShallow$Standing;" ∈ wsU := wsU_at 617 rfl rfl
set_option maxRecDepth 100000 in
theorem wd_26 : Cond.classLink RX11 37 RX7 ∈ wsU := wsU_at 526 rfl rfl
set_option maxRecDepth 100000 in
theorem wd_27 : Cond.instantiable RX7 16 ∈ wsU := wsU_at 159 rfl rfl
set_option maxRecDepth 100000 in
theorem wd_28 : Cond.initialized RX7 ∈ wsU := wsU_at 125 rfl rfl
set_option maxRecDepth 100000 in
theorem wd_29 : Cond.fieldLink RX11 40 "SaidShallow" "imageTongue" "LSaidShallow$Tongue;" ∈ wsU := wsU_at 618 rfl rfl
set_option maxRecDepth 100000 in
theorem wd_30 : Cond.fieldLink RX11 43 "SaidShallow" "imageStanding" "LSaidShallow$Standing;" ∈ wsU := wsU_at 619 rfl rfl
set_option maxRecDepth 100000 in
theorem wd_31 : Cond.classLink RX11 46 RX2 ∈ wsU := wsU_at 528 rfl rfl
set_option maxRecDepth 100000 in
theorem wd_32 : Cond.instantiable RX2 10 ∈ wsU := wsU_at 529 rfl rfl
set_option maxRecDepth 100000 in
theorem wd_33 : Cond.initialized RX2 ∈ wsU := wsU_at 133 rfl rfl
set_option maxRecDepth 100000 in
theorem wd_34 : Cond.fieldLink RX11 49 "SaidShallow" "reader" "LSaidShallow$Reader;" ∈ wsU := wsU_at 621 rfl rfl
set_option maxRecDepth 100000 in
theorem wd_35 : Cond.classLink RX11 53 RX0 ∈ wsU := wsU_at 570 rfl rfl
set_option maxRecDepth 100000 in
theorem wd_36 : Cond.instantiable RX0 11 ∈ wsU := wsU_at 571 rfl rfl
set_option maxRecDepth 100000 in
theorem wd_37 : Cond.initialized RX0 ∈ wsU := wsU_at 134 rfl rfl
set_option maxRecDepth 100000 in
theorem wd_38 : Cond.fieldLink RX11 56 "SaidShallow" "bestOrder" "LSaidShallow$BestOrder;" ∈ wsU := wsU_at 622 rfl rfl
set_option maxRecDepth 100000 in
theorem wd_39 : Cond.fieldLink RX11 60 "SaidShallow" "couples" "[I" ∈ wsU := wsU_at 623 rfl rfl
set_option maxRecDepth 100000 in
theorem wd_40 : Cond.fieldLink RX11 63 "SaidShallow" "brokenPlace" "I" ∈ wsU := wsU_at 625 rfl rfl
set_option maxRecDepth 100000 in
theorem wd_41 : Cond.fieldLink RX11 67 "SaidShallow" "agedWord" "[I" ∈ wsU := wsU_at 626 rfl rfl
set_option maxRecDepth 100000 in
theorem wd_42 : Cond.fieldLink RX11 70 "SaidShallow" "told" "[I" ∈ wsU := wsU_at 628 rfl rfl
set_option maxRecDepth 100000 in
theorem wd_43 : Cond.fieldLink RX11 73 "SaidShallow" "joined" "[I" ∈ wsU := wsU_at 629 rfl rfl
set_option maxRecDepth 100000 in
theorem wd_44 : Cond.instanceMethod yX3_init ∈ wsU := wsU_at 155 rfl rfl
set_option maxRecDepth 100000 in
theorem wd_45 : Cond.code yX3_init cX3_init 1 none ∈ wsU := wsU_at 156 rfl rfl
set_option maxRecDepth 100000 in
theorem wd_46 : Cond.methodLink RX3 7 objectInit ∈ wsU := wsU_at 157 rfl rfl
set_option maxRecDepth 100000 in
theorem wd_47 : Cond.classLink RX3 1 RX7 ∈ wsU := wsU_at 158 rfl rfl
set_option maxRecDepth 100000 in
theorem wd_48 : Cond.fieldLink RX3 14 "SaidShallow$Rows" "tongue" "LSaidShallow$Tongue;" ∈ wsU := wsU_at 422 rfl rfl
set_option maxRecDepth 100000 in
theorem wd_49 : Cond.classLink RX3 18 RX10 ∈ wsU := wsU_at 354 rfl rfl
set_option maxRecDepth 100000 in
theorem wd_50 : Cond.instantiable RX10 3 ∈ wsU := wsU_at 355 rfl rfl
set_option maxRecDepth 100000 in
theorem wd_51 : Cond.initialized RX10 ∈ wsU := wsU_at 129 rfl rfl
set_option maxRecDepth 100000 in
theorem wd_52 : Cond.fieldLink RX3 21 "SaidShallow$Rows" "words" "LSaidShallow$Words;" ∈ wsU := wsU_at 425 rfl rfl
set_option maxRecDepth 100000 in
theorem wd_53 : Cond.classLink RX3 25 RX8 ∈ wsU := wsU_at 373 rfl rfl
set_option maxRecDepth 100000 in
theorem wd_54 : Cond.instantiable RX8 5 ∈ wsU := wsU_at 374 rfl rfl
set_option maxRecDepth 100000 in
theorem wd_55 : Cond.initialized RX8 ∈ wsU := wsU_at 130 rfl rfl
set_option maxRecDepth 100000 in
theorem wd_56 : Cond.fieldLink RX3 28 "SaidShallow$Rows" "track" "LSaidShallow$Track;" ∈ wsU := wsU_at 427 rfl rfl
set_option maxRecDepth 100000 in
theorem wd_57 : Cond.classLink RX3 32 RX1 ∈ wsU := wsU_at 395 rfl rfl
set_option maxRecDepth 100000 in
theorem wd_58 : Cond.instantiable RX1 6 ∈ wsU := wsU_at 396 rfl rfl
set_option maxRecDepth 100000 in
theorem wd_59 : Cond.initialized RX1 ∈ wsU := wsU_at 131 rfl rfl
set_option maxRecDepth 100000 in
theorem wd_60 : Cond.fieldLink RX3 35 "SaidShallow$Rows" "deadEnds" "LSaidShallow$DeadEnds;" ∈ wsU := wsU_at 428 rfl rfl
set_option maxRecDepth 100000 in
theorem wd_61 : Cond.fieldLink RX3 39 "SaidShallow$Rows" "given" "[I" ∈ wsU := wsU_at 429 rfl rfl
set_option maxRecDepth 100000 in
theorem wd_62 : Cond.fieldLink RX3 43 "SaidShallow$Rows" "wanted" "I" ∈ wsU := wsU_at 436 rfl rfl
set_option maxRecDepth 100000 in
theorem wd_63 : Cond.fieldLink RX3 47 "SaidShallow$Rows" "row" "[I" ∈ wsU := wsU_at 437 rfl rfl
set_option maxRecDepth 100000 in
theorem wd_64 : Cond.fieldLink RX3 50 "SaidShallow$Rows" "codes" "[I" ∈ wsU := wsU_at 438 rfl rfl
set_option maxRecDepth 100000 in
theorem wd_65 : Cond.fieldLink RX3 53 "SaidShallow$Rows" "masks" "[I" ∈ wsU := wsU_at 440 rfl rfl
set_option maxRecDepth 100000 in
theorem wd_66 : Cond.fieldLink RX3 56 "SaidShallow$Rows" "marks" "[I" ∈ wsU := wsU_at 444 rfl rfl
set_option maxRecDepth 100000 in
theorem wd_67 : Cond.fieldLink RX3 59 "SaidShallow$Rows" "needed" "[I" ∈ wsU := wsU_at 445 rfl rfl
set_option maxRecDepth 100000 in
theorem wd_68 : Cond.methodLink RX3 13 yX7_init ∈ wsU := wsU_at 160 rfl rfl
set_option maxRecDepth 100000 in
theorem wd_69 : Cond.instanceMethod yX7_init ∈ wsU := wsU_at 161 rfl rfl
set_option maxRecDepth 100000 in
theorem wd_70 : Cond.code yX7_init cX7_init 2 none ∈ wsU := wsU_at 162 rfl rfl
set_option maxRecDepth 100000 in
theorem wd_71 : Cond.methodLink RX7 3 objectInit ∈ wsU := wsU_at 163 rfl rfl
set_option maxRecDepth 100000 in
theorem wd_72 : Cond.fieldLink RX7 9 "SaidShallow$Tongue" "signAt" "[I" ∈ wsU := wsU_at 275 rfl rfl
set_option maxRecDepth 100000 in
theorem wd_73 : Cond.fieldLink RX7 15 "SaidShallow$Tongue" "classes" "[I" ∈ wsU := wsU_at 281 rfl rfl
set_option maxRecDepth 100000 in
theorem wd_74 : Cond.fieldLink RX7 18 "SaidShallow$Tongue" "pairAt" "[I" ∈ wsU := wsU_at 284 rfl rfl
set_option maxRecDepth 100000 in
theorem wd_75 : Cond.fieldLink RX7 21 "SaidShallow$Tongue" "deepOf" "[I" ∈ wsU := wsU_at 285 rfl rfl
set_option maxRecDepth 100000 in
theorem wd_76 : Cond.fieldLink RX7 24 "SaidShallow$Tongue" "saidOf" "[I" ∈ wsU := wsU_at 289 rfl rfl
set_option maxRecDepth 100000 in
theorem wd_77 : Cond.fieldLink RX7 27 "SaidShallow$Tongue" "extrasOfDeep" "[I" ∈ wsU := wsU_at 297 rfl rfl
set_option maxRecDepth 100000 in
theorem wd_78 : Cond.fieldLink RX7 30 "SaidShallow$Tongue" "extrasOfSaid" "[I" ∈ wsU := wsU_at 298 rfl rfl
set_option maxRecDepth 100000 in
theorem wd_79 : Cond.fieldLink RX7 33 "SaidShallow$Tongue" "pairsOfDeep" "[I" ∈ wsU := wsU_at 299 rfl rfl
set_option maxRecDepth 100000 in
theorem wd_80 : Cond.fieldLink RX7 36 "SaidShallow$Tongue" "pairsOfSaid" "[I" ∈ wsU := wsU_at 301 rfl rfl
set_option maxRecDepth 100000 in
theorem wd_81 : Cond.classLink RX7 39 RX4 ∈ wsU := wsU_at 164 rfl rfl
set_option maxRecDepth 100000 in
theorem wd_82 : Cond.fieldLink RX7 41 "SaidShallow$Tongue" "rules" "[LSaidShallow$Rule;" ∈ wsU := wsU_at 303 rfl rfl
set_option maxRecDepth 100000 in
theorem wd_83 : Cond.classLink RX7 45 RX9 ∈ wsU := wsU_at 166 rfl rfl
set_option maxRecDepth 100000 in
theorem wd_84 : Cond.instantiable RX9 3 ∈ wsU := wsU_at 167 rfl rfl
set_option maxRecDepth 100000 in
theorem wd_85 : Cond.initialized RX9 ∈ wsU := wsU_at 126 rfl rfl
set_option maxRecDepth 100000 in
theorem wd_86 : Cond.fieldLink RX7 50 "SaidShallow$Tongue" "stems" "LSaidShallow$WordList;" ∈ wsU := wsU_at 314 rfl rfl
set_option maxRecDepth 100000 in
theorem wd_87 : Cond.fieldLink RX7 54 "SaidShallow$Tongue" "ends" "LSaidShallow$WordList;" ∈ wsU := wsU_at 317 rfl rfl
set_option maxRecDepth 100000 in
theorem wd_88 : Cond.fieldLink RX7 57 "SaidShallow$Tongue" "row" "[I" ∈ wsU := wsU_at 320 rfl rfl
set_option maxRecDepth 100000 in
theorem wd_89 : Cond.instantiable RX4 11 ∈ wsU := wsU_at 187 rfl rfl
set_option maxRecDepth 100000 in
theorem wd_90 : Cond.initialized RX4 ∈ wsU := wsU_at 127 rfl rfl
set_option maxRecDepth 100000 in
theorem wd_91 : Cond.methodLink RX7 47 yX9_init ∈ wsU := wsU_at 168 rfl rfl
set_option maxRecDepth 100000 in
theorem wd_92 : Cond.instanceMethod yX9_init ∈ wsU := wsU_at 169 rfl rfl
set_option maxRecDepth 100000 in
theorem wd_93 : Cond.code yX9_init cX9_init 2 none ∈ wsU := wsU_at 170 rfl rfl
set_option maxRecDepth 100000 in
theorem wd_94 : Cond.methodLink RX9 3 objectInit ∈ wsU := wsU_at 171 rfl rfl
set_option maxRecDepth 100000 in
theorem wd_95 : Cond.fieldLink RX9 9 "SaidShallow$WordList" "signs" "[I" ∈ wsU := wsU_at 172 rfl rfl
set_option maxRecDepth 100000 in
theorem wd_96 : Cond.fieldLink RX9 15 "SaidShallow$WordList" "lengths" "[I" ∈ wsU := wsU_at 173 rfl rfl
set_option maxRecDepth 100000 in
theorem wd_97 : Cond.instanceMethod yX4_init ∈ wsU := wsU_at 189 rfl rfl
set_option maxRecDepth 100000 in
theorem wd_98 : Cond.code yX4_init cX4_init 1 none ∈ wsU := wsU_at 190 rfl rfl
set_option maxRecDepth 100000 in
theorem wd_99 : Cond.methodLink RX4 3 objectInit ∈ wsU := wsU_at 191 rfl rfl
set_option maxRecDepth 100000 in
theorem wd_100 : Cond.classLink RX4 9 RX5 ∈ wsU := wsU_at 192 rfl rfl
set_option maxRecDepth 100000 in
theorem wd_101 : Cond.instantiable RX5 6 ∈ wsU := wsU_at 193 rfl rfl
set_option maxRecDepth 100000 in
theorem wd_102 : Cond.initialized RX5 ∈ wsU := wsU_at 128 rfl rfl
set_option maxRecDepth 100000 in
theorem wd_103 : Cond.fieldLink RX4 12 "SaidShallow$Rule" "left" "LSaidShallow$Side;" ∈ wsU := wsU_at 233 rfl rfl
set_option maxRecDepth 100000 in
theorem wd_104 : Cond.fieldLink RX4 18 "SaidShallow$Rule" "right" "LSaidShallow$Side;" ∈ wsU := wsU_at 237 rfl rfl
set_option maxRecDepth 100000 in
theorem wd_105 : Cond.fieldLink RX4 21 "SaidShallow$Rule" "roles" "[I" ∈ wsU := wsU_at 240 rfl rfl
set_option maxRecDepth 100000 in
theorem wd_106 : Cond.fieldLink RX4 25 "SaidShallow$Rule" "opened" "[I" ∈ wsU := wsU_at 242 rfl rfl
set_option maxRecDepth 100000 in
theorem wd_107 : Cond.instanceMethod yX5_init ∈ wsU := wsU_at 195 rfl rfl
set_option maxRecDepth 100000 in
theorem wd_108 : Cond.code yX5_init cX5_init 1 none ∈ wsU := wsU_at 196 rfl rfl
set_option maxRecDepth 100000 in
theorem wd_109 : Cond.methodLink RX5 5 objectInit ∈ wsU := wsU_at 197 rfl rfl
set_option maxRecDepth 100000 in
theorem wd_110 : Cond.fieldLink RX5 11 "SaidShallow$Side" "deepSets" "[I" ∈ wsU := wsU_at 198 rfl rfl
set_option maxRecDepth 100000 in
theorem wd_111 : Cond.fieldLink RX5 15 "SaidShallow$Side" "saidSets" "[I" ∈ wsU := wsU_at 199 rfl rfl
set_option maxRecDepth 100000 in
theorem wd_112 : Cond.fieldLink RX5 18 "SaidShallow$Side" "fitting" "[I" ∈ wsU := wsU_at 200 rfl rfl
set_option maxRecDepth 100000 in
theorem wd_113 : Cond.instanceMethod yX10_init ∈ wsU := wsU_at 357 rfl rfl
set_option maxRecDepth 100000 in
theorem wd_114 : Cond.code yX10_init cX10_init 1 none ∈ wsU := wsU_at 358 rfl rfl
set_option maxRecDepth 100000 in
theorem wd_115 : Cond.methodLink RX10 3 objectInit ∈ wsU := wsU_at 359 rfl rfl
set_option maxRecDepth 100000 in
theorem wd_116 : Cond.fieldLink RX10 11 "SaidShallow$Words" "codes" "[I" ∈ wsU := wsU_at 360 rfl rfl
set_option maxRecDepth 100000 in
theorem wd_117 : Cond.instanceMethod yX8_init ∈ wsU := wsU_at 376 rfl rfl
set_option maxRecDepth 100000 in
theorem wd_118 : Cond.code yX8_init cX8_init 1 none ∈ wsU := wsU_at 377 rfl rfl
set_option maxRecDepth 100000 in
theorem wd_119 : Cond.methodLink RX8 7 objectInit ∈ wsU := wsU_at 378 rfl rfl
set_option maxRecDepth 100000 in
theorem wd_120 : Cond.fieldLink RX8 13 "SaidShallow$Track" "left" "[I" ∈ wsU := wsU_at 379 rfl rfl
set_option maxRecDepth 100000 in
theorem wd_121 : Cond.fieldLink RX8 17 "SaidShallow$Track" "barred" "[I" ∈ wsU := wsU_at 380 rfl rfl
set_option maxRecDepth 100000 in
theorem wd_122 : Cond.fieldLink RX8 20 "SaidShallow$Track" "owedCount" "[I" ∈ wsU := wsU_at 381 rfl rfl
set_option maxRecDepth 100000 in
theorem wd_123 : Cond.fieldLink RX8 23 "SaidShallow$Track" "owed" "[I" ∈ wsU := wsU_at 382 rfl rfl
set_option maxRecDepth 100000 in
theorem wd_124 : Cond.fieldLink RX8 26 "SaidShallow$Track" "broken" "[I" ∈ wsU := wsU_at 383 rfl rfl
set_option maxRecDepth 100000 in
theorem wd_125 : Cond.instanceMethod yX1_init ∈ wsU := wsU_at 398 rfl rfl
set_option maxRecDepth 100000 in
theorem wd_126 : Cond.code yX1_init cX1_init 1 none ∈ wsU := wsU_at 399 rfl rfl
set_option maxRecDepth 100000 in
theorem wd_127 : Cond.methodLink RX1 3 objectInit ∈ wsU := wsU_at 400 rfl rfl
set_option maxRecDepth 100000 in
theorem wd_128 : Cond.fieldLink RX1 11 "SaidShallow$DeadEnds" "slots" "[I" ∈ wsU := wsU_at 402 rfl rfl
set_option maxRecDepth 100000 in
theorem wd_129 : Cond.constant RX1 15 (32768) ∈ wsU := wsU_at 401 rfl rfl
set_option maxRecDepth 100000 in
theorem wd_130 : Cond.arrayClass .long ∈ wsU := wsU_at 421 rfl rfl
set_option maxRecDepth 100000 in
theorem wd_131 : Cond.fieldLink RX1 16 "SaidShallow$DeadEnds" "pool" "[J" ∈ wsU := wsU_at 403 rfl rfl
set_option maxRecDepth 100000 in
theorem wd_132 : Cond.fieldLink RX1 22 "SaidShallow$DeadEnds" "key" "[J" ∈ wsU := wsU_at 404 rfl rfl
set_option maxRecDepth 100000 in
theorem wd_133 : Cond.instanceMethod yX6_init ∈ wsU := wsU_at 486 rfl rfl
set_option maxRecDepth 100000 in
theorem wd_134 : Cond.code yX6_init cX6_init 1 none ∈ wsU := wsU_at 487 rfl rfl
set_option maxRecDepth 100000 in
theorem wd_135 : Cond.methodLink RX6 3 objectInit ∈ wsU := wsU_at 488 rfl rfl
set_option maxRecDepth 100000 in
theorem wd_136 : Cond.fieldLink RX6 9 "SaidShallow$Standing" "slack" "I" ∈ wsU := wsU_at 494 rfl rfl
set_option maxRecDepth 100000 in
theorem wd_137 : Cond.fieldLink RX6 15 "SaidShallow$Standing" "order" "[I" ∈ wsU := wsU_at 497 rfl rfl
set_option maxRecDepth 100000 in
theorem wd_138 : Cond.classLink RX6 19 RX9 ∈ wsU := wsU_at 489 rfl rfl
set_option maxRecDepth 100000 in
theorem wd_139 : Cond.fieldLink RX6 24 "SaidShallow$Standing" "deeps" "LSaidShallow$WordList;" ∈ wsU := wsU_at 499 rfl rfl
set_option maxRecDepth 100000 in
theorem wd_140 : Cond.fieldLink RX6 28 "SaidShallow$Standing" "saids" "LSaidShallow$WordList;" ∈ wsU := wsU_at 501 rfl rfl
set_option maxRecDepth 100000 in
theorem wd_141 : Cond.fieldLink RX6 31 "SaidShallow$Standing" "breaks" "[I" ∈ wsU := wsU_at 504 rfl rfl
set_option maxRecDepth 100000 in
theorem wd_142 : Cond.fieldLink RX6 34 "SaidShallow$Standing" "ways" "[I" ∈ wsU := wsU_at 505 rfl rfl
set_option maxRecDepth 100000 in
theorem wd_143 : Cond.fieldLink RX6 37 "SaidShallow$Standing" "word" "[I" ∈ wsU := wsU_at 506 rfl rfl
set_option maxRecDepth 100000 in
theorem wd_144 : Cond.methodLink RX6 21 yX9_init ∈ wsU := wsU_at 490 rfl rfl
set_option maxRecDepth 100000 in
theorem wd_145 : Cond.methodLink RX11 39 yX7_init ∈ wsU := wsU_at 527 rfl rfl
set_option maxRecDepth 100000 in
theorem wd_146 : Cond.instanceMethod yX2_init ∈ wsU := wsU_at 531 rfl rfl
set_option maxRecDepth 100000 in
theorem wd_147 : Cond.code yX2_init cX2_init 1 none ∈ wsU := wsU_at 532 rfl rfl
set_option maxRecDepth 100000 in
theorem wd_148 : Cond.methodLink RX2 3 objectInit ∈ wsU := wsU_at 533 rfl rfl
set_option maxRecDepth 100000 in
theorem wd_149 : Cond.classLink RX2 9 RX7 ∈ wsU := wsU_at 534 rfl rfl
set_option maxRecDepth 100000 in
theorem wd_150 : Cond.fieldLink RX2 12 "SaidShallow$Reader" "draft" "LSaidShallow$Tongue;" ∈ wsU := wsU_at 536 rfl rfl
set_option maxRecDepth 100000 in
theorem wd_151 : Cond.fieldLink RX2 18 "SaidShallow$Reader" "faultPlace" "I" ∈ wsU := wsU_at 540 rfl rfl
set_option maxRecDepth 100000 in
theorem wd_152 : Cond.fieldLink RX2 22 "SaidShallow$Reader" "signs" "[I" ∈ wsU := wsU_at 542 rfl rfl
set_option maxRecDepth 100000 in
theorem wd_153 : Cond.methodLink RX2 11 yX7_init ∈ wsU := wsU_at 535 rfl rfl
set_option maxRecDepth 100000 in
theorem wd_154 : Cond.instanceMethod yX0_init ∈ wsU := wsU_at 573 rfl rfl
set_option maxRecDepth 100000 in
theorem wd_155 : Cond.code yX0_init cX0_init 1 none ∈ wsU := wsU_at 574 rfl rfl
set_option maxRecDepth 100000 in
theorem wd_156 : Cond.methodLink RX0 3 objectInit ∈ wsU := wsU_at 575 rfl rfl
set_option maxRecDepth 100000 in
theorem wd_157 : Cond.fieldLink RX0 11 "SaidShallow$BestOrder" "after" "[I" ∈ wsU := wsU_at 576 rfl rfl
set_option maxRecDepth 100000 in
theorem wd_158 : Cond.fieldLink RX0 15 "SaidShallow$BestOrder" "agrees" "[I" ∈ wsU := wsU_at 577 rfl rfl
set_option maxRecDepth 100000 in
theorem wd_159 : Cond.fieldLink RX0 18 "SaidShallow$BestOrder" "inUse" "[I" ∈ wsU := wsU_at 578 rfl rfl
set_option maxRecDepth 100000 in
theorem wd_160 : Cond.fieldLink RX0 21 "SaidShallow$BestOrder" "path" "[I" ∈ wsU := wsU_at 580 rfl rfl
set_option maxRecDepth 100000 in
theorem wd_161 : Cond.fieldLink RX0 24 "SaidShallow$BestOrder" "stages" "[I" ∈ wsU := wsU_at 581 rfl rfl
set_option maxRecDepth 100000 in
theorem wd_162 : Cond.fieldLink RX0 27 "SaidShallow$BestOrder" "best" "[I" ∈ wsU := wsU_at 582 rfl rfl
set_option maxRecDepth 100000 in
theorem wd_163 : Cond.fieldLink RX0 30 "SaidShallow$BestOrder" "word" "[I" ∈ wsU := wsU_at 586 rfl rfl
set_option maxRecDepth 100000 in
theorem wd_164 : Cond.fieldLink RX0 33 "SaidShallow$BestOrder" "knownChanges" "I" ∈ wsU := wsU_at 588 rfl rfl
set_option maxRecDepth 100000 in
theorem wd_165 : Cond.methodLink RL 12 yX12_init ∈ wsU := wsU_at 1441 rfl rfl
set_option maxRecDepth 100000 in
theorem wd_166 : Cond.instanceMethod yX12_init ∈ wsU := wsU_at 1442 rfl rfl
set_option maxRecDepth 100000 in
theorem wd_167 : Cond.code yX12_init cX12_init 1 none ∈ wsU := wsU_at 1443 rfl rfl
set_option maxRecDepth 100000 in
theorem wd_168 : Cond.methodLink RX12 1 objectInit ∈ wsU := wsU_at 1444 rfl rfl
set_option maxRecDepth 100000 in
theorem wd_169 : Cond.fieldLink RX12 7 "SaidShallowModel" "w" "[I" ∈ wsU := wsU_at 1449 rfl rfl
set_option maxRecDepth 100000 in
theorem wd_170 : Cond.fieldLink RX12 13 "SaidShallowModel" "fresh" "[I" ∈ wsU := wsU_at 1450 rfl rfl
set_option maxRecDepth 100000 in
theorem wd_171 : Cond.fieldLink RX12 16 "SaidShallowModel" "kept" "[I" ∈ wsU := wsU_at 1451 rfl rfl
set_option maxRecDepth 100000 in
theorem wd_172 : Cond.fieldLink RX12 19 "SaidShallowModel" "tape" "[I" ∈ wsU := wsU_at 1453 rfl rfl
set_option maxRecDepth 100000 in
theorem wd_173 : Cond.fieldLink RX12 22 "SaidShallowModel" "faultPlace" "I" ∈ wsU := wsU_at 1459 rfl rfl
set_option maxRecDepth 100000 in
theorem wd_174 : Cond.classLink RX12 26 "[[I" ∈ wsU := wsU_at 1445 rfl rfl
set_option maxRecDepth 100000 in
theorem wd_175 : Cond.fieldLink RX12 28 "SaidShallowModel" "left" "[[I" ∈ wsU := wsU_at 1464 rfl rfl
set_option maxRecDepth 100000 in
theorem wd_176 : Cond.fieldLink RX12 31 "SaidShallowModel" "bans" "[[I" ∈ wsU := wsU_at 1465 rfl rfl
set_option maxRecDepth 100000 in
theorem wd_177 : Cond.fieldLink RX12 34 "SaidShallowModel" "needOf" "[[I" ∈ wsU := wsU_at 1466 rfl rfl
set_option maxRecDepth 100000 in
theorem wd_178 : Cond.fieldLink RX12 37 "SaidShallowModel" "needs" "[[I" ∈ wsU := wsU_at 1467 rfl rfl
set_option maxRecDepth 100000 in
theorem wd_179 : Cond.fieldLink RX12 40 "SaidShallowModel" "needMany" "[I" ∈ wsU := wsU_at 1468 rfl rfl
set_option maxRecDepth 100000 in
theorem wd_180 : Cond.fieldLink RX12 43 "SaidShallowModel" "row" "[I" ∈ wsU := wsU_at 1469 rfl rfl
set_option maxRecDepth 100000 in
theorem wd_181 : Cond.fieldLink RX12 46 "SaidShallowModel" "one" "[I" ∈ wsU := wsU_at 1470 rfl rfl
set_option maxRecDepth 100000 in
theorem wd_182 : Cond.fieldLink RX12 49 "SaidShallowModel" "other" "[I" ∈ wsU := wsU_at 1471 rfl rfl
set_option maxRecDepth 100000 in
theorem wd_183 : Cond.fieldLink RX12 52 "SaidShallowModel" "foundWords" "[J" ∈ wsU := wsU_at 1476 rfl rfl
set_option maxRecDepth 100000 in
theorem wd_184 : Cond.fieldLink RX12 56 "SaidShallowModel" "stamp" "[I" ∈ wsU := wsU_at 1478 rfl rfl
set_option maxRecDepth 100000 in
theorem wd_185 : Cond.fieldLink RX12 59 "SaidShallowModel" "comeTo" "[I" ∈ wsU := wsU_at 1479 rfl rfl
set_option maxRecDepth 100000 in
theorem wd_186 : Cond.fieldLink RX12 62 "SaidShallowModel" "saidWord" "[I" ∈ wsU := wsU_at 1482 rfl rfl
set_option maxRecDepth 100000 in
theorem wd_187 : Cond.fieldLink RX12 65 "SaidShallowModel" "coupleStem" "[I" ∈ wsU := wsU_at 1484 rfl rfl
set_option maxRecDepth 100000 in
theorem wd_188 : Cond.fieldLink RX12 68 "SaidShallowModel" "coupleEnd" "[I" ∈ wsU := wsU_at 1485 rfl rfl
set_option maxRecDepth 100000 in
theorem wd_189 : Cond.fieldLink RX12 71 "SaidShallowModel" "walkedAt" "I" ∈ wsU := wsU_at 1487 rfl rfl
set_option maxRecDepth 100000 in
theorem wd_190 : Cond.fieldLink RX12 74 "SaidShallowModel" "aged" "[I" ∈ wsU := wsU_at 1488 rfl rfl
set_option maxRecDepth 100000 in
theorem wd_191 : Cond.fieldLink RX12 77 "SaidShallowModel" "agedRow" "[I" ∈ wsU := wsU_at 1489 rfl rfl
set_option maxRecDepth 100000 in
theorem wd_192 : Cond.fieldLink RX12 80 "SaidShallowModel" "agedNext" "[I" ∈ wsU := wsU_at 1490 rfl rfl
set_option maxRecDepth 100000 in
theorem wd_193 : Cond.fieldLink RX12 83 "SaidShallowModel" "states" "[I" ∈ wsU := wsU_at 1492 rfl rfl
set_option maxRecDepth 100000 in
theorem wd_194 : Cond.fieldLink RX12 86 "SaidShallowModel" "level" "[I" ∈ wsU := wsU_at 1493 rfl rfl
set_option maxRecDepth 100000 in
theorem wd_195 : Cond.fieldLink RX12 89 "SaidShallowModel" "firstWords" "[I" ∈ wsU := wsU_at 1494 rfl rfl
set_option maxRecDepth 100000 in
theorem wd_196 : Cond.arrayClass .boolean ∈ wsU := wsU_at 1617 rfl rfl
set_option maxRecDepth 100000 in
theorem wd_197 : Cond.fieldLink RX12 92 "SaidShallowModel" "unlike" "[Z" ∈ wsU := wsU_at 1495 rfl rfl
set_option maxRecDepth 100000 in
theorem wd_198 : Cond.classLink RX12 96 "[[Z" ∈ wsU := wsU_at 1447 rfl rfl
set_option maxRecDepth 100000 in
theorem wd_199 : Cond.fieldLink RX12 98 "SaidShallowModel" "agrees" "[[Z" ∈ wsU := wsU_at 1496 rfl rfl
set_option maxRecDepth 100000 in
theorem wd_200 : Cond.fieldLink RX12 101 "SaidShallowModel" "used" "[I" ∈ wsU := wsU_at 1497 rfl rfl
set_option maxRecDepth 100000 in
theorem wd_201 : Cond.fieldLink RX12 104 "SaidShallowModel" "tried" "[I" ∈ wsU := wsU_at 1498 rfl rfl
set_option maxRecDepth 100000 in
theorem wd_202 : Cond.fieldLink RX12 107 "SaidShallowModel" "bestOrder" "[I" ∈ wsU := wsU_at 1499 rfl rfl
set_option maxRecDepth 100000 in
theorem wd_203 : Cond.fieldLink RX12 110 "SaidShallowModel" "isTried" "[Z" ∈ wsU := wsU_at 1500 rfl rfl
set_option maxRecDepth 100000 in
theorem wd_204 : Cond.fieldLink RX12 113 "SaidShallowModel" "keptAged" "[I" ∈ wsU := wsU_at 1503 rfl rfl
set_option maxRecDepth 100000 in
theorem wd_205 : Cond.methodLink RL 13 yX11_feed ∈ wsU := wsU_at 670 rfl rfl
set_option maxRecDepth 100000 in
theorem wd_206 : Cond.instanceMethod yX11_feed ∈ wsU := wsU_at 671 rfl rfl
set_option maxRecDepth 100000 in
theorem wd_207 : Cond.selects RX11 yX11_feed yX11_feed ∈ wsU := wsU_at 672 rfl rfl
set_option maxRecDepth 100000 in
theorem wd_208 : Cond.code yX11_feed cX11_feed 6 (some .int) ∈ wsU := wsU_at 673 rfl rfl
set_option maxRecDepth 100000 in
theorem wd_209 : Cond.fieldLink RX11 76 "SaidShallow" "tapeLength" "I" ∈ wsU := wsU_at 613 rfl rfl
set_option maxRecDepth 100000 in
theorem wd_210 : Cond.methodLink RX11 79 yX11_putNumber ∈ wsU := wsU_at 674 rfl rfl
set_option maxRecDepth 100000 in
theorem wd_211 : Cond.instanceMethod yX11_putNumber ∈ wsU := wsU_at 676 rfl rfl
set_option maxRecDepth 100000 in
theorem wd_212 : Cond.selects RX11 yX11_putNumber yX11_putNumber ∈ wsU := wsU_at 0 rfl rfl
set_option maxRecDepth 100000 in
theorem wd_213 : Cond.code yX11_putNumber cX11_putNumber 3 none ∈ wsU := wsU_at 677 rfl rfl
set_option maxRecDepth 100000 in
theorem wd_214 : Cond.methodLink RL 17 yX12_feed ∈ wsU := wsU_at 1618 rfl rfl
set_option maxRecDepth 100000 in
theorem wd_215 : Cond.instanceMethod yX12_feed ∈ wsU := wsU_at 1619 rfl rfl
set_option maxRecDepth 100000 in
theorem wd_216 : Cond.selects RX12 yX12_feed yX12_feed ∈ wsU := wsU_at 1620 rfl rfl
set_option maxRecDepth 100000 in
theorem wd_217 : Cond.code yX12_feed cX12_feed 8 (some .int) ∈ wsU := wsU_at 1621 rfl rfl
set_option maxRecDepth 100000 in
theorem wd_218 : Cond.fieldLink RX12 116 "SaidShallowModel" "taped" "I" ∈ wsU := wsU_at 1454 rfl rfl
set_option maxRecDepth 100000 in
theorem wd_219 : Cond.methodLink RL 18 yX11_end ∈ wsU := wsU_at 678 rfl rfl
set_option maxRecDepth 100000 in
theorem wd_220 : Cond.instanceMethod yX11_end ∈ wsU := wsU_at 679 rfl rfl
set_option maxRecDepth 100000 in
theorem wd_221 : Cond.selects RX11 yX11_end yX11_end ∈ wsU := wsU_at 680 rfl rfl
set_option maxRecDepth 100000 in
theorem wd_222 : Cond.code yX11_end cX11_end 2 (some .boolean) ∈ wsU := wsU_at 681 rfl rfl
set_option maxRecDepth 100000 in
theorem wd_223 : Cond.methodLink RL 22 yX12_end ∈ wsU := wsU_at 1622 rfl rfl
set_option maxRecDepth 100000 in
theorem wd_224 : Cond.instanceMethod yX12_end ∈ wsU := wsU_at 1623 rfl rfl
set_option maxRecDepth 100000 in
theorem wd_225 : Cond.selects RX12 yX12_end yX12_end ∈ wsU := wsU_at 1624 rfl rfl
set_option maxRecDepth 100000 in
theorem wd_226 : Cond.code yX12_end cX12_end 2 (some .boolean) ∈ wsU := wsU_at 1625 rfl rfl
set_option maxRecDepth 100000 in
theorem wd_227 : Cond.methodLink RX12 119 yX12_isIn ∈ wsU := wsU_at 1626 rfl rfl
set_option maxRecDepth 100000 in
theorem wd_228 : Cond.static yX12_isIn ∈ wsU := wsU_at 1627 rfl rfl
set_option maxRecDepth 100000 in
theorem wd_229 : Cond.code yX12_isIn cX12_isIn 3 (some .boolean) ∈ wsU := wsU_at 1628 rfl rfl
set_option maxRecDepth 100000 in
theorem wd_230 : Cond.methodLink RL 23 yX11_text ∈ wsU := wsU_at 682 rfl rfl
set_option maxRecDepth 100000 in
theorem wd_231 : Cond.instanceMethod yX11_text ∈ wsU := wsU_at 683 rfl rfl
set_option maxRecDepth 100000 in
theorem wd_232 : Cond.selects RX11 yX11_text yX11_text ∈ wsU := wsU_at 684 rfl rfl
set_option maxRecDepth 100000 in
theorem wd_233 : Cond.code yX11_text cX11_text 1 (some .int) ∈ wsU := wsU_at 685 rfl rfl
set_option maxRecDepth 100000 in
theorem wd_234 : Cond.fieldLink RX11 91 "SaidShallow$Reader" "draft" "LSaidShallow$Tongue;" ∈ wsU := wsU_at 537 rfl rfl
set_option maxRecDepth 100000 in
theorem wd_235 : Cond.fieldLink RX11 98 "SaidShallow$Tongue" "ruleCount" "I" ∈ wsU := wsU_at 311 rfl rfl
set_option maxRecDepth 100000 in
theorem wd_236 : Cond.fieldLink RX11 104 "SaidShallow" "changes" "I" ∈ wsU := wsU_at 630 rfl rfl
set_option maxRecDepth 100000 in
theorem wd_237 : Cond.fieldLink RX11 112 "SaidShallow" "coupleCount" "I" ∈ wsU := wsU_at 624 rfl rfl
set_option maxRecDepth 100000 in
theorem wd_238 : Cond.fieldLink RX11 115 "SaidShallow" "agedLength" "I" ∈ wsU := wsU_at 627 rfl rfl
set_option maxRecDepth 100000 in
theorem wd_239 : Cond.methodLink RX11 83 yX11_emptyTape ∈ wsU := wsU_at 686 rfl rfl
set_option maxRecDepth 100000 in
theorem wd_240 : Cond.instanceMethod yX11_emptyTape ∈ wsU := wsU_at 688 rfl rfl
set_option maxRecDepth 100000 in
theorem wd_241 : Cond.selects RX11 yX11_emptyTape yX11_emptyTape ∈ wsU := wsU_at 1 rfl rfl
set_option maxRecDepth 100000 in
theorem wd_242 : Cond.code yX11_emptyTape cX11_emptyTape 2 (some .int) ∈ wsU := wsU_at 689 rfl rfl
set_option maxRecDepth 100000 in
theorem wd_243 : Cond.methodLink RX11 87 yX2_read ∈ wsU := wsU_at 690 rfl rfl
set_option maxRecDepth 100000 in
theorem wd_244 : Cond.instanceMethod yX2_read ∈ wsU := wsU_at 691 rfl rfl
set_option maxRecDepth 100000 in
theorem wd_245 : Cond.selects RX2 yX2_read yX2_read ∈ wsU := wsU_at 692 rfl rfl
set_option maxRecDepth 100000 in
theorem wd_246 : Cond.code yX2_read cX2_read 4 (some .boolean) ∈ wsU := wsU_at 693 rfl rfl
set_option maxRecDepth 100000 in
theorem wd_247 : Cond.methodLink RX2 26 Lib.Math.min.name ∈ wsU := wsU_at 694 rfl rfl
set_option maxRecDepth 100000 in
theorem wd_248 : Cond.static Lib.Math.min.name ∈ wsU := wsU_at 695 rfl rfl
set_option maxRecDepth 100000 in
theorem wd_249 : Cond.initialized "java/lang/Math" ∈ wsU := wsU_at 136 rfl rfl
set_option maxRecDepth 100000 in
theorem wd_250 : Cond.code Lib.Math.min.name Lib.Math.min.code 2 (some .int) ∈ wsU := wsU_at 696 rfl rfl
set_option maxRecDepth 100000 in
theorem wd_251 : Cond.fieldLink RX2 32 "SaidShallow$Reader" "length" "I" ∈ wsU := wsU_at 543 rfl rfl
set_option maxRecDepth 100000 in
theorem wd_252 : Cond.methodLink RX2 35 arraycopyName ∈ wsU := wsU_at 697 rfl rfl
set_option maxRecDepth 100000 in
theorem wd_253 : Cond.native arraycopyName ∈ wsU := wsU_at 699 rfl rfl
set_option maxRecDepth 100000 in
theorem wd_254 : Cond.static arraycopyName ∈ wsU := wsU_at 698 rfl rfl
set_option maxRecDepth 100000 in
theorem wd_255 : Cond.initialized "java/lang/System" ∈ wsU := wsU_at 137 rfl rfl
set_option maxRecDepth 100000 in
theorem wd_256 : Cond.fieldLink RX2 41 "SaidShallow$Reader" "at" "I" ∈ wsU := wsU_at 544 rfl rfl
set_option maxRecDepth 100000 in
theorem wd_257 : Cond.fieldLink RX2 44 "SaidShallow$Reader" "faultKind" "I" ∈ wsU := wsU_at 538 rfl rfl
set_option maxRecDepth 100000 in
theorem wd_258 : Cond.methodLink RX2 47 yX7_clear ∈ wsU := wsU_at 700 rfl rfl
set_option maxRecDepth 100000 in
theorem wd_259 : Cond.instanceMethod yX7_clear ∈ wsU := wsU_at 701 rfl rfl
set_option maxRecDepth 100000 in
theorem wd_260 : Cond.selects RX7 yX7_clear yX7_clear ∈ wsU := wsU_at 702 rfl rfl
set_option maxRecDepth 100000 in
theorem wd_261 : Cond.code yX7_clear cX7_clear 1 none ∈ wsU := wsU_at 703 rfl rfl
set_option maxRecDepth 100000 in
theorem wd_262 : Cond.fieldLink RX7 67 "SaidShallow$Tongue" "letterCount" "I" ∈ wsU := wsU_at 276 rfl rfl
set_option maxRecDepth 100000 in
theorem wd_263 : Cond.fieldLink RX7 71 "SaidShallow$Tongue" "pairCount" "I" ∈ wsU := wsU_at 293 rfl rfl
set_option maxRecDepth 100000 in
theorem wd_264 : Cond.fieldLink RX7 74 "SaidShallow$Tongue" "ruleCount" "I" ∈ wsU := wsU_at 309 rfl rfl
set_option maxRecDepth 100000 in
theorem wd_265 : Cond.methodLink RX7 61 yJ7_fill_53178 ∈ wsU := wsU_at 704 rfl rfl
set_option maxRecDepth 100000 in
theorem wd_266 : Cond.static yJ7_fill_53178 ∈ wsU := wsU_at 705 rfl rfl
set_option maxRecDepth 100000 in
theorem wd_267 : Cond.initialized RJ7 ∈ wsU := wsU_at 138 rfl rfl
set_option maxRecDepth 100000 in
theorem wd_268 : Cond.code yJ7_fill_53178 cJ7_fill_53178 4 none ∈ wsU := wsU_at 706 rfl rfl
set_option maxRecDepth 100000 in
theorem wd_269 : Cond.methodLink RX7 77 yX9_clear ∈ wsU := wsU_at 707 rfl rfl
set_option maxRecDepth 100000 in
theorem wd_270 : Cond.instanceMethod yX9_clear ∈ wsU := wsU_at 708 rfl rfl
set_option maxRecDepth 100000 in
theorem wd_271 : Cond.selects RX9 yX9_clear yX9_clear ∈ wsU := wsU_at 709 rfl rfl
set_option maxRecDepth 100000 in
theorem wd_272 : Cond.code yX9_clear cX9_clear 1 none ∈ wsU := wsU_at 710 rfl rfl
set_option maxRecDepth 100000 in
theorem wd_273 : Cond.fieldLink RX9 18 "SaidShallow$WordList" "count" "I" ∈ wsU := wsU_at 175 rfl rfl
set_option maxRecDepth 100000 in
theorem wd_274 : Cond.methodLink RX2 50 yX2_peek ∈ wsU := wsU_at 711 rfl rfl
set_option maxRecDepth 100000 in
theorem wd_275 : Cond.instanceMethod yX2_peek ∈ wsU := wsU_at 713 rfl rfl
set_option maxRecDepth 100000 in
theorem wd_276 : Cond.selects RX2 yX2_peek yX2_peek ∈ wsU := wsU_at 2 rfl rfl
set_option maxRecDepth 100000 in
theorem wd_277 : Cond.code yX2_peek cX2_peek 1 (some .int) ∈ wsU := wsU_at 714 rfl rfl
set_option maxRecDepth 100000 in
theorem wd_393 : Cond.instanceMethod yX7_pairOf ∈ wsU := wsU_at 825 rfl rfl
set_option maxRecDepth 100000 in
theorem wd_394 : Cond.selects RX7 yX7_pairOf yX7_pairOf ∈ wsU := wsU_at 826 rfl rfl
set_option maxRecDepth 100000 in
theorem wd_395 : Cond.code yX7_pairOf cX7_pairOf 3 (some .int) ∈ wsU := wsU_at 827 rfl rfl
set_option maxRecDepth 100000 in
theorem wd_481 : Cond.methodLink RX2 58 yX7_compile ∈ wsU := wsU_at 904 rfl rfl
set_option maxRecDepth 100000 in
theorem wd_482 : Cond.instanceMethod yX7_compile ∈ wsU := wsU_at 905 rfl rfl
set_option maxRecDepth 100000 in
theorem wd_483 : Cond.selects RX7 yX7_compile yX7_compile ∈ wsU := wsU_at 906 rfl rfl
set_option maxRecDepth 100000 in
theorem wd_484 : Cond.code yX7_compile cX7_compile 2 none ∈ wsU := wsU_at 907 rfl rfl
set_option maxRecDepth 100000 in
theorem wd_530 : Cond.methodLink RX11 94 yX7_copyFrom ∈ wsU := wsU_at 943 rfl rfl
set_option maxRecDepth 100000 in
theorem wd_531 : Cond.instanceMethod yX7_copyFrom ∈ wsU := wsU_at 944 rfl rfl
set_option maxRecDepth 100000 in
theorem wd_532 : Cond.selects RX7 yX7_copyFrom yX7_copyFrom ∈ wsU := wsU_at 945 rfl rfl
set_option maxRecDepth 100000 in
theorem wd_533 : Cond.code yX7_copyFrom cX7_copyFrom 3 none ∈ wsU := wsU_at 946 rfl rfl
set_option maxRecDepth 100000 in
theorem wd_534 : Cond.methodLink RX7 80 arraycopyName ∈ wsU := wsU_at 947 rfl rfl
set_option maxRecDepth 100000 in
theorem wd_544 : Cond.methodLink RX7 90 yX9_copyFrom ∈ wsU := wsU_at 957 rfl rfl
set_option maxRecDepth 100000 in
theorem wd_545 : Cond.instanceMethod yX9_copyFrom ∈ wsU := wsU_at 958 rfl rfl
set_option maxRecDepth 100000 in
theorem wd_546 : Cond.selects RX9 yX9_copyFrom yX9_copyFrom ∈ wsU := wsU_at 959 rfl rfl
set_option maxRecDepth 100000 in
theorem wd_547 : Cond.code yX9_copyFrom cX9_copyFrom 2 none ∈ wsU := wsU_at 960 rfl rfl
set_option maxRecDepth 100000 in
theorem wd_548 : Cond.methodLink RX9 22 arraycopyName ∈ wsU := wsU_at 961 rfl rfl
set_option maxRecDepth 100000 in
theorem wd_549 : Cond.methodLink RX11 101 yX6_restart ∈ wsU := wsU_at 962 rfl rfl
set_option maxRecDepth 100000 in
theorem wd_550 : Cond.instanceMethod yX6_restart ∈ wsU := wsU_at 963 rfl rfl
set_option maxRecDepth 100000 in
theorem wd_551 : Cond.selects RX6 yX6_restart yX6_restart ∈ wsU := wsU_at 964 rfl rfl
set_option maxRecDepth 100000 in
theorem wd_552 : Cond.code yX6_restart cX6_restart 3 none ∈ wsU := wsU_at 965 rfl rfl
set_option maxRecDepth 100000 in
theorem wd_553 : Cond.fieldLink RX6 40 "SaidShallow$Standing" "inUse" "I" ∈ wsU := wsU_at 491 rfl rfl
set_option maxRecDepth 100000 in
theorem wd_554 : Cond.fieldLink RX6 46 "SaidShallow$Standing" "rights" "I" ∈ wsU := wsU_at 503 rfl rfl
set_option maxRecDepth 100000 in
theorem wd_555 : Cond.methodLink RX6 43 yX9_clear ∈ wsU := wsU_at 966 rfl rfl
set_option maxRecDepth 100000 in
theorem wd_556 : Cond.methodLink RX11 107 yX10_clear ∈ wsU := wsU_at 967 rfl rfl
set_option maxRecDepth 100000 in
theorem wd_557 : Cond.instanceMethod yX10_clear ∈ wsU := wsU_at 968 rfl rfl
set_option maxRecDepth 100000 in
theorem wd_558 : Cond.selects RX10 yX10_clear yX10_clear ∈ wsU := wsU_at 969 rfl rfl
set_option maxRecDepth 100000 in
theorem wd_559 : Cond.code yX10_clear cX10_clear 1 none ∈ wsU := wsU_at 970 rfl rfl
set_option maxRecDepth 100000 in
theorem wd_560 : Cond.fieldLink RX10 15 "SaidShallow$Words" "count" "I" ∈ wsU := wsU_at 361 rfl rfl
set_option maxRecDepth 100000 in
theorem wd_561 : Cond.fieldLink RX10 19 "SaidShallow$Words" "tooMany" "Z" ∈ wsU := wsU_at 363 rfl rfl
set_option maxRecDepth 100000 in
theorem wd_562 : Cond.methodLink RL 27 yX12_text ∈ wsU := wsU_at 1629 rfl rfl
set_option maxRecDepth 100000 in
theorem wd_563 : Cond.instanceMethod yX12_text ∈ wsU := wsU_at 1630 rfl rfl
set_option maxRecDepth 100000 in
theorem wd_564 : Cond.selects RX12 yX12_text yX12_text ∈ wsU := wsU_at 1631 rfl rfl
set_option maxRecDepth 100000 in
theorem wd_565 : Cond.code yX12_text cX12_text 3 (some .int) ∈ wsU := wsU_at 1632 rfl rfl
set_option maxRecDepth 100000 in
theorem wd_566 : Cond.fieldLink RX12 123 "SaidShallowModel" "at" "I" ∈ wsU := wsU_at 1455 rfl rfl
set_option maxRecDepth 100000 in
theorem wd_567 : Cond.fieldLink RX12 133 "SaidShallowModel" "wrong" "I" ∈ wsU := wsU_at 1456 rfl rfl
set_option maxRecDepth 100000 in
theorem wd_568 : Cond.fieldLink RX12 239 "SaidShallowModel" "faultKind" "I" ∈ wsU := wsU_at 1458 rfl rfl
set_option maxRecDepth 100000 in
theorem wd_570 : Cond.fieldLink RX12 242 "SaidShallowModel" "foundMany" "I" ∈ wsU := wsU_at 1477 rfl rfl
set_option maxRecDepth 100000 in
theorem wd_571 : Cond.fieldLink RX12 245 "SaidShallowModel" "coupleMany" "I" ∈ wsU := wsU_at 1486 rfl rfl
set_option maxRecDepth 100000 in
theorem wd_572 : Cond.fieldLink RX12 248 "SaidShallowModel" "agedLong" "I" ∈ wsU := wsU_at 1491 rfl rfl
set_option maxRecDepth 100000 in
theorem wd_573 : Cond.methodLink RX12 139 yX12_sign ∈ wsU := wsU_at 1633 rfl rfl
set_option maxRecDepth 100000 in
theorem wd_574 : Cond.instanceMethod yX12_sign ∈ wsU := wsU_at 1635 rfl rfl
set_option maxRecDepth 100000 in
theorem wd_575 : Cond.selects RX12 yX12_sign yX12_sign ∈ wsU := wsU_at 59 rfl rfl
set_option maxRecDepth 100000 in
theorem wd_576 : Cond.code yX12_sign cX12_sign 1 (some .int) ∈ wsU := wsU_at 1636 rfl rfl
set_option maxRecDepth 100000 in
theorem wd_577 : Cond.methodLink RX12 130 yX12_blanks ∈ wsU := wsU_at 1637 rfl rfl
set_option maxRecDepth 100000 in
theorem wd_578 : Cond.instanceMethod yX12_blanks ∈ wsU := wsU_at 1639 rfl rfl
set_option maxRecDepth 100000 in
theorem wd_579 : Cond.selects RX12 yX12_blanks yX12_blanks ∈ wsU := wsU_at 60 rfl rfl
set_option maxRecDepth 100000 in
theorem wd_580 : Cond.code yX12_blanks cX12_blanks 1 none ∈ wsU := wsU_at 1640 rfl rfl
set_option maxRecDepth 100000 in
theorem wd_581 : Cond.methodLink RX12 126 yX12_see ∈ wsU := wsU_at 1641 rfl rfl
set_option maxRecDepth 100000 in
theorem wd_582 : Cond.instanceMethod yX12_see ∈ wsU := wsU_at 1643 rfl rfl
set_option maxRecDepth 100000 in
theorem wd_583 : Cond.selects RX12 yX12_see yX12_see ∈ wsU := wsU_at 61 rfl rfl
set_option maxRecDepth 100000 in
theorem wd_584 : Cond.code yX12_see cX12_see 2 (some .int) ∈ wsU := wsU_at 1644 rfl rfl
set_option maxRecDepth 100000 in
theorem wd_628 : Cond.methodLink RX12 180 yX12_hasPair ∈ wsU := wsU_at 1688 rfl rfl
set_option maxRecDepth 100000 in
theorem wd_629 : Cond.static yX12_hasPair ∈ wsU := wsU_at 1689 rfl rfl
set_option maxRecDepth 100000 in
theorem wd_630 : Cond.code yX12_hasPair cX12_hasPair 4 (some .boolean) ∈ wsU := wsU_at 1690 rfl rfl
set_option maxRecDepth 100000 in
theorem wd_663 : Cond.methodLink RL 28 yX11_fault ∈ wsU := wsU_at 972 rfl rfl
set_option maxRecDepth 100000 in
theorem wd_664 : Cond.instanceMethod yX11_fault ∈ wsU := wsU_at 973 rfl rfl
set_option maxRecDepth 100000 in
theorem wd_665 : Cond.selects RX11 yX11_fault yX11_fault ∈ wsU := wsU_at 974 rfl rfl
set_option maxRecDepth 100000 in
theorem wd_666 : Cond.code yX11_fault cX11_fault 2 (some .int) ∈ wsU := wsU_at 975 rfl rfl
set_option maxRecDepth 100000 in
theorem wd_667 : Cond.fieldLink RX11 118 "SaidShallow$Reader" "faultKind" "I" ∈ wsU := wsU_at 539 rfl rfl
set_option maxRecDepth 100000 in
theorem wd_668 : Cond.fieldLink RX11 121 "SaidShallow$Reader" "faultPlace" "I" ∈ wsU := wsU_at 541 rfl rfl
set_option maxRecDepth 100000 in
theorem wd_669 : Cond.methodLink RL 32 yX12_fault ∈ wsU := wsU_at 1725 rfl rfl
set_option maxRecDepth 100000 in
theorem wd_670 : Cond.instanceMethod yX12_fault ∈ wsU := wsU_at 1726 rfl rfl
set_option maxRecDepth 100000 in
theorem wd_671 : Cond.selects RX12 yX12_fault yX12_fault ∈ wsU := wsU_at 1727 rfl rfl
set_option maxRecDepth 100000 in
theorem wd_672 : Cond.code yX12_fault cX12_fault 2 (some .int) ∈ wsU := wsU_at 1728 rfl rfl
set_option maxRecDepth 100000 in
theorem wd_673 : Cond.methodLink RL 33 yX11_use ∈ wsU := wsU_at 976 rfl rfl
set_option maxRecDepth 100000 in
theorem wd_674 : Cond.instanceMethod yX11_use ∈ wsU := wsU_at 977 rfl rfl
set_option maxRecDepth 100000 in
theorem wd_675 : Cond.selects RX11 yX11_use yX11_use ∈ wsU := wsU_at 978 rfl rfl
set_option maxRecDepth 100000 in
theorem wd_676 : Cond.code yX11_use cX11_use 2 (some .boolean) ∈ wsU := wsU_at 979 rfl rfl
set_option maxRecDepth 100000 in
theorem wd_677 : Cond.fieldLink RX11 128 "SaidShallow$Standing" "inUse" "I" ∈ wsU := wsU_at 493 rfl rfl
set_option maxRecDepth 100000 in
theorem wd_678 : Cond.methodLink RX11 124 yX11_isSet ∈ wsU := wsU_at 980 rfl rfl
set_option maxRecDepth 100000 in
theorem wd_679 : Cond.instanceMethod yX11_isSet ∈ wsU := wsU_at 982 rfl rfl
set_option maxRecDepth 100000 in
theorem wd_680 : Cond.selects RX11 yX11_isSet yX11_isSet ∈ wsU := wsU_at 24 rfl rfl
set_option maxRecDepth 100000 in
theorem wd_681 : Cond.code yX11_isSet cX11_isSet 2 (some .boolean) ∈ wsU := wsU_at 983 rfl rfl
set_option maxRecDepth 100000 in
theorem wd_682 : Cond.methodLink RL 36 yX12_use ∈ wsU := wsU_at 1729 rfl rfl
set_option maxRecDepth 100000 in
theorem wd_683 : Cond.instanceMethod yX12_use ∈ wsU := wsU_at 1730 rfl rfl
set_option maxRecDepth 100000 in
theorem wd_684 : Cond.selects RX12 yX12_use yX12_use ∈ wsU := wsU_at 1731 rfl rfl
set_option maxRecDepth 100000 in
theorem wd_685 : Cond.code yX12_use cX12_use 2 (some .boolean) ∈ wsU := wsU_at 1732 rfl rfl
set_option maxRecDepth 100000 in
theorem wd_686 : Cond.methodLink RX12 251 yX12_allRules ∈ wsU := wsU_at 1733 rfl rfl
set_option maxRecDepth 100000 in
theorem wd_687 : Cond.instanceMethod yX12_allRules ∈ wsU := wsU_at 1735 rfl rfl
set_option maxRecDepth 100000 in
theorem wd_688 : Cond.selects RX12 yX12_allRules yX12_allRules ∈ wsU := wsU_at 77 rfl rfl
set_option maxRecDepth 100000 in
theorem wd_689 : Cond.code yX12_allRules cX12_allRules 1 (some .int) ∈ wsU := wsU_at 1736 rfl rfl
set_option maxRecDepth 100000 in
theorem wd_690 : Cond.methodLink RL 37 yX11_slack ∈ wsU := wsU_at 984 rfl rfl
set_option maxRecDepth 100000 in
theorem wd_691 : Cond.instanceMethod yX11_slack ∈ wsU := wsU_at 985 rfl rfl
set_option maxRecDepth 100000 in
theorem wd_692 : Cond.selects RX11 yX11_slack yX11_slack ∈ wsU := wsU_at 986 rfl rfl
set_option maxRecDepth 100000 in
theorem wd_693 : Cond.code yX11_slack cX11_slack 2 (some .boolean) ∈ wsU := wsU_at 987 rfl rfl
set_option maxRecDepth 100000 in
theorem wd_694 : Cond.fieldLink RX11 131 "SaidShallow$Standing" "slack" "I" ∈ wsU := wsU_at 496 rfl rfl
set_option maxRecDepth 100000 in
theorem wd_695 : Cond.methodLink RL 40 yX12_slack ∈ wsU := wsU_at 1737 rfl rfl
set_option maxRecDepth 100000 in
theorem wd_696 : Cond.instanceMethod yX12_slack ∈ wsU := wsU_at 1738 rfl rfl
set_option maxRecDepth 100000 in
theorem wd_697 : Cond.selects RX12 yX12_slack yX12_slack ∈ wsU := wsU_at 1739 rfl rfl
set_option maxRecDepth 100000 in
theorem wd_698 : Cond.code yX12_slack cX12_slack 2 (some .boolean) ∈ wsU := wsU_at 1740 rfl rfl
set_option maxRecDepth 100000 in
theorem wd_699 : Cond.methodLink RL 41 yX11_say ∈ wsU := wsU_at 988 rfl rfl
set_option maxRecDepth 100000 in
theorem wd_700 : Cond.instanceMethod yX11_say ∈ wsU := wsU_at 989 rfl rfl
set_option maxRecDepth 100000 in
theorem wd_701 : Cond.selects RX11 yX11_say yX11_say ∈ wsU := wsU_at 990 rfl rfl
set_option maxRecDepth 100000 in
theorem wd_702 : Cond.code yX11_say cX11_say 1 (some .int) ∈ wsU := wsU_at 991 rfl rfl
set_option maxRecDepth 100000 in
theorem wd_703 : Cond.methodLink RX11 134 yX11_findWords ∈ wsU := wsU_at 992 rfl rfl
set_option maxRecDepth 100000 in
theorem wd_704 : Cond.instanceMethod yX11_findWords ∈ wsU := wsU_at 994 rfl rfl
set_option maxRecDepth 100000 in
theorem wd_705 : Cond.selects RX11 yX11_findWords yX11_findWords ∈ wsU := wsU_at 25 rfl rfl
set_option maxRecDepth 100000 in
theorem wd_706 : Cond.code yX11_findWords cX11_findWords 3 (some .int) ∈ wsU := wsU_at 995 rfl rfl
set_option maxRecDepth 100000 in
theorem wd_708 : Cond.fieldLink RX11 138 "SaidShallow$Words" "count" "I" ∈ wsU := wsU_at 362 rfl rfl
set_option maxRecDepth 100000 in
theorem wd_709 : Cond.methodLink RX11 149 yX11_takeWord ∈ wsU := wsU_at 996 rfl rfl
set_option maxRecDepth 100000 in
theorem wd_710 : Cond.instanceMethod yX11_takeWord ∈ wsU := wsU_at 998 rfl rfl
set_option maxRecDepth 100000 in
theorem wd_711 : Cond.selects RX11 yX11_takeWord yX11_takeWord ∈ wsU := wsU_at 26 rfl rfl
set_option maxRecDepth 100000 in
theorem wd_712 : Cond.code yX11_takeWord cX11_takeWord 3 (some .int) ∈ wsU := wsU_at 999 rfl rfl
set_option maxRecDepth 100000 in
theorem wd_855 : Cond.methodLink RL 44 yX12_say ∈ wsU := wsU_at 1745 rfl rfl
set_option maxRecDepth 100000 in
theorem wd_856 : Cond.instanceMethod yX12_say ∈ wsU := wsU_at 1746 rfl rfl
set_option maxRecDepth 100000 in
theorem wd_857 : Cond.selects RX12 yX12_say yX12_say ∈ wsU := wsU_at 1747 rfl rfl
set_option maxRecDepth 100000 in
theorem wd_858 : Cond.code yX12_say cX12_say 1 (some .int) ∈ wsU := wsU_at 1748 rfl rfl
set_option maxRecDepth 100000 in
theorem wd_859 : Cond.methodLink RX12 352 yX12_words ∈ wsU := wsU_at 1749 rfl rfl
set_option maxRecDepth 100000 in
theorem wd_860 : Cond.instanceMethod yX12_words ∈ wsU := wsU_at 1751 rfl rfl
set_option maxRecDepth 100000 in
theorem wd_861 : Cond.selects RX12 yX12_words yX12_words ∈ wsU := wsU_at 78 rfl rfl
set_option maxRecDepth 100000 in
theorem wd_862 : Cond.code yX12_words cX12_words 2 (some .int) ∈ wsU := wsU_at 1752 rfl rfl
set_option maxRecDepth 100000 in
theorem wd_863 : Cond.methodLink RX12 346 yX12_takesWord ∈ wsU := wsU_at 1753 rfl rfl
set_option maxRecDepth 100000 in
theorem wd_864 : Cond.instanceMethod yX12_takesWord ∈ wsU := wsU_at 1755 rfl rfl
set_option maxRecDepth 100000 in
theorem wd_865 : Cond.selects RX12 yX12_takesWord yX12_takesWord ∈ wsU := wsU_at 79 rfl rfl
set_option maxRecDepth 100000 in
theorem wd_866 : Cond.code yX12_takesWord cX12_takesWord 6 (some .boolean) ∈ wsU := wsU_at 1756 rfl rfl
set_option maxRecDepth 100000 in
theorem wd_966 : Cond.methodLink RL 45 yX11_hear ∈ wsU := wsU_at 1116 rfl rfl
set_option maxRecDepth 100000 in
theorem wd_967 : Cond.instanceMethod yX11_hear ∈ wsU := wsU_at 1117 rfl rfl
set_option maxRecDepth 100000 in
theorem wd_968 : Cond.selects RX11 yX11_hear yX11_hear ∈ wsU := wsU_at 1118 rfl rfl
set_option maxRecDepth 100000 in
theorem wd_969 : Cond.code yX11_hear cX11_hear 1 (some .int) ∈ wsU := wsU_at 1119 rfl rfl
set_option maxRecDepth 100000 in
theorem wd_970 : Cond.methodLink RL 48 yX12_hear ∈ wsU := wsU_at 1850 rfl rfl
set_option maxRecDepth 100000 in
theorem wd_971 : Cond.instanceMethod yX12_hear ∈ wsU := wsU_at 1851 rfl rfl
set_option maxRecDepth 100000 in
theorem wd_972 : Cond.selects RX12 yX12_hear yX12_hear ∈ wsU := wsU_at 1852 rfl rfl
set_option maxRecDepth 100000 in
theorem wd_973 : Cond.code yX12_hear cX12_hear 1 (some .int) ∈ wsU := wsU_at 1853 rfl rfl
set_option maxRecDepth 100000 in
theorem wd_974 : Cond.methodLink RL 49 yX11_found ∈ wsU := wsU_at 1120 rfl rfl
set_option maxRecDepth 100000 in
theorem wd_975 : Cond.instanceMethod yX11_found ∈ wsU := wsU_at 1121 rfl rfl
set_option maxRecDepth 100000 in
theorem wd_976 : Cond.selects RX11 yX11_found yX11_found ∈ wsU := wsU_at 1122 rfl rfl
set_option maxRecDepth 100000 in
theorem wd_977 : Cond.code yX11_found cX11_found 3 (some .int) ∈ wsU := wsU_at 1123 rfl rfl
set_option maxRecDepth 100000 in
theorem wd_991 : Cond.methodLink RL 53 yX12_found ∈ wsU := wsU_at 1854 rfl rfl
set_option maxRecDepth 100000 in
theorem wd_992 : Cond.instanceMethod yX12_found ∈ wsU := wsU_at 1855 rfl rfl
set_option maxRecDepth 100000 in
theorem wd_993 : Cond.selects RX12 yX12_found yX12_found ∈ wsU := wsU_at 1856 rfl rfl
set_option maxRecDepth 100000 in
theorem wd_994 : Cond.code yX12_found cX12_found 9 (some .int) ∈ wsU := wsU_at 1857 rfl rfl
set_option maxRecDepth 100000 in
theorem wd_995 : Cond.methodLink RL 54 yX11_understand ∈ wsU := wsU_at 1137 rfl rfl
set_option maxRecDepth 100000 in
theorem wd_996 : Cond.instanceMethod yX11_understand ∈ wsU := wsU_at 1138 rfl rfl
set_option maxRecDepth 100000 in
theorem wd_997 : Cond.selects RX11 yX11_understand yX11_understand ∈ wsU := wsU_at 1139 rfl rfl
set_option maxRecDepth 100000 in
theorem wd_998 : Cond.code yX11_understand cX11_understand 4 (some .int) ∈ wsU := wsU_at 1140 rfl rfl
set_option maxRecDepth 100000 in
theorem wd_999 : Cond.fieldLink RX11 152 "SaidShallow$Tongue" "stems" "LSaidShallow$WordList;" ∈ wsU := wsU_at 315 rfl rfl
set_option maxRecDepth 100000 in
theorem wd_1000 : Cond.fieldLink RX11 156 "SaidShallow$WordList" "count" "I" ∈ wsU := wsU_at 177 rfl rfl
set_option maxRecDepth 100000 in
theorem wd_1001 : Cond.fieldLink RX11 159 "SaidShallow$Tongue" "ends" "LSaidShallow$WordList;" ∈ wsU := wsU_at 318 rfl rfl
set_option maxRecDepth 100000 in
theorem wd_1011 : Cond.instanceMethod yX9_lengthOf ∈ wsU := wsU_at 1150 rfl rfl
set_option maxRecDepth 100000 in
theorem wd_1012 : Cond.selects RX9 yX9_lengthOf yX9_lengthOf ∈ wsU := wsU_at 1151 rfl rfl
set_option maxRecDepth 100000 in
theorem wd_1013 : Cond.code yX9_lengthOf cX9_lengthOf 2 (some .int) ∈ wsU := wsU_at 1152 rfl rfl
set_option maxRecDepth 100000 in
theorem wd_1045 : Cond.methodLink RL 57 yX12_understand ∈ wsU := wsU_at 1858 rfl rfl
set_option maxRecDepth 100000 in
theorem wd_1046 : Cond.instanceMethod yX12_understand ∈ wsU := wsU_at 1859 rfl rfl
set_option maxRecDepth 100000 in
theorem wd_1047 : Cond.selects RX12 yX12_understand yX12_understand ∈ wsU := wsU_at 1860 rfl rfl
set_option maxRecDepth 100000 in
theorem wd_1048 : Cond.code yX12_understand cX12_understand 4 (some .int) ∈ wsU := wsU_at 1861 rfl rfl
set_option maxRecDepth 100000 in
theorem wd_1058 : Cond.methodLink RL 58 yX11_meant ∈ wsU := wsU_at 1184 rfl rfl
set_option maxRecDepth 100000 in
theorem wd_1059 : Cond.instanceMethod yX11_meant ∈ wsU := wsU_at 1185 rfl rfl
set_option maxRecDepth 100000 in
theorem wd_1060 : Cond.selects RX11 yX11_meant yX11_meant ∈ wsU := wsU_at 1186 rfl rfl
set_option maxRecDepth 100000 in
theorem wd_1061 : Cond.code yX11_meant cX11_meant 3 (some .int) ∈ wsU := wsU_at 1187 rfl rfl
set_option maxRecDepth 100000 in
theorem wd_1062 : Cond.methodLink RL 61 yX12_meant ∈ wsU := wsU_at 1870 rfl rfl
set_option maxRecDepth 100000 in
theorem wd_1063 : Cond.instanceMethod yX12_meant ∈ wsU := wsU_at 1871 rfl rfl
set_option maxRecDepth 100000 in
theorem wd_1064 : Cond.selects RX12 yX12_meant yX12_meant ∈ wsU := wsU_at 1872 rfl rfl
set_option maxRecDepth 100000 in
theorem wd_1065 : Cond.code yX12_meant cX12_meant 3 (some .int) ∈ wsU := wsU_at 1873 rfl rfl
set_option maxRecDepth 100000 in
theorem wd_1066 : Cond.methodLink RL 62 yX11_walk ∈ wsU := wsU_at 1188 rfl rfl
set_option maxRecDepth 100000 in
theorem wd_1067 : Cond.instanceMethod yX11_walk ∈ wsU := wsU_at 1189 rfl rfl
set_option maxRecDepth 100000 in
theorem wd_1068 : Cond.selects RX11 yX11_walk yX11_walk ∈ wsU := wsU_at 1190 rfl rfl
set_option maxRecDepth 100000 in
theorem wd_1069 : Cond.code yX11_walk cX11_walk 3 (some .int) ∈ wsU := wsU_at 1191 rfl rfl
set_option maxRecDepth 100000 in
theorem wd_1071 : Cond.methodLink RX11 166 yX11_takeRow ∈ wsU := wsU_at 1192 rfl rfl
set_option maxRecDepth 100000 in
theorem wd_1072 : Cond.instanceMethod yX11_takeRow ∈ wsU := wsU_at 1194 rfl rfl
set_option maxRecDepth 100000 in
theorem wd_1073 : Cond.selects RX11 yX11_takeRow yX11_takeRow ∈ wsU := wsU_at 43 rfl rfl
set_option maxRecDepth 100000 in
theorem wd_1074 : Cond.code yX11_takeRow cX11_takeRow 4 (some .int) ∈ wsU := wsU_at 1195 rfl rfl
set_option maxRecDepth 100000 in
theorem wd_1079 : Cond.methodLink RX11 198 yX7_pairOf ∈ wsU := wsU_at 1200 rfl rfl
set_option maxRecDepth 100000 in
theorem wd_1081 : Cond.methodLink RL 65 yX12_walk ∈ wsU := wsU_at 1874 rfl rfl
set_option maxRecDepth 100000 in
theorem wd_1082 : Cond.instanceMethod yX12_walk ∈ wsU := wsU_at 1875 rfl rfl
set_option maxRecDepth 100000 in
theorem wd_1083 : Cond.selects RX12 yX12_walk yX12_walk ∈ wsU := wsU_at 1876 rfl rfl
set_option maxRecDepth 100000 in
theorem wd_1084 : Cond.code yX12_walk cX12_walk 4 (some .int) ∈ wsU := wsU_at 1877 rfl rfl
set_option maxRecDepth 100000 in
theorem wd_1085 : Cond.methodLink RX12 365 yX12_takesRow ∈ wsU := wsU_at 1878 rfl rfl
set_option maxRecDepth 100000 in
theorem wd_1086 : Cond.instanceMethod yX12_takesRow ∈ wsU := wsU_at 1880 rfl rfl
set_option maxRecDepth 100000 in
theorem wd_1087 : Cond.selects RX12 yX12_takesRow yX12_takesRow ∈ wsU := wsU_at 105 rfl rfl
set_option maxRecDepth 100000 in
theorem wd_1088 : Cond.code yX12_takesRow cX12_takesRow 5 (some .int) ∈ wsU := wsU_at 1881 rfl rfl
set_option maxRecDepth 100000 in
theorem wd_1089 : Cond.methodLink RL 66 yX11_where ∈ wsU := wsU_at 1202 rfl rfl
set_option maxRecDepth 100000 in
theorem wd_1090 : Cond.instanceMethod yX11_where ∈ wsU := wsU_at 1203 rfl rfl
set_option maxRecDepth 100000 in
theorem wd_1091 : Cond.selects RX11 yX11_where yX11_where ∈ wsU := wsU_at 1204 rfl rfl
set_option maxRecDepth 100000 in
theorem wd_1092 : Cond.code yX11_where cX11_where 1 (some .int) ∈ wsU := wsU_at 1205 rfl rfl
set_option maxRecDepth 100000 in
theorem wd_1093 : Cond.methodLink RL 69 yX12_where ∈ wsU := wsU_at 1882 rfl rfl
set_option maxRecDepth 100000 in
theorem wd_1094 : Cond.instanceMethod yX12_where ∈ wsU := wsU_at 1883 rfl rfl
set_option maxRecDepth 100000 in
theorem wd_1095 : Cond.selects RX12 yX12_where yX12_where ∈ wsU := wsU_at 1884 rfl rfl
set_option maxRecDepth 100000 in
theorem wd_1096 : Cond.code yX12_where cX12_where 1 (some .int) ∈ wsU := wsU_at 1885 rfl rfl
set_option maxRecDepth 100000 in
theorem wd_1097 : Cond.methodLink RL 70 yX11_ages ∈ wsU := wsU_at 1206 rfl rfl
set_option maxRecDepth 100000 in
theorem wd_1098 : Cond.instanceMethod yX11_ages ∈ wsU := wsU_at 1207 rfl rfl
set_option maxRecDepth 100000 in
theorem wd_1099 : Cond.selects RX11 yX11_ages yX11_ages ∈ wsU := wsU_at 1208 rfl rfl
set_option maxRecDepth 100000 in
theorem wd_1100 : Cond.code yX11_ages cX11_ages 4 (some .int) ∈ wsU := wsU_at 1209 rfl rfl
set_option maxRecDepth 100000 in
theorem wd_1115 : Cond.methodLink RL 73 yX12_ages ∈ wsU := wsU_at 1886 rfl rfl
set_option maxRecDepth 100000 in
theorem wd_1116 : Cond.instanceMethod yX12_ages ∈ wsU := wsU_at 1887 rfl rfl
set_option maxRecDepth 100000 in
theorem wd_1117 : Cond.selects RX12 yX12_ages yX12_ages ∈ wsU := wsU_at 1888 rfl rfl
set_option maxRecDepth 100000 in
theorem wd_1118 : Cond.code yX12_ages cX12_ages 2 (some .int) ∈ wsU := wsU_at 1889 rfl rfl
set_option maxRecDepth 100000 in
theorem wd_1123 : Cond.methodLink RL 74 yX11_aged ∈ wsU := wsU_at 1217 rfl rfl
set_option maxRecDepth 100000 in
theorem wd_1124 : Cond.instanceMethod yX11_aged ∈ wsU := wsU_at 1218 rfl rfl
set_option maxRecDepth 100000 in
theorem wd_1125 : Cond.selects RX11 yX11_aged yX11_aged ∈ wsU := wsU_at 1219 rfl rfl
set_option maxRecDepth 100000 in
theorem wd_1126 : Cond.code yX11_aged cX11_aged 2 (some .int) ∈ wsU := wsU_at 1220 rfl rfl
set_option maxRecDepth 100000 in
theorem wd_1127 : Cond.methodLink RL 77 yX12_aged ∈ wsU := wsU_at 1894 rfl rfl
set_option maxRecDepth 100000 in
theorem wd_1128 : Cond.instanceMethod yX12_aged ∈ wsU := wsU_at 1895 rfl rfl
set_option maxRecDepth 100000 in
theorem wd_1129 : Cond.selects RX12 yX12_aged yX12_aged ∈ wsU := wsU_at 1896 rfl rfl
set_option maxRecDepth 100000 in
theorem wd_1130 : Cond.code yX12_aged cX12_aged 2 (some .int) ∈ wsU := wsU_at 1897 rfl rfl
set_option maxRecDepth 100000 in
theorem wd_1131 : Cond.methodLink RL 78 yX11_order ∈ wsU := wsU_at 1221 rfl rfl
set_option maxRecDepth 100000 in
theorem wd_1132 : Cond.instanceMethod yX11_order ∈ wsU := wsU_at 1222 rfl rfl
set_option maxRecDepth 100000 in
theorem wd_1133 : Cond.selects RX11 yX11_order yX11_order ∈ wsU := wsU_at 1223 rfl rfl
set_option maxRecDepth 100000 in
theorem wd_1134 : Cond.code yX11_order cX11_order 3 (some .boolean) ∈ wsU := wsU_at 1224 rfl rfl
set_option maxRecDepth 100000 in
theorem wd_1135 : Cond.methodLink RX11 192 yX11_isRule ∈ wsU := wsU_at 1225 rfl rfl
set_option maxRecDepth 100000 in
theorem wd_1136 : Cond.instanceMethod yX11_isRule ∈ wsU := wsU_at 1227 rfl rfl
set_option maxRecDepth 100000 in
theorem wd_1137 : Cond.selects RX11 yX11_isRule yX11_isRule ∈ wsU := wsU_at 45 rfl rfl
set_option maxRecDepth 100000 in
theorem wd_1138 : Cond.code yX11_isRule cX11_isRule 2 (some .boolean) ∈ wsU := wsU_at 1228 rfl rfl
set_option maxRecDepth 100000 in
theorem wd_1143 : Cond.methodLink RL 82 yX12_order ∈ wsU := wsU_at 1741 rfl rfl
set_option maxRecDepth 100000 in
theorem wd_1144 : Cond.instanceMethod yX12_order ∈ wsU := wsU_at 1742 rfl rfl
set_option maxRecDepth 100000 in
theorem wd_1145 : Cond.selects RX12 yX12_order yX12_order ∈ wsU := wsU_at 1743 rfl rfl
set_option maxRecDepth 100000 in
theorem wd_1146 : Cond.code yX12_order cX12_order 4 (some .boolean) ∈ wsU := wsU_at 1744 rfl rfl
set_option maxRecDepth 100000 in
theorem wd_1147 : Cond.methodLink RL 83 yX11_lives ∈ wsU := wsU_at 1233 rfl rfl
set_option maxRecDepth 100000 in
theorem wd_1148 : Cond.instanceMethod yX11_lives ∈ wsU := wsU_at 1234 rfl rfl
set_option maxRecDepth 100000 in
theorem wd_1149 : Cond.selects RX11 yX11_lives yX11_lives ∈ wsU := wsU_at 1235 rfl rfl
set_option maxRecDepth 100000 in
theorem wd_1150 : Cond.code yX11_lives cX11_lives 8 (some .int) ∈ wsU := wsU_at 1236 rfl rfl
set_option maxRecDepth 100000 in
theorem wd_1151 : Cond.fieldLink RX11 201 "SaidShallow$Tongue" "letterCount" "I" ∈ wsU := wsU_at 280 rfl rfl
set_option maxRecDepth 100000 in
theorem wd_1165 : Cond.methodLink RL 87 yX12_lives ∈ wsU := wsU_at 1961 rfl rfl
set_option maxRecDepth 100000 in
theorem wd_1166 : Cond.instanceMethod yX12_lives ∈ wsU := wsU_at 1962 rfl rfl
set_option maxRecDepth 100000 in
theorem wd_1167 : Cond.selects RX12 yX12_lives yX12_lives ∈ wsU := wsU_at 1963 rfl rfl
set_option maxRecDepth 100000 in
theorem wd_1168 : Cond.code yX12_lives cX12_lives 6 (some .int) ∈ wsU := wsU_at 1964 rfl rfl
set_option maxRecDepth 100000 in
theorem wd_1169 : Cond.methodLink RX12 392 yX12_wordsUpTo ∈ wsU := wsU_at 1930 rfl rfl
set_option maxRecDepth 100000 in
theorem wd_1170 : Cond.instanceMethod yX12_wordsUpTo ∈ wsU := wsU_at 1932 rfl rfl
set_option maxRecDepth 100000 in
theorem wd_1171 : Cond.selects RX12 yX12_wordsUpTo yX12_wordsUpTo ∈ wsU := wsU_at 113 rfl rfl
set_option maxRecDepth 100000 in
theorem wd_1172 : Cond.code yX12_wordsUpTo cX12_wordsUpTo 5 (some .int) ∈ wsU := wsU_at 1933 rfl rfl
set_option maxRecDepth 100000 in
theorem wd_1177 : Cond.methodLink RL 88 yX11_orders ∈ wsU := wsU_at 1249 rfl rfl
set_option maxRecDepth 100000 in
theorem wd_1178 : Cond.instanceMethod yX11_orders ∈ wsU := wsU_at 1250 rfl rfl
set_option maxRecDepth 100000 in
theorem wd_1179 : Cond.selects RX11 yX11_orders yX11_orders ∈ wsU := wsU_at 1251 rfl rfl
set_option maxRecDepth 100000 in
theorem wd_1180 : Cond.code yX11_orders cX11_orders 5 (some .int) ∈ wsU := wsU_at 1252 rfl rfl
set_option maxRecDepth 100000 in
theorem wd_1182 : Cond.fieldLink RX11 224 "SaidShallow$BestOrder" "bestAgreed" "I" ∈ wsU := wsU_at 585 rfl rfl
set_option maxRecDepth 100000 in
theorem wd_1183 : Cond.methodLink RX11 212 yJ6_bitCount_0f7a4 ∈ wsU := wsU_at 1253 rfl rfl
set_option maxRecDepth 100000 in
theorem wd_1184 : Cond.static yJ6_bitCount_0f7a4 ∈ wsU := wsU_at 1254 rfl rfl
set_option maxRecDepth 100000 in
theorem wd_1185 : Cond.initialized RJ6 ∈ wsU := wsU_at 143 rfl rfl
set_option maxRecDepth 100000 in
theorem wd_1186 : Cond.code yJ6_bitCount_0f7a4 cJ6_bitCount_0f7a4 1 (some .int) ∈ wsU := wsU_at 1255 rfl rfl
set_option maxRecDepth 100000 in
theorem wd_1187 : Cond.constant RJ6 265 (1431655765) ∈ wsU := wsU_at 1256 rfl rfl
set_option maxRecDepth 100000 in
theorem wd_1188 : Cond.constant RJ6 266 (858993459) ∈ wsU := wsU_at 1257 rfl rfl
set_option maxRecDepth 100000 in
theorem wd_1189 : Cond.constant RJ6 267 (252645135) ∈ wsU := wsU_at 1258 rfl rfl
set_option maxRecDepth 100000 in
theorem wd_1190 : Cond.methodLink RX11 217 yX0_refresh ∈ wsU := wsU_at 1259 rfl rfl
set_option maxRecDepth 100000 in
theorem wd_1191 : Cond.instanceMethod yX0_refresh ∈ wsU := wsU_at 1260 rfl rfl
set_option maxRecDepth 100000 in
theorem wd_1192 : Cond.selects RX0 yX0_refresh yX0_refresh ∈ wsU := wsU_at 1261 rfl rfl
set_option maxRecDepth 100000 in
theorem wd_1193 : Cond.code yX0_refresh cX0_refresh 6 none ∈ wsU := wsU_at 1262 rfl rfl
set_option maxRecDepth 100000 in
theorem wd_1194 : Cond.fieldLink RX0 37 "SaidShallow$BestOrder" "knownLength" "I" ∈ wsU := wsU_at 587 rfl rfl
set_option maxRecDepth 100000 in
theorem wd_1195 : Cond.fieldLink RX0 40 "SaidShallow$BestOrder" "ordered" "I" ∈ wsU := wsU_at 579 rfl rfl
set_option maxRecDepth 100000 in
theorem wd_1196 : Cond.fieldLink RX0 43 "SaidShallow$Rows" "tongue" "LSaidShallow$Tongue;" ∈ wsU := wsU_at 424 rfl rfl
set_option maxRecDepth 100000 in
theorem wd_1197 : Cond.fieldLink RX0 49 "SaidShallow$Tongue" "ruleCount" "I" ∈ wsU := wsU_at 310 rfl rfl
set_option maxRecDepth 100000 in
theorem wd_1199 : Cond.fieldLink RX0 66 "SaidShallow$BestOrder" "bestAgreed" "I" ∈ wsU := wsU_at 584 rfl rfl
set_option maxRecDepth 100000 in
theorem wd_1204 : Cond.fieldLink RX0 73 "SaidShallow$Tongue" "letterCount" "I" ∈ wsU := wsU_at 278 rfl rfl
set_option maxRecDepth 100000 in
theorem wd_1209 : Cond.methodLink RX0 62 yX0_fillAgrees ∈ wsU := wsU_at 1271 rfl rfl
set_option maxRecDepth 100000 in
theorem wd_1210 : Cond.instanceMethod yX0_fillAgrees ∈ wsU := wsU_at 1273 rfl rfl
set_option maxRecDepth 100000 in
theorem wd_1211 : Cond.selects RX0 yX0_fillAgrees yX0_fillAgrees ∈ wsU := wsU_at 47 rfl rfl
set_option maxRecDepth 100000 in
theorem wd_1212 : Cond.code yX0_fillAgrees cX0_fillAgrees 7 none ∈ wsU := wsU_at 1274 rfl rfl
set_option maxRecDepth 100000 in
theorem wd_1214 : Cond.methodLink RX0 84 yJ7_fill_53178 ∈ wsU := wsU_at 1275 rfl rfl
set_option maxRecDepth 100000 in
theorem wd_1224 : Cond.methodLink RX0 69 yX0_tryOrders ∈ wsU := wsU_at 1283 rfl rfl
set_option maxRecDepth 100000 in
theorem wd_1225 : Cond.instanceMethod yX0_tryOrders ∈ wsU := wsU_at 1285 rfl rfl
set_option maxRecDepth 100000 in
theorem wd_1226 : Cond.selects RX0 yX0_tryOrders yX0_tryOrders ∈ wsU := wsU_at 49 rfl rfl
set_option maxRecDepth 100000 in
theorem wd_1227 : Cond.code yX0_tryOrders cX0_tryOrders 6 none ∈ wsU := wsU_at 1286 rfl rfl
set_option maxRecDepth 100000 in
theorem wd_1228 : Cond.methodLink RX0 115 yX0_judge ∈ wsU := wsU_at 1287 rfl rfl
set_option maxRecDepth 100000 in
theorem wd_1229 : Cond.instanceMethod yX0_judge ∈ wsU := wsU_at 1289 rfl rfl
set_option maxRecDepth 100000 in
theorem wd_1230 : Cond.selects RX0 yX0_judge yX0_judge ∈ wsU := wsU_at 50 rfl rfl
set_option maxRecDepth 100000 in
theorem wd_1231 : Cond.code yX0_judge cX0_judge 4 none ∈ wsU := wsU_at 1290 rfl rfl
set_option maxRecDepth 100000 in
theorem wd_1232 : Cond.methodLink RX0 119 arraycopyName ∈ wsU := wsU_at 1291 rfl rfl
set_option maxRecDepth 100000 in
theorem wd_1233 : Cond.methodLink RX11 227 yX0_wordCount ∈ wsU := wsU_at 1292 rfl rfl
set_option maxRecDepth 100000 in
theorem wd_1234 : Cond.instanceMethod yX0_wordCount ∈ wsU := wsU_at 1293 rfl rfl
set_option maxRecDepth 100000 in
theorem wd_1235 : Cond.selects RX0 yX0_wordCount yX0_wordCount ∈ wsU := wsU_at 1294 rfl rfl
set_option maxRecDepth 100000 in
theorem wd_1236 : Cond.code yX0_wordCount cX0_wordCount 2 (some .int) ∈ wsU := wsU_at 1295 rfl rfl
set_option maxRecDepth 100000 in
theorem wd_1237 : Cond.methodLink RL 91 yX12_orders ∈ wsU := wsU_at 1965 rfl rfl
set_option maxRecDepth 100000 in
theorem wd_1238 : Cond.instanceMethod yX12_orders ∈ wsU := wsU_at 1966 rfl rfl
set_option maxRecDepth 100000 in
theorem wd_1239 : Cond.selects RX12 yX12_orders yX12_orders ∈ wsU := wsU_at 1967 rfl rfl
set_option maxRecDepth 100000 in
theorem wd_1240 : Cond.code yX12_orders cX12_orders 6 (some .int) ∈ wsU := wsU_at 1968 rfl rfl
set_option maxRecDepth 100000 in
theorem wd_1241 : Cond.fieldLink RX12 410 "SaidShallowModel" "usedMany" "I" ∈ wsU := wsU_at 1501 rfl rfl
set_option maxRecDepth 100000 in
theorem wd_1242 : Cond.fieldLink RX12 416 "SaidShallowModel" "mostAgree" "I" ∈ wsU := wsU_at 1502 rfl rfl
set_option maxRecDepth 100000 in
theorem wd_1247 : Cond.methodLink RX12 419 yX12_triesOrders ∈ wsU := wsU_at 1969 rfl rfl
set_option maxRecDepth 100000 in
theorem wd_1248 : Cond.instanceMethod yX12_triesOrders ∈ wsU := wsU_at 1971 rfl rfl
set_option maxRecDepth 100000 in
theorem wd_1249 : Cond.selects RX12 yX12_triesOrders yX12_triesOrders ∈ wsU := wsU_at 118 rfl rfl
set_option maxRecDepth 100000 in
theorem wd_1250 : Cond.code yX12_triesOrders cX12_triesOrders 5 none ∈ wsU := wsU_at 1972 rfl rfl
set_option maxRecDepth 100000 in
theorem wd_1251 : Cond.methodLink RX12 413 yX12_agreeing ∈ wsU := wsU_at 1973 rfl rfl
set_option maxRecDepth 100000 in
theorem wd_1252 : Cond.instanceMethod yX12_agreeing ∈ wsU := wsU_at 1975 rfl rfl
set_option maxRecDepth 100000 in
theorem wd_1253 : Cond.selects RX12 yX12_agreeing yX12_agreeing ∈ wsU := wsU_at 119 rfl rfl
set_option maxRecDepth 100000 in
theorem wd_1254 : Cond.code yX12_agreeing cX12_agreeing 6 (some .int) ∈ wsU := wsU_at 1976 rfl rfl
set_option maxRecDepth 100000 in
theorem wd_1255 : Cond.methodLink RL 92 yX11_quarrel ∈ wsU := wsU_at 1296 rfl rfl
set_option maxRecDepth 100000 in
theorem wd_1256 : Cond.instanceMethod yX11_quarrel ∈ wsU := wsU_at 1297 rfl rfl
set_option maxRecDepth 100000 in
theorem wd_1257 : Cond.selects RX11 yX11_quarrel yX11_quarrel ∈ wsU := wsU_at 1298 rfl rfl
set_option maxRecDepth 100000 in
theorem wd_1258 : Cond.code yX11_quarrel cX11_quarrel 5 (some .int) ∈ wsU := wsU_at 1299 rfl rfl
set_option maxRecDepth 100000 in
theorem wd_1259 : Cond.fieldLink RX11 234 "SaidShallow$Tongue" "pairCount" "I" ∈ wsU := wsU_at 296 rfl rfl
set_option maxRecDepth 100000 in
theorem wd_1285 : Cond.methodLink RL 95 yX12_quarrel ∈ wsU := wsU_at 1898 rfl rfl
set_option maxRecDepth 100000 in
theorem wd_1286 : Cond.instanceMethod yX12_quarrel ∈ wsU := wsU_at 1899 rfl rfl
set_option maxRecDepth 100000 in
theorem wd_1287 : Cond.selects RX12 yX12_quarrel yX12_quarrel ∈ wsU := wsU_at 1900 rfl rfl
set_option maxRecDepth 100000 in
theorem wd_1288 : Cond.code yX12_quarrel cX12_quarrel 8 (some .int) ∈ wsU := wsU_at 1901 rfl rfl
set_option maxRecDepth 100000 in
theorem wd_1289 : Cond.methodLink RX12 380 yX12_isRule ∈ wsU := wsU_at 1902 rfl rfl
set_option maxRecDepth 100000 in
theorem wd_1290 : Cond.instanceMethod yX12_isRule ∈ wsU := wsU_at 1904 rfl rfl
set_option maxRecDepth 100000 in
theorem wd_1291 : Cond.selects RX12 yX12_isRule yX12_isRule ∈ wsU := wsU_at 107 rfl rfl
set_option maxRecDepth 100000 in
theorem wd_1292 : Cond.code yX12_isRule cX12_isRule 2 (some .boolean) ∈ wsU := wsU_at 1905 rfl rfl
set_option maxRecDepth 100000 in
theorem wd_1309 : Cond.methodLink RL 96 yX11_parts ∈ wsU := wsU_at 1325 rfl rfl
set_option maxRecDepth 100000 in
theorem wd_1310 : Cond.instanceMethod yX11_parts ∈ wsU := wsU_at 1326 rfl rfl
set_option maxRecDepth 100000 in
theorem wd_1311 : Cond.selects RX11 yX11_parts yX11_parts ∈ wsU := wsU_at 1327 rfl rfl
set_option maxRecDepth 100000 in
theorem wd_1312 : Cond.code yX11_parts cX11_parts 4 (some .int) ∈ wsU := wsU_at 1328 rfl rfl
set_option maxRecDepth 100000 in
theorem wd_1313 : Cond.methodLink RX11 241 yX11_firstParted ∈ wsU := wsU_at 1329 rfl rfl
set_option maxRecDepth 100000 in
theorem wd_1314 : Cond.instanceMethod yX11_firstParted ∈ wsU := wsU_at 1331 rfl rfl
set_option maxRecDepth 100000 in
theorem wd_1315 : Cond.selects RX11 yX11_firstParted yX11_firstParted ∈ wsU := wsU_at 53 rfl rfl
set_option maxRecDepth 100000 in
theorem wd_1316 : Cond.code yX11_firstParted cX11_firstParted 8 (some .int) ∈ wsU := wsU_at 1332 rfl rfl
set_option maxRecDepth 100000 in
theorem wd_1330 : Cond.methodLink RL 99 yX12_parts ∈ wsU := wsU_at 1922 rfl rfl
set_option maxRecDepth 100000 in
theorem wd_1331 : Cond.instanceMethod yX12_parts ∈ wsU := wsU_at 1923 rfl rfl
set_option maxRecDepth 100000 in
theorem wd_1332 : Cond.selects RX12 yX12_parts yX12_parts ∈ wsU := wsU_at 1924 rfl rfl
set_option maxRecDepth 100000 in
theorem wd_1333 : Cond.code yX12_parts cX12_parts 4 (some .int) ∈ wsU := wsU_at 1925 rfl rfl
set_option maxRecDepth 100000 in
theorem wd_1334 : Cond.methodLink RX12 401 yX12_partsOf ∈ wsU := wsU_at 1926 rfl rfl
set_option maxRecDepth 100000 in
theorem wd_1335 : Cond.instanceMethod yX12_partsOf ∈ wsU := wsU_at 1928 rfl rfl
set_option maxRecDepth 100000 in
theorem wd_1336 : Cond.selects RX12 yX12_partsOf yX12_partsOf ∈ wsU := wsU_at 112 rfl rfl
set_option maxRecDepth 100000 in
theorem wd_1337 : Cond.code yX12_partsOf cX12_partsOf 6 (some .int) ∈ wsU := wsU_at 1929 rfl rfl
set_option maxRecDepth 100000 in
theorem wd_1342 : Cond.methodLink RL 100 yX11_idle ∈ wsU := wsU_at 1346 rfl rfl
set_option maxRecDepth 100000 in
theorem wd_1343 : Cond.instanceMethod yX11_idle ∈ wsU := wsU_at 1347 rfl rfl
set_option maxRecDepth 100000 in
theorem wd_1344 : Cond.selects RX11 yX11_idle yX11_idle ∈ wsU := wsU_at 1348 rfl rfl
set_option maxRecDepth 100000 in
theorem wd_1345 : Cond.code yX11_idle cX11_idle 4 (some .int) ∈ wsU := wsU_at 1349 rfl rfl
set_option maxRecDepth 100000 in
theorem wd_1346 : Cond.methodLink RL 103 yX12_idle ∈ wsU := wsU_at 1946 rfl rfl
set_option maxRecDepth 100000 in
theorem wd_1347 : Cond.instanceMethod yX12_idle ∈ wsU := wsU_at 1947 rfl rfl
set_option maxRecDepth 100000 in
theorem wd_1348 : Cond.selects RX12 yX12_idle yX12_idle ∈ wsU := wsU_at 1948 rfl rfl
set_option maxRecDepth 100000 in
theorem wd_1349 : Cond.code yX12_idle cX12_idle 3 (some .int) ∈ wsU := wsU_at 1949 rfl rfl
set_option maxRecDepth 100000 in
theorem wd_1350 : Cond.methodLink RX12 404 yX12_isUsed ∈ wsU := wsU_at 1950 rfl rfl
set_option maxRecDepth 100000 in
theorem wd_1351 : Cond.instanceMethod yX12_isUsed ∈ wsU := wsU_at 1952 rfl rfl
set_option maxRecDepth 100000 in
theorem wd_1352 : Cond.selects RX12 yX12_isUsed yX12_isUsed ∈ wsU := wsU_at 117 rfl rfl
set_option maxRecDepth 100000 in
theorem wd_1353 : Cond.code yX12_isUsed cX12_isUsed 2 (some .boolean) ∈ wsU := wsU_at 1953 rfl rfl
set_option maxRecDepth 100000 in
theorem wd_1354 : Cond.methodLink RL 104 yX11_fewest ∈ wsU := wsU_at 1350 rfl rfl
set_option maxRecDepth 100000 in
theorem wd_1355 : Cond.instanceMethod yX11_fewest ∈ wsU := wsU_at 1351 rfl rfl
set_option maxRecDepth 100000 in
theorem wd_1356 : Cond.selects RX11 yX11_fewest yX11_fewest ∈ wsU := wsU_at 1352 rfl rfl
set_option maxRecDepth 100000 in
theorem wd_1357 : Cond.code yX11_fewest cX11_fewest 5 (some .int) ∈ wsU := wsU_at 1353 rfl rfl
set_option maxRecDepth 100000 in
theorem wd_1358 : Cond.methodLink RX11 245 yX3_clearNeeded ∈ wsU := wsU_at 1354 rfl rfl
set_option maxRecDepth 100000 in
theorem wd_1359 : Cond.instanceMethod yX3_clearNeeded ∈ wsU := wsU_at 1355 rfl rfl
set_option maxRecDepth 100000 in
theorem wd_1360 : Cond.selects RX3 yX3_clearNeeded yX3_clearNeeded ∈ wsU := wsU_at 1356 rfl rfl
set_option maxRecDepth 100000 in
theorem wd_1361 : Cond.code yX3_clearNeeded cX3_clearNeeded 1 none ∈ wsU := wsU_at 1357 rfl rfl
set_option maxRecDepth 100000 in
theorem wd_1362 : Cond.methodLink RX3 197 yJ7_fill_53178 ∈ wsU := wsU_at 1358 rfl rfl
set_option maxRecDepth 100000 in
theorem wd_1367 : Cond.methodLink RX11 251 yX3_leastThatMeetsNeeds ∈ wsU := wsU_at 1363 rfl rfl
set_option maxRecDepth 100000 in
theorem wd_1368 : Cond.instanceMethod yX3_leastThatMeetsNeeds ∈ wsU := wsU_at 1364 rfl rfl
set_option maxRecDepth 100000 in
theorem wd_1369 : Cond.selects RX3 yX3_leastThatMeetsNeeds yX3_leastThatMeetsNeeds ∈ wsU := wsU_at 1365 rfl rfl
set_option maxRecDepth 100000 in
theorem wd_1370 : Cond.code yX3_leastThatMeetsNeeds cX3_leastThatMeetsNeeds 5 (some .int) ∈ wsU := wsU_at 1366 rfl rfl
set_option maxRecDepth 100000 in
theorem wd_1371 : Cond.methodLink RX3 203 yJ6_bitCount_0f7a4 ∈ wsU := wsU_at 1367 rfl rfl
set_option maxRecDepth 100000 in
theorem wd_1376 : Cond.methodLink RL 107 yX12_fewest ∈ wsU := wsU_at 1954 rfl rfl
set_option maxRecDepth 100000 in
theorem wd_1377 : Cond.instanceMethod yX12_fewest ∈ wsU := wsU_at 1955 rfl rfl
set_option maxRecDepth 100000 in
theorem wd_1378 : Cond.selects RX12 yX12_fewest yX12_fewest ∈ wsU := wsU_at 1956 rfl rfl
set_option maxRecDepth 100000 in
theorem wd_1379 : Cond.code yX12_fewest cX12_fewest 5 (some .int) ∈ wsU := wsU_at 1957 rfl rfl
set_option maxRecDepth 100000 in
theorem wd_1380 : Cond.methodLink RX12 407 yX12_count ∈ wsU := wsU_at 1958 rfl rfl
set_option maxRecDepth 100000 in
theorem wd_1381 : Cond.static yX12_count ∈ wsU := wsU_at 1959 rfl rfl
set_option maxRecDepth 100000 in
theorem wd_1382 : Cond.code yX12_count cX12_count 3 (some .int) ∈ wsU := wsU_at 1960 rfl rfl
set_option maxRecDepth 100000 in
theorem wd_1383 : Cond.methodLink RL 108 yX11_example ∈ wsU := wsU_at 1372 rfl rfl
set_option maxRecDepth 100000 in
theorem wd_1384 : Cond.instanceMethod yX11_example ∈ wsU := wsU_at 1373 rfl rfl
set_option maxRecDepth 100000 in
theorem wd_1385 : Cond.selects RX11 yX11_example yX11_example ∈ wsU := wsU_at 1374 rfl rfl
set_option maxRecDepth 100000 in
theorem wd_1386 : Cond.code yX11_example cX11_example 6 (some .int) ∈ wsU := wsU_at 1375 rfl rfl
set_option maxRecDepth 100000 in
theorem wd_1387 : Cond.fieldLink RX11 254 "SaidShallow$Standing" "deeps" "LSaidShallow$WordList;" ∈ wsU := wsU_at 500 rfl rfl
set_option maxRecDepth 100000 in
theorem wd_1389 : Cond.methodLink RX11 257 yX11_placeOfColon ∈ wsU := wsU_at 1376 rfl rfl
set_option maxRecDepth 100000 in
theorem wd_1390 : Cond.instanceMethod yX11_placeOfColon ∈ wsU := wsU_at 1378 rfl rfl
set_option maxRecDepth 100000 in
theorem wd_1391 : Cond.selects RX11 yX11_placeOfColon yX11_placeOfColon ∈ wsU := wsU_at 57 rfl rfl
set_option maxRecDepth 100000 in
theorem wd_1392 : Cond.code yX11_placeOfColon cX11_placeOfColon 3 (some .int) ∈ wsU := wsU_at 1379 rfl rfl
set_option maxRecDepth 100000 in
theorem wd_1397 : Cond.fieldLink RX6 59 "SaidShallow$WordList" "count" "I" ∈ wsU := wsU_at 176 rfl rfl
set_option maxRecDepth 100000 in
theorem wd_1400 : Cond.methodLink RL 112 yX12_example ∈ wsU := wsU_at 1977 rfl rfl
set_option maxRecDepth 100000 in
theorem wd_1401 : Cond.instanceMethod yX12_example ∈ wsU := wsU_at 1978 rfl rfl
set_option maxRecDepth 100000 in
theorem wd_1402 : Cond.selects RX12 yX12_example yX12_example ∈ wsU := wsU_at 1979 rfl rfl
set_option maxRecDepth 100000 in
theorem wd_1403 : Cond.code yX12_example cX12_example 7 (some .int) ∈ wsU := wsU_at 1980 rfl rfl
set_option maxRecDepth 100000 in
theorem wd_1404 : Cond.methodLink RL 113 yX11_fits ∈ wsU := wsU_at 1386 rfl rfl
set_option maxRecDepth 100000 in
theorem wd_1405 : Cond.instanceMethod yX11_fits ∈ wsU := wsU_at 1387 rfl rfl
set_option maxRecDepth 100000 in
theorem wd_1406 : Cond.selects RX11 yX11_fits yX11_fits ∈ wsU := wsU_at 1388 rfl rfl
set_option maxRecDepth 100000 in
theorem wd_1407 : Cond.code yX11_fits cX11_fits 2 (some .int) ∈ wsU := wsU_at 1389 rfl rfl
set_option maxRecDepth 100000 in
theorem wd_1408 : Cond.methodLink RX11 277 yX6_study ∈ wsU := wsU_at 1390 rfl rfl
set_option maxRecDepth 100000 in
theorem wd_1409 : Cond.instanceMethod yX6_study ∈ wsU := wsU_at 1391 rfl rfl
set_option maxRecDepth 100000 in
theorem wd_1410 : Cond.selects RX6 yX6_study yX6_study ∈ wsU := wsU_at 1392 rfl rfl
set_option maxRecDepth 100000 in
theorem wd_1411 : Cond.code yX6_study cX6_study 7 none ∈ wsU := wsU_at 1393 rfl rfl
set_option maxRecDepth 100000 in
theorem wd_1416 : Cond.methodLink RX11 281 yX6_firstUntrue ∈ wsU := wsU_at 1397 rfl rfl
set_option maxRecDepth 100000 in
theorem wd_1417 : Cond.instanceMethod yX6_firstUntrue ∈ wsU := wsU_at 1398 rfl rfl
set_option maxRecDepth 100000 in
theorem wd_1418 : Cond.selects RX6 yX6_firstUntrue yX6_firstUntrue ∈ wsU := wsU_at 1399 rfl rfl
set_option maxRecDepth 100000 in
theorem wd_1419 : Cond.code yX6_firstUntrue cX6_firstUntrue 5 (some .int) ∈ wsU := wsU_at 1400 rfl rfl
set_option maxRecDepth 100000 in
theorem wd_1420 : Cond.methodLink RL 116 yX12_fits ∈ wsU := wsU_at 1981 rfl rfl
set_option maxRecDepth 100000 in
theorem wd_1421 : Cond.instanceMethod yX12_fits ∈ wsU := wsU_at 1982 rfl rfl
set_option maxRecDepth 100000 in
theorem wd_1422 : Cond.selects RX12 yX12_fits yX12_fits ∈ wsU := wsU_at 1983 rfl rfl
set_option maxRecDepth 100000 in
theorem wd_1423 : Cond.code yX12_fits cX12_fits 2 (some .int) ∈ wsU := wsU_at 1984 rfl rfl
set_option maxRecDepth 100000 in
theorem wd_1424 : Cond.methodLink RX12 425 yX12_firstWrong ∈ wsU := wsU_at 1985 rfl rfl
set_option maxRecDepth 100000 in
theorem wd_1425 : Cond.instanceMethod yX12_firstWrong ∈ wsU := wsU_at 1987 rfl rfl
set_option maxRecDepth 100000 in
theorem wd_1426 : Cond.selects RX12 yX12_firstWrong yX12_firstWrong ∈ wsU := wsU_at 120 rfl rfl
set_option maxRecDepth 100000 in
theorem wd_1427 : Cond.code yX12_firstWrong cX12_firstWrong 3 (some .int) ∈ wsU := wsU_at 1988 rfl rfl
set_option maxRecDepth 100000 in
theorem wd_1432 : Cond.methodLink RL 117 yX11_learn ∈ wsU := wsU_at 1401 rfl rfl
set_option maxRecDepth 100000 in
theorem wd_1433 : Cond.instanceMethod yX11_learn ∈ wsU := wsU_at 1402 rfl rfl
set_option maxRecDepth 100000 in
theorem wd_1434 : Cond.selects RX11 yX11_learn yX11_learn ∈ wsU := wsU_at 1403 rfl rfl
set_option maxRecDepth 100000 in
theorem wd_1435 : Cond.code yX11_learn cX11_learn 1 (some .int) ∈ wsU := wsU_at 1404 rfl rfl
set_option maxRecDepth 100000 in
theorem wd_1436 : Cond.methodLink RX11 284 yX6_leastTrue ∈ wsU := wsU_at 1405 rfl rfl
set_option maxRecDepth 100000 in
theorem wd_1437 : Cond.instanceMethod yX6_leastTrue ∈ wsU := wsU_at 1406 rfl rfl
set_option maxRecDepth 100000 in
theorem wd_1438 : Cond.selects RX6 yX6_leastTrue yX6_leastTrue ∈ wsU := wsU_at 1407 rfl rfl
set_option maxRecDepth 100000 in
theorem wd_1439 : Cond.code yX6_leastTrue cX6_leastTrue 5 (some .int) ∈ wsU := wsU_at 1408 rfl rfl
set_option maxRecDepth 100000 in
theorem wd_1440 : Cond.methodLink RX6 82 yJ6_bitCount_0f7a4 ∈ wsU := wsU_at 1409 rfl rfl
set_option maxRecDepth 100000 in
theorem wd_1441 : Cond.methodLink RX6 88 yX6_firstUntrue ∈ wsU := wsU_at 1410 rfl rfl
set_option maxRecDepth 100000 in
theorem wd_1442 : Cond.methodLink RL 120 yX12_learn ∈ wsU := wsU_at 1993 rfl rfl
set_option maxRecDepth 100000 in
theorem wd_1443 : Cond.instanceMethod yX12_learn ∈ wsU := wsU_at 1994 rfl rfl
set_option maxRecDepth 100000 in
theorem wd_1444 : Cond.selects RX12 yX12_learn yX12_learn ∈ wsU := wsU_at 1995 rfl rfl
set_option maxRecDepth 100000 in
theorem wd_1445 : Cond.code yX12_learn cX12_learn 3 (some .int) ∈ wsU := wsU_at 1996 rfl rfl
set_option maxRecDepth 100000 in
theorem wd_1446 : Cond.methodLink RL 121 yX11_forced ∈ wsU := wsU_at 1411 rfl rfl
set_option maxRecDepth 100000 in
theorem wd_1447 : Cond.instanceMethod yX11_forced ∈ wsU := wsU_at 1412 rfl rfl
set_option maxRecDepth 100000 in
theorem wd_1448 : Cond.selects RX11 yX11_forced yX11_forced ∈ wsU := wsU_at 1413 rfl rfl
set_option maxRecDepth 100000 in
theorem wd_1449 : Cond.code yX11_forced cX11_forced 3 (some .int) ∈ wsU := wsU_at 1414 rfl rfl
set_option maxRecDepth 100000 in
theorem wd_1451 : Cond.methodLink RL 124 yX12_forced ∈ wsU := wsU_at 1997 rfl rfl
set_option maxRecDepth 100000 in
theorem wd_1452 : Cond.instanceMethod yX12_forced ∈ wsU := wsU_at 1998 rfl rfl
set_option maxRecDepth 100000 in
theorem wd_1453 : Cond.selects RX12 yX12_forced yX12_forced ∈ wsU := wsU_at 1999 rfl rfl
set_option maxRecDepth 100000 in
theorem wd_1454 : Cond.code yX12_forced cX12_forced 3 (some .int) ∈ wsU := wsU_at 2000 rfl rfl
set_option maxRecDepth 100000 in
theorem wd_1455 : Cond.methodLink RX12 428 yX12_learn ∈ wsU := wsU_at 2001 rfl rfl
set_option maxRecDepth 100000 in
theorem wd_1456 : Cond.methodLink RL 125 yX11_rule ∈ wsU := wsU_at 1416 rfl rfl
set_option maxRecDepth 100000 in
theorem wd_1457 : Cond.instanceMethod yX11_rule ∈ wsU := wsU_at 1417 rfl rfl
set_option maxRecDepth 100000 in
theorem wd_1458 : Cond.selects RX11 yX11_rule yX11_rule ∈ wsU := wsU_at 1418 rfl rfl
set_option maxRecDepth 100000 in
theorem wd_1459 : Cond.code yX11_rule cX11_rule 4 (some .int) ∈ wsU := wsU_at 1419 rfl rfl
set_option maxRecDepth 100000 in
theorem wd_1464 : Cond.methodLink RL 128 yX12_rule ∈ wsU := wsU_at 2002 rfl rfl
set_option maxRecDepth 100000 in
theorem wd_1465 : Cond.instanceMethod yX12_rule ∈ wsU := wsU_at 2003 rfl rfl
set_option maxRecDepth 100000 in
theorem wd_1466 : Cond.selects RX12 yX12_rule yX12_rule ∈ wsU := wsU_at 2004 rfl rfl
set_option maxRecDepth 100000 in
theorem wd_1467 : Cond.code yX12_rule cX12_rule 3 (some .int) ∈ wsU := wsU_at 2005 rfl rfl
set_option maxRecDepth 100000 in
theorem wd_1468 : Cond.methodLink RL 129 yX11_image ∈ wsU := wsU_at 1420 rfl rfl
set_option maxRecDepth 100000 in
theorem wd_1469 : Cond.instanceMethod yX11_image ∈ wsU := wsU_at 1421 rfl rfl
set_option maxRecDepth 100000 in
theorem wd_1470 : Cond.selects RX11 yX11_image yX11_image ∈ wsU := wsU_at 1422 rfl rfl
set_option maxRecDepth 100000 in
theorem wd_1471 : Cond.code yX11_image cX11_image 2 (some .boolean) ∈ wsU := wsU_at 1423 rfl rfl
set_option maxRecDepth 100000 in
theorem wd_1472 : Cond.fieldLink RX11 305 "SaidShallow" "imageTaken" "Z" ∈ wsU := wsU_at 620 rfl rfl
set_option maxRecDepth 100000 in
theorem wd_1473 : Cond.methodLink RX11 302 yX6_copyFrom ∈ wsU := wsU_at 1424 rfl rfl
set_option maxRecDepth 100000 in
theorem wd_1474 : Cond.instanceMethod yX6_copyFrom ∈ wsU := wsU_at 1425 rfl rfl
set_option maxRecDepth 100000 in
theorem wd_1475 : Cond.selects RX6 yX6_copyFrom yX6_copyFrom ∈ wsU := wsU_at 1426 rfl rfl
set_option maxRecDepth 100000 in
theorem wd_1476 : Cond.code yX6_copyFrom cX6_copyFrom 2 none ∈ wsU := wsU_at 1427 rfl rfl
set_option maxRecDepth 100000 in
theorem wd_1477 : Cond.methodLink RX6 49 arraycopyName ∈ wsU := wsU_at 1428 rfl rfl
set_option maxRecDepth 100000 in
theorem wd_1478 : Cond.methodLink RX6 55 yX9_copyFrom ∈ wsU := wsU_at 1429 rfl rfl
set_option maxRecDepth 100000 in
theorem wd_1479 : Cond.methodLink RL 133 yX12_image ∈ wsU := wsU_at 2006 rfl rfl
set_option maxRecDepth 100000 in
theorem wd_1480 : Cond.instanceMethod yX12_image ∈ wsU := wsU_at 2007 rfl rfl
set_option maxRecDepth 100000 in
theorem wd_1481 : Cond.selects RX12 yX12_image yX12_image ∈ wsU := wsU_at 2008 rfl rfl
set_option maxRecDepth 100000 in
theorem wd_1482 : Cond.code yX12_image cX12_image 3 (some .boolean) ∈ wsU := wsU_at 2009 rfl rfl
set_option maxRecDepth 100000 in
theorem wd_1483 : Cond.fieldLink RX12 431 "SaidShallowModel" "hasImage" "Z" ∈ wsU := wsU_at 1452 rfl rfl
set_option maxRecDepth 100000 in
theorem wd_1484 : Cond.methodLink RL 134 yX11_look ∈ wsU := wsU_at 1430 rfl rfl
set_option maxRecDepth 100000 in
theorem wd_1485 : Cond.instanceMethod yX11_look ∈ wsU := wsU_at 1431 rfl rfl
set_option maxRecDepth 100000 in
theorem wd_1486 : Cond.selects RX11 yX11_look yX11_look ∈ wsU := wsU_at 1432 rfl rfl
set_option maxRecDepth 100000 in
theorem wd_1487 : Cond.code yX11_look cX11_look 2 (some .int) ∈ wsU := wsU_at 1433 rfl rfl
set_option maxRecDepth 100000 in
theorem wd_1488 : Cond.methodLink RX11 309 yX11_lookFurther ∈ wsU := wsU_at 1434 rfl rfl
set_option maxRecDepth 100000 in
theorem wd_1489 : Cond.instanceMethod yX11_lookFurther ∈ wsU := wsU_at 1436 rfl rfl
set_option maxRecDepth 100000 in
theorem wd_1490 : Cond.selects RX11 yX11_lookFurther yX11_lookFurther ∈ wsU := wsU_at 58 rfl rfl
set_option maxRecDepth 100000 in
theorem wd_1491 : Cond.code yX11_lookFurther cX11_lookFurther 2 (some .int) ∈ wsU := wsU_at 1437 rfl rfl
set_option maxRecDepth 100000 in
theorem wd_1492 : Cond.fieldLink RX11 312 "SaidShallow$Tongue" "classes" "[I" ∈ wsU := wsU_at 283 rfl rfl
set_option maxRecDepth 100000 in
theorem wd_1493 : Cond.methodLink RX11 315 yX9_lengthOf ∈ wsU := wsU_at 1438 rfl rfl
set_option maxRecDepth 100000 in
theorem wd_1494 : Cond.methodLink RL 137 yX12_look ∈ wsU := wsU_at 2010 rfl rfl
set_option maxRecDepth 100000 in
theorem wd_1495 : Cond.instanceMethod yX12_look ∈ wsU := wsU_at 2011 rfl rfl
set_option maxRecDepth 100000 in
theorem wd_1496 : Cond.selects RX12 yX12_look yX12_look ∈ wsU := wsU_at 2012 rfl rfl
set_option maxRecDepth 100000 in
theorem wd_1497 : Cond.code yX12_look cX12_look 2 (some .int) ∈ wsU := wsU_at 2013 rfl rfl
set_option maxRecDepth 100000 in
theorem inlX0 : ∀ w ∈ wsX00, w ∈ wsU := by
  show ∀ w ∈ [u_lay RX0 TX0 0, u_lay RX0 TX0 1, u_lay RX0 TX0 2, u_lay RX0 TX0 3, u_lay RX0 TX0 4, u_lay RX0 TX0 5, u_lay RX0 TX0 6, u_lay RX0 TX0 7, u_lay RX0 TX0 8, u_lay RX0 TX0 9, u_lay RX0 TX0 10], w ∈ wsU
  exact List.forall_mem_cons.mpr ⟨wsU_at (w := u_lay RX0 TX0 0) 589 rfl rfl, List.forall_mem_cons.mpr ⟨wsU_at (w := u_lay RX0 TX0 1) 591 rfl rfl, List.forall_mem_cons.mpr ⟨wsU_at (w := u_lay RX0 TX0 2) 593 rfl rfl, List.forall_mem_cons.mpr ⟨wsU_at (w := u_lay RX0 TX0 3) 595 rfl rfl, List.forall_mem_cons.mpr ⟨wsU_at (w := u_lay RX0 TX0 4) 597 rfl rfl, List.forall_mem_cons.mpr ⟨wsU_at (w := u_lay RX0 TX0 5) 599 rfl rfl, List.forall_mem_cons.mpr ⟨wsU_at (w := u_lay RX0 TX0 6) 601 rfl rfl, List.forall_mem_cons.mpr ⟨wsU_at (w := u_lay RX0 TX0 7) 603 rfl rfl, List.forall_mem_cons.mpr ⟨wsU_at (w := u_lay RX0 TX0 8) 605 rfl rfl, List.forall_mem_cons.mpr ⟨wsU_at (w := u_lay RX0 TX0 9) 607 rfl rfl, List.forall_mem_cons.mpr ⟨wsU_at (w := u_lay RX0 TX0 10) 609 rfl rfl, fun _ h => absurd h List.not_mem_nil⟩⟩⟩⟩⟩⟩⟩⟩⟩⟩⟩
set_option maxRecDepth 100000 in
theorem inlX1 : ∀ w ∈ wsX10, w ∈ wsU := by
  show ∀ w ∈ [u_lay RX1 TX1 0, u_lay RX1 TX1 1, u_lay RX1 TX1 2, u_lay RX1 TX1 3, u_lay RX1 TX1 4, u_lay RX1 TX1 5], w ∈ wsU
  exact List.forall_mem_cons.mpr ⟨wsU_at (w := u_lay RX1 TX1 0) 408 rfl rfl, List.forall_mem_cons.mpr ⟨wsU_at (w := u_lay RX1 TX1 1) 410 rfl rfl, List.forall_mem_cons.mpr ⟨wsU_at (w := u_lay RX1 TX1 2) 412 rfl rfl, List.forall_mem_cons.mpr ⟨wsU_at (w := u_lay RX1 TX1 3) 414 rfl rfl, List.forall_mem_cons.mpr ⟨wsU_at (w := u_lay RX1 TX1 4) 416 rfl rfl, List.forall_mem_cons.mpr ⟨wsU_at (w := u_lay RX1 TX1 5) 418 rfl rfl, fun _ h => absurd h List.not_mem_nil⟩⟩⟩⟩⟩⟩
set_option maxRecDepth 100000 in
theorem inlX2 : ∀ w ∈ wsX20, w ∈ wsU := by
  show ∀ w ∈ [u_lay RX2 TX2 0, u_lay RX2 TX2 1, u_lay RX2 TX2 2, u_lay RX2 TX2 3, u_lay RX2 TX2 4, u_lay RX2 TX2 5, u_lay RX2 TX2 6, u_lay RX2 TX2 7, u_lay RX2 TX2 8, u_lay RX2 TX2 9], w ∈ wsU
  exact List.forall_mem_cons.mpr ⟨wsU_at (w := u_lay RX2 TX2 0) 549 rfl rfl, List.forall_mem_cons.mpr ⟨wsU_at (w := u_lay RX2 TX2 1) 551 rfl rfl, List.forall_mem_cons.mpr ⟨wsU_at (w := u_lay RX2 TX2 2) 553 rfl rfl, List.forall_mem_cons.mpr ⟨wsU_at (w := u_lay RX2 TX2 3) 555 rfl rfl, List.forall_mem_cons.mpr ⟨wsU_at (w := u_lay RX2 TX2 4) 557 rfl rfl, List.forall_mem_cons.mpr ⟨wsU_at (w := u_lay RX2 TX2 5) 559 rfl rfl, List.forall_mem_cons.mpr ⟨wsU_at (w := u_lay RX2 TX2 6) 561 rfl rfl, List.forall_mem_cons.mpr ⟨wsU_at (w := u_lay RX2 TX2 7) 563 rfl rfl, List.forall_mem_cons.mpr ⟨wsU_at (w := u_lay RX2 TX2 8) 565 rfl rfl, List.forall_mem_cons.mpr ⟨wsU_at (w := u_lay RX2 TX2 9) 567 rfl rfl, fun _ h => absurd h List.not_mem_nil⟩⟩⟩⟩⟩⟩⟩⟩⟩⟩
set_option maxRecDepth 100000 in
theorem inlX3 : ∀ w ∈ wsX30, w ∈ wsU := by
  show ∀ w ∈ [u_lay RX3 TX3 0, u_lay RX3 TX3 1, u_lay RX3 TX3 2, u_lay RX3 TX3 3, u_lay RX3 TX3 4, u_lay RX3 TX3 5, u_lay RX3 TX3 6, u_lay RX3 TX3 7, u_lay RX3 TX3 8, u_lay RX3 TX3 9, u_lay RX3 TX3 10, u_lay RX3 TX3 11, u_lay RX3 TX3 12, u_lay RX3 TX3 13, u_lay RX3 TX3 14, u_lay RX3 TX3 15, u_lay RX3 TX3 16, u_lay RX3 TX3 17], w ∈ wsU
  exact List.forall_mem_cons.mpr ⟨wsU_at (w := u_lay RX3 TX3 0) 446 rfl rfl, List.forall_mem_cons.mpr ⟨wsU_at (w := u_lay RX3 TX3 1) 448 rfl rfl, List.forall_mem_cons.mpr ⟨wsU_at (w := u_lay RX3 TX3 2) 450 rfl rfl, List.forall_mem_cons.mpr ⟨wsU_at (w := u_lay RX3 TX3 3) 452 rfl rfl, List.forall_mem_cons.mpr ⟨wsU_at (w := u_lay RX3 TX3 4) 454 rfl rfl, List.forall_mem_cons.mpr ⟨wsU_at (w := u_lay RX3 TX3 5) 456 rfl rfl, List.forall_mem_cons.mpr ⟨wsU_at (w := u_lay RX3 TX3 6) 458 rfl rfl, List.forall_mem_cons.mpr ⟨wsU_at (w := u_lay RX3 TX3 7) 460 rfl rfl, List.forall_mem_cons.mpr ⟨wsU_at (w := u_lay RX3 TX3 8) 462 rfl rfl, List.forall_mem_cons.mpr ⟨wsU_at (w := u_lay RX3 TX3 9) 464 rfl rfl, List.forall_mem_cons.mpr ⟨wsU_at (w := u_lay RX3 TX3 10) 466 rfl rfl, List.forall_mem_cons.mpr ⟨wsU_at (w := u_lay RX3 TX3 11) 468 rfl rfl, List.forall_mem_cons.mpr ⟨wsU_at (w := u_lay RX3 TX3 12) 470 rfl rfl, List.forall_mem_cons.mpr ⟨wsU_at (w := u_lay RX3 TX3 13) 472 rfl rfl, List.forall_mem_cons.mpr ⟨wsU_at (w := u_lay RX3 TX3 14) 474 rfl rfl, List.forall_mem_cons.mpr ⟨wsU_at (w := u_lay RX3 TX3 15) 476 rfl rfl, List.forall_mem_cons.mpr ⟨wsU_at (w := u_lay RX3 TX3 16) 478 rfl rfl, List.forall_mem_cons.mpr ⟨wsU_at (w := u_lay RX3 TX3 17) 480 rfl rfl, fun _ h => absurd h List.not_mem_nil⟩⟩⟩⟩⟩⟩⟩⟩⟩⟩⟩⟩⟩⟩⟩⟩⟩⟩
set_option maxRecDepth 100000 in
theorem inlX4 : ∀ w ∈ wsX40, w ∈ wsU := by
  show ∀ w ∈ [u_lay RX4 TX4 0, u_lay RX4 TX4 1, u_lay RX4 TX4 2, u_lay RX4 TX4 3, u_lay RX4 TX4 4, u_lay RX4 TX4 5, u_lay RX4 TX4 6, u_lay RX4 TX4 7, u_lay RX4 TX4 8, u_lay RX4 TX4 9, u_lay RX4 TX4 10], w ∈ wsU
  exact List.forall_mem_cons.mpr ⟨wsU_at (w := u_lay RX4 TX4 0) 252 rfl rfl, List.forall_mem_cons.mpr ⟨wsU_at (w := u_lay RX4 TX4 1) 254 rfl rfl, List.forall_mem_cons.mpr ⟨wsU_at (w := u_lay RX4 TX4 2) 256 rfl rfl, List.forall_mem_cons.mpr ⟨wsU_at (w := u_lay RX4 TX4 3) 258 rfl rfl, List.forall_mem_cons.mpr ⟨wsU_at (w := u_lay RX4 TX4 4) 260 rfl rfl, List.forall_mem_cons.mpr ⟨wsU_at (w := u_lay RX4 TX4 5) 262 rfl rfl, List.forall_mem_cons.mpr ⟨wsU_at (w := u_lay RX4 TX4 6) 264 rfl rfl, List.forall_mem_cons.mpr ⟨wsU_at (w := u_lay RX4 TX4 7) 266 rfl rfl, List.forall_mem_cons.mpr ⟨wsU_at (w := u_lay RX4 TX4 8) 268 rfl rfl, List.forall_mem_cons.mpr ⟨wsU_at (w := u_lay RX4 TX4 9) 270 rfl rfl, List.forall_mem_cons.mpr ⟨wsU_at (w := u_lay RX4 TX4 10) 272 rfl rfl, fun _ h => absurd h List.not_mem_nil⟩⟩⟩⟩⟩⟩⟩⟩⟩⟩⟩
set_option maxRecDepth 100000 in
theorem inlX5 : ∀ w ∈ wsX50, w ∈ wsU := by
  show ∀ w ∈ [u_lay RX5 TX5 0, u_lay RX5 TX5 1, u_lay RX5 TX5 2, u_lay RX5 TX5 3, u_lay RX5 TX5 4, u_lay RX5 TX5 5], w ∈ wsU
  exact List.forall_mem_cons.mpr ⟨wsU_at (w := u_lay RX5 TX5 0) 205 rfl rfl, List.forall_mem_cons.mpr ⟨wsU_at (w := u_lay RX5 TX5 1) 207 rfl rfl, List.forall_mem_cons.mpr ⟨wsU_at (w := u_lay RX5 TX5 2) 209 rfl rfl, List.forall_mem_cons.mpr ⟨wsU_at (w := u_lay RX5 TX5 3) 211 rfl rfl, List.forall_mem_cons.mpr ⟨wsU_at (w := u_lay RX5 TX5 4) 213 rfl rfl, List.forall_mem_cons.mpr ⟨wsU_at (w := u_lay RX5 TX5 5) 215 rfl rfl, fun _ h => absurd h List.not_mem_nil⟩⟩⟩⟩⟩⟩
set_option maxRecDepth 100000 in
theorem inlX6 : ∀ w ∈ wsX60, w ∈ wsU := by
  show ∀ w ∈ [u_lay RX6 TX6 0, u_lay RX6 TX6 1, u_lay RX6 TX6 2, u_lay RX6 TX6 3, u_lay RX6 TX6 4, u_lay RX6 TX6 5, u_lay RX6 TX6 6, u_lay RX6 TX6 7, u_lay RX6 TX6 8], w ∈ wsU
  exact List.forall_mem_cons.mpr ⟨wsU_at (w := u_lay RX6 TX6 0) 507 rfl rfl, List.forall_mem_cons.mpr ⟨wsU_at (w := u_lay RX6 TX6 1) 509 rfl rfl, List.forall_mem_cons.mpr ⟨wsU_at (w := u_lay RX6 TX6 2) 511 rfl rfl, List.forall_mem_cons.mpr ⟨wsU_at (w := u_lay RX6 TX6 3) 513 rfl rfl, List.forall_mem_cons.mpr ⟨wsU_at (w := u_lay RX6 TX6 4) 515 rfl rfl, List.forall_mem_cons.mpr ⟨wsU_at (w := u_lay RX6 TX6 5) 517 rfl rfl, List.forall_mem_cons.mpr ⟨wsU_at (w := u_lay RX6 TX6 6) 519 rfl rfl, List.forall_mem_cons.mpr ⟨wsU_at (w := u_lay RX6 TX6 7) 521 rfl rfl, List.forall_mem_cons.mpr ⟨wsU_at (w := u_lay RX6 TX6 8) 523 rfl rfl, fun _ h => absurd h List.not_mem_nil⟩⟩⟩⟩⟩⟩⟩⟩⟩
set_option maxRecDepth 100000 in
theorem inlX7 : ∀ w ∈ wsX70, w ∈ wsU := by
  show ∀ w ∈ [u_lay RX7 TX7 0, u_lay RX7 TX7 1, u_lay RX7 TX7 2, u_lay RX7 TX7 3, u_lay RX7 TX7 4, u_lay RX7 TX7 5, u_lay RX7 TX7 6, u_lay RX7 TX7 7, u_lay RX7 TX7 8, u_lay RX7 TX7 9, u_lay RX7 TX7 10, u_lay RX7 TX7 11, u_lay RX7 TX7 12, u_lay RX7 TX7 13, u_lay RX7 TX7 14, u_lay RX7 TX7 15], w ∈ wsU
  exact List.forall_mem_cons.mpr ⟨wsU_at (w := u_lay RX7 TX7 0) 321 rfl rfl, List.forall_mem_cons.mpr ⟨wsU_at (w := u_lay RX7 TX7 1) 323 rfl rfl, List.forall_mem_cons.mpr ⟨wsU_at (w := u_lay RX7 TX7 2) 325 rfl rfl, List.forall_mem_cons.mpr ⟨wsU_at (w := u_lay RX7 TX7 3) 327 rfl rfl, List.forall_mem_cons.mpr ⟨wsU_at (w := u_lay RX7 TX7 4) 329 rfl rfl, List.forall_mem_cons.mpr ⟨wsU_at (w := u_lay RX7 TX7 5) 331 rfl rfl, List.forall_mem_cons.mpr ⟨wsU_at (w := u_lay RX7 TX7 6) 333 rfl rfl, List.forall_mem_cons.mpr ⟨wsU_at (w := u_lay RX7 TX7 7) 335 rfl rfl, List.forall_mem_cons.mpr ⟨wsU_at (w := u_lay RX7 TX7 8) 337 rfl rfl, List.forall_mem_cons.mpr ⟨wsU_at (w := u_lay RX7 TX7 9) 339 rfl rfl, List.forall_mem_cons.mpr ⟨wsU_at (w := u_lay RX7 TX7 10) 341 rfl rfl, List.forall_mem_cons.mpr ⟨wsU_at (w := u_lay RX7 TX7 11) 343 rfl rfl, List.forall_mem_cons.mpr ⟨wsU_at (w := u_lay RX7 TX7 12) 345 rfl rfl, List.forall_mem_cons.mpr ⟨wsU_at (w := u_lay RX7 TX7 13) 347 rfl rfl, List.forall_mem_cons.mpr ⟨wsU_at (w := u_lay RX7 TX7 14) 349 rfl rfl, List.forall_mem_cons.mpr ⟨wsU_at (w := u_lay RX7 TX7 15) 351 rfl rfl, fun _ h => absurd h List.not_mem_nil⟩⟩⟩⟩⟩⟩⟩⟩⟩⟩⟩⟩⟩⟩⟩⟩
set_option maxRecDepth 100000 in
theorem inlX8 : ∀ w ∈ wsX80, w ∈ wsU := by
  show ∀ w ∈ [u_lay RX8 TX8 0, u_lay RX8 TX8 1, u_lay RX8 TX8 2, u_lay RX8 TX8 3, u_lay RX8 TX8 4], w ∈ wsU
  exact List.forall_mem_cons.mpr ⟨wsU_at (w := u_lay RX8 TX8 0) 384 rfl rfl, List.forall_mem_cons.mpr ⟨wsU_at (w := u_lay RX8 TX8 1) 386 rfl rfl, List.forall_mem_cons.mpr ⟨wsU_at (w := u_lay RX8 TX8 2) 388 rfl rfl, List.forall_mem_cons.mpr ⟨wsU_at (w := u_lay RX8 TX8 3) 390 rfl rfl, List.forall_mem_cons.mpr ⟨wsU_at (w := u_lay RX8 TX8 4) 392 rfl rfl, fun _ h => absurd h List.not_mem_nil⟩⟩⟩⟩⟩
set_option maxRecDepth 100000 in
theorem inlX9 : ∀ w ∈ wsX90, w ∈ wsU := by
  show ∀ w ∈ [u_lay RX9 TX9 0, u_lay RX9 TX9 1, u_lay RX9 TX9 2], w ∈ wsU
  exact List.forall_mem_cons.mpr ⟨wsU_at (w := u_lay RX9 TX9 0) 179 rfl rfl, List.forall_mem_cons.mpr ⟨wsU_at (w := u_lay RX9 TX9 1) 181 rfl rfl, List.forall_mem_cons.mpr ⟨wsU_at (w := u_lay RX9 TX9 2) 183 rfl rfl, fun _ h => absurd h List.not_mem_nil⟩⟩⟩
set_option maxRecDepth 100000 in
theorem inlX10 : ∀ w ∈ wsX100, w ∈ wsU := by
  show ∀ w ∈ [u_lay RX10 TX10 0, u_lay RX10 TX10 1, u_lay RX10 TX10 2], w ∈ wsU
  exact List.forall_mem_cons.mpr ⟨wsU_at (w := u_lay RX10 TX10 0) 366 rfl rfl, List.forall_mem_cons.mpr ⟨wsU_at (w := u_lay RX10 TX10 1) 368 rfl rfl, List.forall_mem_cons.mpr ⟨wsU_at (w := u_lay RX10 TX10 2) 370 rfl rfl, fun _ h => absurd h List.not_mem_nil⟩⟩⟩
set_option maxRecDepth 100000 in
theorem inlX11 : ∀ w ∈ wsX110, w ∈ wsU := by
  show ∀ w ∈ [u_lay RX11 TX11 0, u_lay RX11 TX11 1, u_lay RX11 TX11 2, u_lay RX11 TX11 3, u_lay RX11 TX11 4, u_lay RX11 TX11 5, u_lay RX11 TX11 6, u_lay RX11 TX11 7, u_lay RX11 TX11 8, u_lay RX11 TX11 9, u_lay RX11 TX11 10, u_lay RX11 TX11 11, u_lay RX11 TX11 12, u_lay RX11 TX11 13, u_lay RX11 TX11 14, u_lay RX11 TX11 15, u_lay RX11 TX11 16, u_lay RX11 TX11 17, u_lay RX11 TX11 18], w ∈ wsU
  exact List.forall_mem_cons.mpr ⟨wsU_at (w := u_lay RX11 TX11 0) 631 rfl rfl, List.forall_mem_cons.mpr ⟨wsU_at (w := u_lay RX11 TX11 1) 633 rfl rfl, List.forall_mem_cons.mpr ⟨wsU_at (w := u_lay RX11 TX11 2) 635 rfl rfl, List.forall_mem_cons.mpr ⟨wsU_at (w := u_lay RX11 TX11 3) 637 rfl rfl, List.forall_mem_cons.mpr ⟨wsU_at (w := u_lay RX11 TX11 4) 639 rfl rfl, List.forall_mem_cons.mpr ⟨wsU_at (w := u_lay RX11 TX11 5) 641 rfl rfl, List.forall_mem_cons.mpr ⟨wsU_at (w := u_lay RX11 TX11 6) 643 rfl rfl, List.forall_mem_cons.mpr ⟨wsU_at (w := u_lay RX11 TX11 7) 645 rfl rfl, List.forall_mem_cons.mpr ⟨wsU_at (w := u_lay RX11 TX11 8) 647 rfl rfl, List.forall_mem_cons.mpr ⟨wsU_at (w := u_lay RX11 TX11 9) 649 rfl rfl, List.forall_mem_cons.mpr ⟨wsU_at (w := u_lay RX11 TX11 10) 651 rfl rfl, List.forall_mem_cons.mpr ⟨wsU_at (w := u_lay RX11 TX11 11) 653 rfl rfl, List.forall_mem_cons.mpr ⟨wsU_at (w := u_lay RX11 TX11 12) 655 rfl rfl, List.forall_mem_cons.mpr ⟨wsU_at (w := u_lay RX11 TX11 13) 657 rfl rfl, List.forall_mem_cons.mpr ⟨wsU_at (w := u_lay RX11 TX11 14) 659 rfl rfl, List.forall_mem_cons.mpr ⟨wsU_at (w := u_lay RX11 TX11 15) 661 rfl rfl, List.forall_mem_cons.mpr ⟨wsU_at (w := u_lay RX11 TX11 16) 663 rfl rfl, List.forall_mem_cons.mpr ⟨wsU_at (w := u_lay RX11 TX11 17) 665 rfl rfl, List.forall_mem_cons.mpr ⟨wsU_at (w := u_lay RX11 TX11 18) 667 rfl rfl, fun _ h => absurd h List.not_mem_nil⟩⟩⟩⟩⟩⟩⟩⟩⟩⟩⟩⟩⟩⟩⟩⟩⟩⟩⟩
set_option maxRecDepth 100000 in
theorem inlX12 : ∀ w ∈ wsX120, w ∈ wsU := by
  show ∀ w ∈ [u_lay RX12 TX12 0, u_lay RX12 TX12 1, u_lay RX12 TX12 2, u_lay RX12 TX12 3, u_lay RX12 TX12 4, u_lay RX12 TX12 5, u_lay RX12 TX12 6, u_lay RX12 TX12 7, u_lay RX12 TX12 8, u_lay RX12 TX12 9, u_lay RX12 TX12 10, u_lay RX12 TX12 11, u_lay RX12 TX12 12, u_lay RX12 TX12 13, u_lay RX12 TX12 14, u_lay RX12 TX12 15, u_lay RX12 TX12 16, u_lay RX12 TX12 17, u_lay RX12 TX12 18, u_lay RX12 TX12 19, u_lay RX12 TX12 20, u_lay RX12 TX12 21, u_lay RX12 TX12 22, u_lay RX12 TX12 23, u_lay RX12 TX12 24, u_lay RX12 TX12 25, u_lay RX12 TX12 26, u_lay RX12 TX12 27, u_lay RX12 TX12 28, u_lay RX12 TX12 29, u_lay RX12 TX12 30, u_lay RX12 TX12 31, u_lay RX12 TX12 32, u_lay RX12 TX12 33, u_lay RX12 TX12 34, u_lay RX12 TX12 35, u_lay RX12 TX12 36, u_lay RX12 TX12 37, u_lay RX12 TX12 38, u_lay RX12 TX12 39, u_lay RX12 TX12 40, u_lay RX12 TX12 41, u_lay RX12 TX12 42, u_lay RX12 TX12 43, u_lay RX12 TX12 44, u_lay RX12 TX12 45, u_lay RX12 TX12 46, u_lay RX12 TX12 47, u_lay RX12 TX12 48, u_lay RX12 TX12 49, u_lay RX12 TX12 50, u_lay RX12 TX12 51, u_lay RX12 TX12 52, u_lay RX12 TX12 53, u_lay RX12 TX12 54, u_lay RX12 TX12 55], w ∈ wsU
  exact List.forall_mem_cons.mpr ⟨wsU_at (w := u_lay RX12 TX12 0) 1504 rfl rfl, List.forall_mem_cons.mpr ⟨wsU_at (w := u_lay RX12 TX12 1) 1506 rfl rfl, List.forall_mem_cons.mpr ⟨wsU_at (w := u_lay RX12 TX12 2) 1508 rfl rfl, List.forall_mem_cons.mpr ⟨wsU_at (w := u_lay RX12 TX12 3) 1510 rfl rfl, List.forall_mem_cons.mpr ⟨wsU_at (w := u_lay RX12 TX12 4) 1512 rfl rfl, List.forall_mem_cons.mpr ⟨wsU_at (w := u_lay RX12 TX12 5) 1514 rfl rfl, List.forall_mem_cons.mpr ⟨wsU_at (w := u_lay RX12 TX12 6) 1516 rfl rfl, List.forall_mem_cons.mpr ⟨wsU_at (w := u_lay RX12 TX12 7) 1518 rfl rfl, List.forall_mem_cons.mpr ⟨wsU_at (w := u_lay RX12 TX12 8) 1520 rfl rfl, List.forall_mem_cons.mpr ⟨wsU_at (w := u_lay RX12 TX12 9) 1522 rfl rfl, List.forall_mem_cons.mpr ⟨wsU_at (w := u_lay RX12 TX12 10) 1524 rfl rfl, List.forall_mem_cons.mpr ⟨wsU_at (w := u_lay RX12 TX12 11) 1526 rfl rfl, List.forall_mem_cons.mpr ⟨wsU_at (w := u_lay RX12 TX12 12) 1528 rfl rfl, List.forall_mem_cons.mpr ⟨wsU_at (w := u_lay RX12 TX12 13) 1530 rfl rfl, List.forall_mem_cons.mpr ⟨wsU_at (w := u_lay RX12 TX12 14) 1532 rfl rfl, List.forall_mem_cons.mpr ⟨wsU_at (w := u_lay RX12 TX12 15) 1534 rfl rfl, List.forall_mem_cons.mpr ⟨wsU_at (w := u_lay RX12 TX12 16) 1536 rfl rfl, List.forall_mem_cons.mpr ⟨wsU_at (w := u_lay RX12 TX12 17) 1538 rfl rfl, List.forall_mem_cons.mpr ⟨wsU_at (w := u_lay RX12 TX12 18) 1540 rfl rfl, List.forall_mem_cons.mpr ⟨wsU_at (w := u_lay RX12 TX12 19) 1542 rfl rfl, List.forall_mem_cons.mpr ⟨wsU_at (w := u_lay RX12 TX12 20) 1544 rfl rfl, List.forall_mem_cons.mpr ⟨wsU_at (w := u_lay RX12 TX12 21) 1546 rfl rfl, List.forall_mem_cons.mpr ⟨wsU_at (w := u_lay RX12 TX12 22) 1548 rfl rfl, List.forall_mem_cons.mpr ⟨wsU_at (w := u_lay RX12 TX12 23) 1550 rfl rfl, List.forall_mem_cons.mpr ⟨wsU_at (w := u_lay RX12 TX12 24) 1552 rfl rfl, List.forall_mem_cons.mpr ⟨wsU_at (w := u_lay RX12 TX12 25) 1554 rfl rfl, List.forall_mem_cons.mpr ⟨wsU_at (w := u_lay RX12 TX12 26) 1556 rfl rfl, List.forall_mem_cons.mpr ⟨wsU_at (w := u_lay RX12 TX12 27) 1558 rfl rfl, List.forall_mem_cons.mpr ⟨wsU_at (w := u_lay RX12 TX12 28) 1560 rfl rfl, List.forall_mem_cons.mpr ⟨wsU_at (w := u_lay RX12 TX12 29) 1562 rfl rfl, List.forall_mem_cons.mpr ⟨wsU_at (w := u_lay RX12 TX12 30) 1564 rfl rfl, List.forall_mem_cons.mpr ⟨wsU_at (w := u_lay RX12 TX12 31) 1566 rfl rfl, List.forall_mem_cons.mpr ⟨wsU_at (w := u_lay RX12 TX12 32) 1568 rfl rfl, List.forall_mem_cons.mpr ⟨wsU_at (w := u_lay RX12 TX12 33) 1570 rfl rfl, List.forall_mem_cons.mpr ⟨wsU_at (w := u_lay RX12 TX12 34) 1572 rfl rfl, List.forall_mem_cons.mpr ⟨wsU_at (w := u_lay RX12 TX12 35) 1574 rfl rfl, List.forall_mem_cons.mpr ⟨wsU_at (w := u_lay RX12 TX12 36) 1576 rfl rfl, List.forall_mem_cons.mpr ⟨wsU_at (w := u_lay RX12 TX12 37) 1578 rfl rfl, List.forall_mem_cons.mpr ⟨wsU_at (w := u_lay RX12 TX12 38) 1580 rfl rfl, List.forall_mem_cons.mpr ⟨wsU_at (w := u_lay RX12 TX12 39) 1582 rfl rfl, List.forall_mem_cons.mpr ⟨wsU_at (w := u_lay RX12 TX12 40) 1584 rfl rfl, List.forall_mem_cons.mpr ⟨wsU_at (w := u_lay RX12 TX12 41) 1586 rfl rfl, List.forall_mem_cons.mpr ⟨wsU_at (w := u_lay RX12 TX12 42) 1588 rfl rfl, List.forall_mem_cons.mpr ⟨wsU_at (w := u_lay RX12 TX12 43) 1590 rfl rfl, List.forall_mem_cons.mpr ⟨wsU_at (w := u_lay RX12 TX12 44) 1592 rfl rfl, List.forall_mem_cons.mpr ⟨wsU_at (w := u_lay RX12 TX12 45) 1594 rfl rfl, List.forall_mem_cons.mpr ⟨wsU_at (w := u_lay RX12 TX12 46) 1596 rfl rfl, List.forall_mem_cons.mpr ⟨wsU_at (w := u_lay RX12 TX12 47) 1598 rfl rfl, List.forall_mem_cons.mpr ⟨wsU_at (w := u_lay RX12 TX12 48) 1600 rfl rfl, List.forall_mem_cons.mpr ⟨wsU_at (w := u_lay RX12 TX12 49) 1602 rfl rfl, List.forall_mem_cons.mpr ⟨wsU_at (w := u_lay RX12 TX12 50) 1604 rfl rfl, List.forall_mem_cons.mpr ⟨wsU_at (w := u_lay RX12 TX12 51) 1606 rfl rfl, List.forall_mem_cons.mpr ⟨wsU_at (w := u_lay RX12 TX12 52) 1608 rfl rfl, List.forall_mem_cons.mpr ⟨wsU_at (w := u_lay RX12 TX12 53) 1610 rfl rfl, List.forall_mem_cons.mpr ⟨wsU_at (w := u_lay RX12 TX12 54) 1612 rfl rfl, List.forall_mem_cons.mpr ⟨wsU_at (w := u_lay RX12 TX12 55) 1614 rfl rfl, fun _ h => absurd h List.not_mem_nil⟩⟩⟩⟩⟩⟩⟩⟩⟩⟩⟩⟩⟩⟩⟩⟩⟩⟩⟩⟩⟩⟩⟩⟩⟩⟩⟩⟩⟩⟩⟩⟩⟩⟩⟩⟩⟩⟩⟩⟩⟩⟩⟩⟩⟩⟩⟩⟩⟩⟩⟩⟩⟩⟩⟩⟩
theorem dvX3 : ∀ j, j < 18 → defaultValue (tyX3 j) = vp_V [.null, .null, .null, .null, .null, .int 0, .int 0, .int 0, .int 0, .int 0, .int 0, .int 0, .null, .null, .null, .int 0, .null, .null] j := fun j hj => by
  rcases (show j = 0 ∨ j = 1 ∨ j = 2 ∨ j = 3 ∨ j = 4 ∨ j = 5 ∨ j = 6 ∨ j = 7 ∨ j = 8 ∨ j = 9 ∨ j = 10 ∨ j = 11 ∨ j = 12 ∨ j = 13 ∨ j = 14 ∨ j = 15 ∨ j = 16 ∨ j = 17 by omega) with rfl | rfl | rfl | rfl | rfl | rfl | rfl | rfl | rfl | rfl | rfl | rfl | rfl | rfl | rfl | rfl | rfl | rfl <;> rfl
theorem dvX7 : ∀ j, j < 16 → defaultValue (tyX7 j) = vp_V [.null, .int 0, .null, .null, .null, .null, .int 0, .null, .null, .null, .null, .null, .int 0, .null, .null, .null] j := fun j hj => by
  rcases (show j = 0 ∨ j = 1 ∨ j = 2 ∨ j = 3 ∨ j = 4 ∨ j = 5 ∨ j = 6 ∨ j = 7 ∨ j = 8 ∨ j = 9 ∨ j = 10 ∨ j = 11 ∨ j = 12 ∨ j = 13 ∨ j = 14 ∨ j = 15 by omega) with rfl | rfl | rfl | rfl | rfl | rfl | rfl | rfl | rfl | rfl | rfl | rfl | rfl | rfl | rfl | rfl <;> rfl
theorem dvX9 : ∀ j, j < 3 → defaultValue (tyX9 j) = vp_V [.null, .null, .int 0] j := fun j hj => by
  rcases (show j = 0 ∨ j = 1 ∨ j = 2 by omega) with rfl | rfl | rfl <;> rfl
theorem dvX4 : ∀ j, j < 11 → defaultValue (tyX4 j) = vp_V [.int 0, .int 0, .int 0, .int 0, .null, .null, .null, .null, .int 0, .int 0, .int 0] j := fun j hj => by
  rcases (show j = 0 ∨ j = 1 ∨ j = 2 ∨ j = 3 ∨ j = 4 ∨ j = 5 ∨ j = 6 ∨ j = 7 ∨ j = 8 ∨ j = 9 ∨ j = 10 by omega) with rfl | rfl | rfl | rfl | rfl | rfl | rfl | rfl | rfl | rfl | rfl <;> rfl
theorem dvX5 : ∀ j, j < 6 → defaultValue (tyX5 j) = vp_V [.null, .null, .null, .int 0, .int 0, .int 0] j := fun j hj => by
  rcases (show j = 0 ∨ j = 1 ∨ j = 2 ∨ j = 3 ∨ j = 4 ∨ j = 5 by omega) with rfl | rfl | rfl | rfl | rfl | rfl <;> rfl
theorem dvX10 : ∀ j, j < 3 → defaultValue (tyX10 j) = vp_V [.null, .int 0, .int 0] j := fun j hj => by
  rcases (show j = 0 ∨ j = 1 ∨ j = 2 by omega) with rfl | rfl | rfl <;> rfl
theorem dvX8 : ∀ j, j < 5 → defaultValue (tyX8 j) = vp_V [.null, .null, .null, .null, .null] j := fun j hj => by
  rcases (show j = 0 ∨ j = 1 ∨ j = 2 ∨ j = 3 ∨ j = 4 by omega) with rfl | rfl | rfl | rfl | rfl <;> rfl
theorem dvX1 : ∀ j, j < 6 → defaultValue (tyX1 j) = vp_V [.null, .null, .null, .int 0, .int 0, .int 0] j := fun j hj => by
  rcases (show j = 0 ∨ j = 1 ∨ j = 2 ∨ j = 3 ∨ j = 4 ∨ j = 5 by omega) with rfl | rfl | rfl | rfl | rfl | rfl <;> rfl
theorem dvX6 : ∀ j, j < 9 → defaultValue (tyX6 j) = vp_V [.int 0, .int 0, .null, .null, .null, .int 0, .null, .null, .null] j := fun j hj => by
  rcases (show j = 0 ∨ j = 1 ∨ j = 2 ∨ j = 3 ∨ j = 4 ∨ j = 5 ∨ j = 6 ∨ j = 7 ∨ j = 8 by omega) with rfl | rfl | rfl | rfl | rfl | rfl | rfl | rfl | rfl <;> rfl
theorem dvX2 : ∀ j, j < 10 → defaultValue (tyX2 j) = vp_V [.null, .int 0, .int 0, .null, .int 0, .int 0, .int 0, .int 0, .int 0, .int 0] j := fun j hj => by
  rcases (show j = 0 ∨ j = 1 ∨ j = 2 ∨ j = 3 ∨ j = 4 ∨ j = 5 ∨ j = 6 ∨ j = 7 ∨ j = 8 ∨ j = 9 by omega) with rfl | rfl | rfl | rfl | rfl | rfl | rfl | rfl | rfl | rfl <;> rfl
theorem dvX0 : ∀ j, j < 11 → defaultValue (tyX0 j) = vp_V [.null, .null, .null, .int 0, .null, .null, .null, .int 0, .null, .int 0, .int 0] j := fun j hj => by
  rcases (show j = 0 ∨ j = 1 ∨ j = 2 ∨ j = 3 ∨ j = 4 ∨ j = 5 ∨ j = 6 ∨ j = 7 ∨ j = 8 ∨ j = 9 ∨ j = 10 by omega) with rfl | rfl | rfl | rfl | rfl | rfl | rfl | rfl | rfl | rfl | rfl <;> rfl
theorem dvX11 : ∀ j, j < 19 → defaultValue (tyX11 j) = vp_V [.null, .int 0, .null, .null, .null, .null, .null, .null, .int 0, .null, .null, .null, .int 0, .int 0, .null, .int 0, .null, .null, .int 0] j := fun j hj => by
  rcases (show j = 0 ∨ j = 1 ∨ j = 2 ∨ j = 3 ∨ j = 4 ∨ j = 5 ∨ j = 6 ∨ j = 7 ∨ j = 8 ∨ j = 9 ∨ j = 10 ∨ j = 11 ∨ j = 12 ∨ j = 13 ∨ j = 14 ∨ j = 15 ∨ j = 16 ∨ j = 17 ∨ j = 18 by omega) with rfl | rfl | rfl | rfl | rfl | rfl | rfl | rfl | rfl | rfl | rfl | rfl | rfl | rfl | rfl | rfl | rfl | rfl | rfl <;> rfl
theorem dvX12 : ∀ j, j < 56 → defaultValue (tyX12 j) = vp_V [.null, .null, .null, .int 0, .null, .int 0, .int 0, .int 0, .int 0, .int 0, .int 0, .int 0, .int 0, .int 0, .int 0, .null, .null, .null, .null, .null, .null, .null, .null, .int 0, .int 0, .int 0, .int 0, .int 0, .null, .int 0, .null, .null, .int 0, .int 0, .null, .int 0, .null, .null, .int 0, .int 0, .null, .null, .null, .int 0, .null, .null, .null, .null, .null, .null, .null, .null, .null, .int 0, .int 0, .null] j := fun j hj => by
  rcases (show j = 0 ∨ j = 1 ∨ j = 2 ∨ j = 3 ∨ j = 4 ∨ j = 5 ∨ j = 6 ∨ j = 7 ∨ j = 8 ∨ j = 9 ∨ j = 10 ∨ j = 11 ∨ j = 12 ∨ j = 13 ∨ j = 14 ∨ j = 15 ∨ j = 16 ∨ j = 17 ∨ j = 18 ∨ j = 19 ∨ j = 20 ∨ j = 21 ∨ j = 22 ∨ j = 23 ∨ j = 24 ∨ j = 25 ∨ j = 26 ∨ j = 27 ∨ j = 28 ∨ j = 29 ∨ j = 30 ∨ j = 31 ∨ j = 32 ∨ j = 33 ∨ j = 34 ∨ j = 35 ∨ j = 36 ∨ j = 37 ∨ j = 38 ∨ j = 39 ∨ j = 40 ∨ j = 41 ∨ j = 42 ∨ j = 43 ∨ j = 44 ∨ j = 45 ∨ j = 46 ∨ j = 47 ∨ j = 48 ∨ j = 49 ∨ j = 50 ∨ j = 51 ∨ j = 52 ∨ j = 53 ∨ j = 54 ∨ j = 55 by omega) with rfl | rfl | rfl | rfl | rfl | rfl | rfl | rfl | rfl | rfl | rfl | rfl | rfl | rfl | rfl | rfl | rfl | rfl | rfl | rfl | rfl | rfl | rfl | rfl | rfl | rfl | rfl | rfl | rfl | rfl | rfl | rfl | rfl | rfl | rfl | rfl | rfl | rfl | rfl | rfl | rfl | rfl | rfl | rfl | rfl | rfl | rfl | rfl | rfl | rfl | rfl | rfl | rfl | rfl | rfl | rfl <;> rfl
theorem ti_m1 : (-1 : Int32).toInt = -1 := by decide
theorem ti_0 : (0 : Int32).toInt = 0 := by decide
theorem ti_1 : (1 : Int32).toInt = 1 := by decide
theorem ti_2 : (2 : Int32).toInt = 2 := by decide
theorem ti_3 : (3 : Int32).toInt = 3 := by decide
theorem ti_4 : (4 : Int32).toInt = 4 := by decide
theorem ti_5 : (5 : Int32).toInt = 5 := by decide
theorem ti_6 : (6 : Int32).toInt = 6 := by decide
theorem ti_7 : (7 : Int32).toInt = 7 := by decide
theorem ti_8 : (8 : Int32).toInt = 8 := by decide
theorem ti_9 : (9 : Int32).toInt = 9 := by decide
theorem ti_10 : (10 : Int32).toInt = 10 := by decide
theorem ti_11 : (11 : Int32).toInt = 11 := by decide
theorem ti_12 : (12 : Int32).toInt = 12 := by decide
theorem ti_13 : (13 : Int32).toInt = 13 := by decide
theorem ti_14 : (14 : Int32).toInt = 14 := by decide
theorem ti_15 : (15 : Int32).toInt = 15 := by decide
theorem ti_16 : (16 : Int32).toInt = 16 := by decide
theorem ti_17 : (17 : Int32).toInt = 17 := by decide
theorem ti_18 : (18 : Int32).toInt = 18 := by decide
theorem ti_19 : (19 : Int32).toInt = 19 := by decide
theorem ti_20 : (20 : Int32).toInt = 20 := by decide
theorem ti_21 : (21 : Int32).toInt = 21 := by decide
theorem ti_22 : (22 : Int32).toInt = 22 := by decide
theorem ti_23 : (23 : Int32).toInt = 23 := by decide
theorem ti_24 : (24 : Int32).toInt = 24 := by decide
theorem ti_25 : (25 : Int32).toInt = 25 := by decide
theorem ti_26 : (26 : Int32).toInt = 26 := by decide
theorem ti_27 : (27 : Int32).toInt = 27 := by decide
theorem ti_28 : (28 : Int32).toInt = 28 := by decide
theorem ti_39 : (39 : Int32).toInt = 39 := by decide
theorem ti_40 : (40 : Int32).toInt = 40 := by decide
theorem ti_49 : (49 : Int32).toInt = 49 := by decide
theorem ti_50 : (50 : Int32).toInt = 50 := by decide

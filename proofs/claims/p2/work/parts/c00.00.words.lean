set_option maxRecDepth 100000 in
theorem wd_9 : Cond.methodLink RX11 3 objectInit ∈ wsU := wsU_at 149 rfl rfl
set_option maxRecDepth 100000 in
theorem wd_10 : Cond.instanceMethod objectInit ∈ wsU := wsU_at 150 rfl rfl
set_option maxRecDepth 100000 in
theorem wd_11 : Cond.code objectInit ⟨#[0xb1]⟩ 1 none ∈ wsU := wsU_at 151 rfl rfl
set_option maxRecDepth 100000 in
theorem wd_12 : Cond.arrayClass .int ∈ wsU := wsU_at 186 rfl rfl
set_option maxRecDepth 100000 in
theorem wd_14 : Cond.classLink RX11 13 RX3 ∈ wsU := wsU_at 152 rfl rfl
set_option maxRecDepth 100000 in
theorem wd_15 : Cond.instantiable RX3 18 ∈ wsU := wsU_at 153 rfl rfl
set_option maxRecDepth 100000 in
theorem wd_18 : Cond.fieldLink RX11 20 "SaidShallow$Rows" "tongue" "LSaidShallow$Tongue;" ∈ wsU := wsU_at 423 rfl rfl
set_option maxRecDepth 100000 in
theorem wd_20 : Cond.fieldLink RX11 25 "SaidShallow$Rows" "words" "LSaidShallow$Words;" ∈ wsU := wsU_at 426 rfl rfl
set_option maxRecDepth 100000 in
theorem wd_22 : Cond.classLink RX11 30 RX6 ∈ wsU := wsU_at 483 rfl rfl
set_option maxRecDepth 100000 in
theorem wd_23 : Cond.instantiable RX6 9 ∈ wsU := wsU_at 484 rfl rfl
set_option maxRecDepth 100000 in
theorem wd_26 : Cond.classLink RX11 37 RX7 ∈ wsU := wsU_at 526 rfl rfl
set_option maxRecDepth 100000 in
theorem wd_27 : Cond.instantiable RX7 16 ∈ wsU := wsU_at 159 rfl rfl
set_option maxRecDepth 100000 in
theorem wd_31 : Cond.classLink RX11 46 RX2 ∈ wsU := wsU_at 528 rfl rfl
set_option maxRecDepth 100000 in
theorem wd_32 : Cond.instantiable RX2 10 ∈ wsU := wsU_at 529 rfl rfl
set_option maxRecDepth 100000 in
theorem wd_35 : Cond.classLink RX11 53 RX0 ∈ wsU := wsU_at 570 rfl rfl
set_option maxRecDepth 100000 in
theorem wd_36 : Cond.instantiable RX0 11 ∈ wsU := wsU_at 571 rfl rfl
set_option maxRecDepth 100000 in
theorem wd_44 : Cond.instanceMethod yX3_init ∈ wsU := wsU_at 155 rfl rfl
set_option maxRecDepth 100000 in
theorem wd_45 : Cond.code yX3_init cX3_init 1 none ∈ wsU := wsU_at 156 rfl rfl
set_option maxRecDepth 100000 in
theorem wd_46 : Cond.methodLink RX3 7 objectInit ∈ wsU := wsU_at 157 rfl rfl
set_option maxRecDepth 100000 in
theorem wd_47 : Cond.classLink RX3 1 RX7 ∈ wsU := wsU_at 158 rfl rfl
set_option maxRecDepth 100000 in
theorem wd_49 : Cond.classLink RX3 18 RX10 ∈ wsU := wsU_at 354 rfl rfl
set_option maxRecDepth 100000 in
theorem wd_50 : Cond.instantiable RX10 3 ∈ wsU := wsU_at 355 rfl rfl
set_option maxRecDepth 100000 in
theorem wd_53 : Cond.classLink RX3 25 RX8 ∈ wsU := wsU_at 373 rfl rfl
set_option maxRecDepth 100000 in
theorem wd_54 : Cond.instantiable RX8 5 ∈ wsU := wsU_at 374 rfl rfl
set_option maxRecDepth 100000 in
theorem wd_57 : Cond.classLink RX3 32 RX1 ∈ wsU := wsU_at 395 rfl rfl
set_option maxRecDepth 100000 in
theorem wd_58 : Cond.instantiable RX1 6 ∈ wsU := wsU_at 396 rfl rfl
set_option maxRecDepth 100000 in
theorem wd_68 : Cond.methodLink RX3 13 yX7_init ∈ wsU := wsU_at 160 rfl rfl
set_option maxRecDepth 100000 in
theorem wd_69 : Cond.instanceMethod yX7_init ∈ wsU := wsU_at 161 rfl rfl
set_option maxRecDepth 100000 in
theorem wd_70 : Cond.code yX7_init cX7_init 2 none ∈ wsU := wsU_at 162 rfl rfl
set_option maxRecDepth 100000 in
theorem wd_71 : Cond.methodLink RX7 3 objectInit ∈ wsU := wsU_at 163 rfl rfl
set_option maxRecDepth 100000 in
theorem wd_81 : Cond.classLink RX7 39 RX4 ∈ wsU := wsU_at 164 rfl rfl
set_option maxRecDepth 100000 in
theorem wd_83 : Cond.classLink RX7 45 RX9 ∈ wsU := wsU_at 166 rfl rfl
set_option maxRecDepth 100000 in
theorem wd_84 : Cond.instantiable RX9 3 ∈ wsU := wsU_at 167 rfl rfl
set_option maxRecDepth 100000 in
theorem wd_89 : Cond.instantiable RX4 11 ∈ wsU := wsU_at 187 rfl rfl
set_option maxRecDepth 100000 in
theorem wd_91 : Cond.methodLink RX7 47 yX9_init ∈ wsU := wsU_at 168 rfl rfl
set_option maxRecDepth 100000 in
theorem wd_92 : Cond.instanceMethod yX9_init ∈ wsU := wsU_at 169 rfl rfl
set_option maxRecDepth 100000 in
theorem wd_93 : Cond.code yX9_init cX9_init 2 none ∈ wsU := wsU_at 170 rfl rfl
set_option maxRecDepth 100000 in
theorem wd_94 : Cond.methodLink RX9 3 objectInit ∈ wsU := wsU_at 171 rfl rfl
set_option maxRecDepth 100000 in
theorem wd_97 : Cond.instanceMethod yX4_init ∈ wsU := wsU_at 189 rfl rfl
set_option maxRecDepth 100000 in
theorem wd_98 : Cond.code yX4_init cX4_init 1 none ∈ wsU := wsU_at 190 rfl rfl
set_option maxRecDepth 100000 in
theorem wd_99 : Cond.methodLink RX4 3 objectInit ∈ wsU := wsU_at 191 rfl rfl
set_option maxRecDepth 100000 in
theorem wd_100 : Cond.classLink RX4 9 RX5 ∈ wsU := wsU_at 192 rfl rfl
set_option maxRecDepth 100000 in
theorem wd_101 : Cond.instantiable RX5 6 ∈ wsU := wsU_at 193 rfl rfl
set_option maxRecDepth 100000 in
theorem wd_107 : Cond.instanceMethod yX5_init ∈ wsU := wsU_at 195 rfl rfl
set_option maxRecDepth 100000 in
theorem wd_108 : Cond.code yX5_init cX5_init 1 none ∈ wsU := wsU_at 196 rfl rfl
set_option maxRecDepth 100000 in
theorem wd_109 : Cond.methodLink RX5 5 objectInit ∈ wsU := wsU_at 197 rfl rfl
set_option maxRecDepth 100000 in
theorem wd_113 : Cond.instanceMethod yX10_init ∈ wsU := wsU_at 357 rfl rfl
set_option maxRecDepth 100000 in
theorem wd_114 : Cond.code yX10_init cX10_init 1 none ∈ wsU := wsU_at 358 rfl rfl
set_option maxRecDepth 100000 in
theorem wd_115 : Cond.methodLink RX10 3 objectInit ∈ wsU := wsU_at 359 rfl rfl
set_option maxRecDepth 100000 in
theorem wd_117 : Cond.instanceMethod yX8_init ∈ wsU := wsU_at 376 rfl rfl
set_option maxRecDepth 100000 in
theorem wd_118 : Cond.code yX8_init cX8_init 1 none ∈ wsU := wsU_at 377 rfl rfl
set_option maxRecDepth 100000 in
theorem wd_119 : Cond.methodLink RX8 7 objectInit ∈ wsU := wsU_at 378 rfl rfl
set_option maxRecDepth 100000 in
theorem wd_125 : Cond.instanceMethod yX1_init ∈ wsU := wsU_at 398 rfl rfl
set_option maxRecDepth 100000 in
theorem wd_126 : Cond.code yX1_init cX1_init 1 none ∈ wsU := wsU_at 399 rfl rfl
set_option maxRecDepth 100000 in
theorem wd_127 : Cond.methodLink RX1 3 objectInit ∈ wsU := wsU_at 400 rfl rfl
set_option maxRecDepth 100000 in
theorem wd_130 : Cond.arrayClass .long ∈ wsU := wsU_at 421 rfl rfl
set_option maxRecDepth 100000 in
theorem wd_133 : Cond.instanceMethod yX6_init ∈ wsU := wsU_at 486 rfl rfl
set_option maxRecDepth 100000 in
theorem wd_134 : Cond.code yX6_init cX6_init 1 none ∈ wsU := wsU_at 487 rfl rfl
set_option maxRecDepth 100000 in
theorem wd_135 : Cond.methodLink RX6 3 objectInit ∈ wsU := wsU_at 488 rfl rfl
set_option maxRecDepth 100000 in
theorem wd_138 : Cond.classLink RX6 19 RX9 ∈ wsU := wsU_at 489 rfl rfl
set_option maxRecDepth 100000 in
theorem wd_144 : Cond.methodLink RX6 21 yX9_init ∈ wsU := wsU_at 490 rfl rfl
set_option maxRecDepth 100000 in
theorem wd_145 : Cond.methodLink RX11 39 yX7_init ∈ wsU := wsU_at 527 rfl rfl
set_option maxRecDepth 100000 in
theorem wd_146 : Cond.instanceMethod yX2_init ∈ wsU := wsU_at 531 rfl rfl
set_option maxRecDepth 100000 in
theorem wd_147 : Cond.code yX2_init cX2_init 1 none ∈ wsU := wsU_at 532 rfl rfl
set_option maxRecDepth 100000 in
theorem wd_148 : Cond.methodLink RX2 3 objectInit ∈ wsU := wsU_at 533 rfl rfl
set_option maxRecDepth 100000 in
theorem wd_149 : Cond.classLink RX2 9 RX7 ∈ wsU := wsU_at 534 rfl rfl
set_option maxRecDepth 100000 in
theorem wd_153 : Cond.methodLink RX2 11 yX7_init ∈ wsU := wsU_at 535 rfl rfl
set_option maxRecDepth 100000 in
theorem wd_154 : Cond.instanceMethod yX0_init ∈ wsU := wsU_at 573 rfl rfl
set_option maxRecDepth 100000 in
theorem wd_155 : Cond.code yX0_init cX0_init 1 none ∈ wsU := wsU_at 574 rfl rfl
set_option maxRecDepth 100000 in
theorem wd_156 : Cond.methodLink RX0 3 objectInit ∈ wsU := wsU_at 575 rfl rfl
set_option maxRecDepth 100000 in
theorem wd_168 : Cond.methodLink RX12 1 objectInit ∈ wsU := wsU_at 1444 rfl rfl
set_option maxRecDepth 100000 in
theorem wd_174 : Cond.classLink RX12 26 "[[I" ∈ wsU := wsU_at 1445 rfl rfl
set_option maxRecDepth 100000 in
theorem wd_196 : Cond.arrayClass .boolean ∈ wsU := wsU_at 1617 rfl rfl
set_option maxRecDepth 100000 in
theorem wd_198 : Cond.classLink RX12 96 "[[Z" ∈ wsU := wsU_at 1447 rfl rfl
theorem dvX0 : ∀ j, j < 11 → defaultValue (tyX0 j) = vp_V [.null, .null, .null, .int 0, .null, .null, .null, .int 0, .null, .int 0, .int 0] j := fun j hj => by
  match j, hj with
  | 0, _ => rfl
  | 1, _ => rfl
  | 2, _ => rfl
  | 3, _ => rfl
  | 4, _ => rfl
  | 5, _ => rfl
  | 6, _ => rfl
  | 7, _ => rfl
  | 8, _ => rfl
  | 9, _ => rfl
  | 10, _ => rfl
  | j + 11, hj => exact absurd hj (by omega)
theorem dvX1 : ∀ j, j < 6 → defaultValue (tyX1 j) = vp_V [.null, .null, .null, .int 0, .int 0, .int 0] j := fun j hj => by
  match j, hj with
  | 0, _ => rfl
  | 1, _ => rfl
  | 2, _ => rfl
  | 3, _ => rfl
  | 4, _ => rfl
  | 5, _ => rfl
  | j + 6, hj => exact absurd hj (by omega)
theorem dvX10 : ∀ j, j < 3 → defaultValue (tyX10 j) = vp_V [.null, .int 0, .int 0] j := fun j hj => by
  match j, hj with
  | 0, _ => rfl
  | 1, _ => rfl
  | 2, _ => rfl
  | j + 3, hj => exact absurd hj (by omega)
theorem dvX2 : ∀ j, j < 10 → defaultValue (tyX2 j) = vp_V [.null, .int 0, .int 0, .null, .int 0, .int 0, .int 0, .int 0, .int 0, .int 0] j := fun j hj => by
  match j, hj with
  | 0, _ => rfl
  | 1, _ => rfl
  | 2, _ => rfl
  | 3, _ => rfl
  | 4, _ => rfl
  | 5, _ => rfl
  | 6, _ => rfl
  | 7, _ => rfl
  | 8, _ => rfl
  | 9, _ => rfl
  | j + 10, hj => exact absurd hj (by omega)
theorem dvX3 : ∀ j, j < 18 → defaultValue (tyX3 j) = vp_V [.null, .null, .null, .null, .null, .int 0, .int 0, .int 0, .int 0, .int 0, .int 0, .int 0, .null, .null, .null, .int 0, .null, .null] j := fun j hj => by
  match j, hj with
  | 0, _ => rfl
  | 1, _ => rfl
  | 2, _ => rfl
  | 3, _ => rfl
  | 4, _ => rfl
  | 5, _ => rfl
  | 6, _ => rfl
  | 7, _ => rfl
  | 8, _ => rfl
  | 9, _ => rfl
  | 10, _ => rfl
  | 11, _ => rfl
  | 12, _ => rfl
  | 13, _ => rfl
  | 14, _ => rfl
  | 15, _ => rfl
  | 16, _ => rfl
  | 17, _ => rfl
  | j + 18, hj => exact absurd hj (by omega)
theorem dvX4 : ∀ j, j < 11 → defaultValue (tyX4 j) = vp_V [.int 0, .int 0, .int 0, .int 0, .null, .null, .null, .null, .int 0, .int 0, .int 0] j := fun j hj => by
  match j, hj with
  | 0, _ => rfl
  | 1, _ => rfl
  | 2, _ => rfl
  | 3, _ => rfl
  | 4, _ => rfl
  | 5, _ => rfl
  | 6, _ => rfl
  | 7, _ => rfl
  | 8, _ => rfl
  | 9, _ => rfl
  | 10, _ => rfl
  | j + 11, hj => exact absurd hj (by omega)
theorem dvX5 : ∀ j, j < 6 → defaultValue (tyX5 j) = vp_V [.null, .null, .null, .int 0, .int 0, .int 0] j := fun j hj => by
  match j, hj with
  | 0, _ => rfl
  | 1, _ => rfl
  | 2, _ => rfl
  | 3, _ => rfl
  | 4, _ => rfl
  | 5, _ => rfl
  | j + 6, hj => exact absurd hj (by omega)
theorem dvX6 : ∀ j, j < 9 → defaultValue (tyX6 j) = vp_V [.int 0, .int 0, .null, .null, .null, .int 0, .null, .null, .null] j := fun j hj => by
  match j, hj with
  | 0, _ => rfl
  | 1, _ => rfl
  | 2, _ => rfl
  | 3, _ => rfl
  | 4, _ => rfl
  | 5, _ => rfl
  | 6, _ => rfl
  | 7, _ => rfl
  | 8, _ => rfl
  | j + 9, hj => exact absurd hj (by omega)
theorem dvX7 : ∀ j, j < 16 → defaultValue (tyX7 j) = vp_V [.null, .int 0, .null, .null, .null, .null, .int 0, .null, .null, .null, .null, .null, .int 0, .null, .null, .null] j := fun j hj => by
  match j, hj with
  | 0, _ => rfl
  | 1, _ => rfl
  | 2, _ => rfl
  | 3, _ => rfl
  | 4, _ => rfl
  | 5, _ => rfl
  | 6, _ => rfl
  | 7, _ => rfl
  | 8, _ => rfl
  | 9, _ => rfl
  | 10, _ => rfl
  | 11, _ => rfl
  | 12, _ => rfl
  | 13, _ => rfl
  | 14, _ => rfl
  | 15, _ => rfl
  | j + 16, hj => exact absurd hj (by omega)
theorem dvX8 : ∀ j, j < 5 → defaultValue (tyX8 j) = vp_V [.null, .null, .null, .null, .null] j := fun j hj => by
  match j, hj with
  | 0, _ => rfl
  | 1, _ => rfl
  | 2, _ => rfl
  | 3, _ => rfl
  | 4, _ => rfl
  | j + 5, hj => exact absurd hj (by omega)
theorem dvX9 : ∀ j, j < 3 → defaultValue (tyX9 j) = vp_V [.null, .null, .int 0] j := fun j hj => by
  match j, hj with
  | 0, _ => rfl
  | 1, _ => rfl
  | 2, _ => rfl
  | j + 3, hj => exact absurd hj (by omega)

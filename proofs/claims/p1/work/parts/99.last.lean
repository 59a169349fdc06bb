set_option maxRecDepth 100000 in
theorem tt_0 : Cond.instanceMethod yX2_peek ∈ wsU := wsU_at 713 rfl rfl
set_option maxRecDepth 100000 in
theorem tt_1 : Cond.methodLink RL 87 yX12_lives ∈ wsU := wsU_at 1961 rfl rfl
set_option maxRecDepth 100000 in
theorem tt_2 : Cond.constant RX1 15 (32768) ∈ wsU := wsU_at 401 rfl rfl
set_option maxRecDepth 100000 in
theorem tt_3 : Cond.instanceMethod yX5_freeStarts ∈ wsU := wsU_at 935 rfl rfl
set_option maxRecDepth 100000 in
theorem tt_4 : Cond.selects RX11 yX11_emptyTape yX11_emptyTape ∈ wsU := wsU_at 1 rfl rfl
set_option maxRecDepth 100000 in
theorem tt_5 : Cond.methodLink RX11 333 yX3_isSaidAs ∈ wsU := wsU_at 1153 rfl rfl
set_option maxRecDepth 100000 in
theorem tt_6 : Cond.fieldLink RX12 324 "SaidShallowModel" "stamped" "I" ∈ wsU := wsU_at 1481 rfl rfl
set_option maxRecDepth 100000 in
theorem tt_7 : Cond.instanceMethod yX11_hear ∈ wsU := wsU_at 1117 rfl rfl
set_option maxRecDepth 100000 in
theorem tt_8 : Cond.methodLink RX12 401 yX12_partsOf ∈ wsU := wsU_at 1926 rfl rfl
set_option maxRecDepth 100000 in
theorem tt_9 : Cond.selects RX8 yX8_writeTo yX8_writeTo ∈ wsU := wsU_at 1045 rfl rfl
set_option maxRecDepth 100000 in
theorem tt_10 : Cond.instanceMethod yX4_isAlways ∈ wsU := wsU_at 856 rfl rfl
set_option maxRecDepth 100000 in
theorem tt_11 : Cond.fieldLink RX12 80 "SaidShallowModel" "agedNext" "[I" ∈ wsU := wsU_at 1490 rfl rfl
set_option maxRecDepth 100000 in
theorem tt_12 : Cond.fieldLink RX11 152 "SaidShallow$Tongue" "stems" "LSaidShallow$WordList;" ∈ wsU := wsU_at 315 rfl rfl
set_option maxRecDepth 100000 in
theorem tt_13 : Cond.instantiable RX1 6 ∈ wsU := wsU_at 396 rfl rfl
set_option maxRecDepth 100000 in
theorem tt_14 : Cond.instanceMethod yX8_finish ∈ wsU := wsU_at 1065 rfl rfl
set_option maxRecDepth 100000 in
theorem tt_15 : Cond.methodLink RX12 311 yX12_goes ∈ wsU := wsU_at 1773 rfl rfl
set_option maxRecDepth 100000 in
theorem tt_16 : Cond.instanceMethod yX12_marksAll ∈ wsU := wsU_at 1944 rfl rfl
set_option maxRecDepth 100000 in
theorem tt_17 : Cond.instantiable RX12 56 ∈ wsU := wsU_at 1440 rfl rfl
set_option maxRecDepth 100000 in
theorem tt_18 : Cond.instanceMethod yX12_firstWrong ∈ wsU := wsU_at 1987 rfl rfl
set_option maxRecDepth 100000 in
theorem tt_19 : Cond.instanceMethod yX12_padded ∈ wsU := wsU_at 1799 rfl rfl
set_option maxRecDepth 100000 in
theorem tt_20 : Cond.instanceMethod yX9_copyFrom ∈ wsU := wsU_at 958 rfl rfl
set_option maxRecDepth 100000 in
theorem tt_21 : Cond.methodLink RX6 49 arraycopyName ∈ wsU := wsU_at 1428 rfl rfl
set_option maxRecDepth 100000 in
theorem tt_22 : Cond.instanceMethod yX2_readPart ∈ wsU := wsU_at 893 rfl rfl
set_option maxRecDepth 100000 in
theorem tt_23 : Cond.instanceMethod yX0_fillAgrees ∈ wsU := wsU_at 1273 rfl rfl
set_option maxRecDepth 100000 in
theorem tt_24 : Cond.fieldLink RX11 76 "SaidShallow" "tapeLength" "I" ∈ wsU := wsU_at 613 rfl rfl
set_option maxRecDepth 100000 in
theorem tt_25 : Cond.methodLink RX12 187 yX12_takesX ∈ wsU := wsU_at 1711 rfl rfl
set_option maxRecDepth 100000 in
theorem tt_26 : Cond.fieldLink RX3 43 "SaidShallow$Rows" "wanted" "I" ∈ wsU := wsU_at 436 rfl rfl
set_option maxRecDepth 100000 in
theorem tt_27 : Cond.code yX3_init cX3_init 1 none ∈ wsU := wsU_at 156 rfl rfl
set_option maxRecDepth 100000 in
theorem tt_28 : Cond.fieldLink RX3 21 "SaidShallow$Rows" "words" "LSaidShallow$Words;" ∈ wsU := wsU_at 425 rfl rfl
set_option maxRecDepth 100000 in
theorem tt_29 : Cond.methodLink RL 99 yX12_parts ∈ wsU := wsU_at 1922 rfl rfl
set_option maxRecDepth 100000 in
theorem tt_30 : Cond.fieldLink RX7 108 "SaidShallow$Rule" "deep" "I" ∈ wsU := wsU_at 220 rfl rfl
set_option maxRecDepth 100000 in
theorem tt_31 : Cond.fieldLink RX11 20 "SaidShallow$Rows" "tongue" "LSaidShallow$Tongue;" ∈ wsU := wsU_at 423 rfl rfl
set_option maxRecDepth 100000 in
theorem tt_32 : Cond.instanceMethod yX1_hasKey ∈ wsU := wsU_at 1048 rfl rfl
set_option maxRecDepth 100000 in
theorem tt_33 : Cond.instanceMethod yX11_fits ∈ wsU := wsU_at 1387 rfl rfl
set_option maxRecDepth 100000 in
theorem tt_34 : Cond.instanceMethod yX5_putEdge ∈ wsU := wsU_at 867 rfl rfl
set_option maxRecDepth 100000 in
theorem tt_35 : Cond.instanceMethod yX12_takesWord ∈ wsU := wsU_at 1755 rfl rfl
set_option maxRecDepth 100000 in
theorem tt_36 : Cond.selects RX11 yX11_look yX11_look ∈ wsU := wsU_at 1432 rfl rfl
set_option maxRecDepth 100000 in
theorem tt_37 : Cond.initialized RX1 ∈ wsU := wsU_at 131 rfl rfl
set_option maxRecDepth 100000 in
theorem tt_38 : Cond.methodLink RX11 173 yX4_firstBreak ∈ wsU := wsU_at 1201 rfl rfl
set_option maxRecDepth 100000 in
theorem tt_39 : Cond.methodLink RX2 222 yX2_readX ∈ wsU := wsU_at 877 rfl rfl

set_option maxRecDepth 100000 in
theorem wd_88 : Cond.fieldLink RX7 57 "SaidShallow$Tongue" "row" "[I" ∈ wsU := wsU_at 320 rfl rfl
set_option maxRecDepth 100000 in
theorem wd_1038 : Cond.methodLink RX4 103 yX4_holdsAt ∈ wsU := wsU_at 1177 rfl rfl
set_option maxRecDepth 100000 in
theorem wd_1039 : Cond.instanceMethod yX4_holdsAt ∈ wsU := wsU_at 1178 rfl rfl
set_option maxRecDepth 100000 in
theorem wd_1040 : Cond.selects RX4 yX4_holdsAt yX4_holdsAt ∈ wsU := wsU_at 1179 rfl rfl
set_option maxRecDepth 100000 in
theorem wd_1041 : Cond.code yX4_holdsAt cX4_holdsAt 7 (some .boolean) ∈ wsU := wsU_at 1180 rfl rfl
set_option maxRecDepth 100000 in
theorem wd_1042 : Cond.constant RX4 113 (133152) ∈ wsU := wsU_at 1183 rfl rfl
set_option maxRecDepth 100000 in
theorem wd_1043 : Cond.methodLink RX4 110 yX5_holding ∈ wsU := wsU_at 1181 rfl rfl
set_option maxRecDepth 100000 in
theorem wd_1044 : Cond.methodLink RX4 107 yX5_step ∈ wsU := wsU_at 1182 rfl rfl
set_option maxRecDepth 100000 in
theorem wd_1107 : Cond.fieldLink RX7 105 "SaidShallow$Rule" "op" "I" ∈ wsU := wsU_at 227 rfl rfl
set_option maxRecDepth 100000 in
theorem wd_1108 : Cond.fieldLink RX7 108 "SaidShallow$Rule" "deep" "I" ∈ wsU := wsU_at 220 rfl rfl
set_option maxRecDepth 100000 in
theorem wd_1109 : Cond.fieldLink RX7 111 "SaidShallow$Rule" "atStart" "I" ∈ wsU := wsU_at 246 rfl rfl
set_option maxRecDepth 100000 in
theorem wd_1110 : Cond.fieldLink RX7 118 "SaidShallow$Rule" "said" "I" ∈ wsU := wsU_at 224 rfl rfl
set_option maxRecDepth 100000 in
theorem wd_1111 : Cond.fieldLink RX7 121 "SaidShallow$Rule" "left" "LSaidShallow$Side;" ∈ wsU := wsU_at 235 rfl rfl
set_option maxRecDepth 100000 in
theorem wd_1112 : Cond.fieldLink RX7 130 "SaidShallow$Rule" "anywhere" "I" ∈ wsU := wsU_at 249 rfl rfl
set_option maxRecDepth 100000 in
theorem wd_1113 : Cond.methodLink RX7 114 yX4_holdsAt ∈ wsU := wsU_at 1215 rfl rfl
set_option maxRecDepth 100000 in
theorem wd_1114 : Cond.methodLink RX7 125 yX5_step ∈ wsU := wsU_at 1216 rfl rfl

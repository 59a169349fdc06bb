set_option maxRecDepth 100000 in
theorem wd_737 : Cond.methodLink RX3 90 yX3_breakable ∈ wsU := wsU_at 1018 rfl rfl
set_option maxRecDepth 100000 in
theorem wd_738 : Cond.instanceMethod yX3_breakable ∈ wsU := wsU_at 1020 rfl rfl
set_option maxRecDepth 100000 in
theorem wd_739 : Cond.selects RX3 yX3_breakable yX3_breakable ∈ wsU := wsU_at 28 rfl rfl
set_option maxRecDepth 100000 in
theorem wd_740 : Cond.code yX3_breakable cX3_breakable 4 (some .int) ∈ wsU := wsU_at 1021 rfl rfl
set_option maxRecDepth 100000 in
theorem wd_748 : Cond.methodLink RX3 103 yX1_clear ∈ wsU := wsU_at 1026 rfl rfl
set_option maxRecDepth 100000 in
theorem wd_749 : Cond.instanceMethod yX1_clear ∈ wsU := wsU_at 1027 rfl rfl
set_option maxRecDepth 100000 in
theorem wd_750 : Cond.selects RX1 yX1_clear yX1_clear ∈ wsU := wsU_at 1028 rfl rfl
set_option maxRecDepth 100000 in
theorem wd_751 : Cond.code yX1_clear cX1_clear 1 none ∈ wsU := wsU_at 1029 rfl rfl
set_option maxRecDepth 100000 in
theorem wd_755 : Cond.methodLink RX3 106 yX8_begin ∈ wsU := wsU_at 1031 rfl rfl
set_option maxRecDepth 100000 in
theorem wd_756 : Cond.instanceMethod yX8_begin ∈ wsU := wsU_at 1032 rfl rfl
set_option maxRecDepth 100000 in
theorem wd_757 : Cond.selects RX8 yX8_begin yX8_begin ∈ wsU := wsU_at 1033 rfl rfl
set_option maxRecDepth 100000 in
theorem wd_758 : Cond.code yX8_begin cX8_begin 3 none ∈ wsU := wsU_at 1034 rfl rfl
set_option maxRecDepth 100000 in
theorem wd_1018 : Cond.methodLink RX3 211 yX3_align ∈ wsU := wsU_at 1157 rfl rfl
set_option maxRecDepth 100000 in
theorem wd_1019 : Cond.instanceMethod yX3_align ∈ wsU := wsU_at 1158 rfl rfl
set_option maxRecDepth 100000 in
theorem wd_1020 : Cond.selects RX3 yX3_align yX3_align ∈ wsU := wsU_at 1159 rfl rfl
set_option maxRecDepth 100000 in
theorem wd_1021 : Cond.code yX3_align cX3_align 10 (some .int) ∈ wsU := wsU_at 1160 rfl rfl
set_option maxRecDepth 100000 in
theorem wd_1022 : Cond.methodLink RX3 215 Lib.Math.abs.name ∈ wsU := wsU_at 1161 rfl rfl
set_option maxRecDepth 100000 in
theorem wd_1023 : Cond.static Lib.Math.abs.name ∈ wsU := wsU_at 1162 rfl rfl
set_option maxRecDepth 100000 in
theorem wd_1024 : Cond.code Lib.Math.abs.name Lib.Math.abs.code 1 (some .int) ∈ wsU := wsU_at 1163 rfl rfl
set_option maxRecDepth 100000 in
theorem wd_1025 : Cond.methodLink RX3 218 yX3_layRow ∈ wsU := wsU_at 1164 rfl rfl
set_option maxRecDepth 100000 in
theorem wd_1026 : Cond.instanceMethod yX3_layRow ∈ wsU := wsU_at 1166 rfl rfl
set_option maxRecDepth 100000 in
theorem wd_1027 : Cond.selects RX3 yX3_layRow yX3_layRow ∈ wsU := wsU_at 41 rfl rfl
set_option maxRecDepth 100000 in
theorem wd_1028 : Cond.code yX3_layRow cX3_layRow 11 (some .boolean) ∈ wsU := wsU_at 1167 rfl rfl
set_option maxRecDepth 100000 in
theorem wd_1029 : Cond.methodLink RX3 225 yX7_pairOf ∈ wsU := wsU_at 1168 rfl rfl
set_option maxRecDepth 100000 in
theorem wd_1030 : Cond.methodLink RX3 222 yX3_breaksOf ∈ wsU := wsU_at 1169 rfl rfl
set_option maxRecDepth 100000 in
theorem wd_1031 : Cond.instanceMethod yX3_breaksOf ∈ wsU := wsU_at 1171 rfl rfl
set_option maxRecDepth 100000 in
theorem wd_1032 : Cond.selects RX3 yX3_breaksOf yX3_breaksOf ∈ wsU := wsU_at 42 rfl rfl
set_option maxRecDepth 100000 in
theorem wd_1033 : Cond.code yX3_breaksOf cX3_breaksOf 5 (some .int) ∈ wsU := wsU_at 1172 rfl rfl
set_option maxRecDepth 100000 in
theorem wd_1034 : Cond.methodLink RX3 228 yX4_firstBreak ∈ wsU := wsU_at 1173 rfl rfl
set_option maxRecDepth 100000 in
theorem wd_1035 : Cond.instanceMethod yX4_firstBreak ∈ wsU := wsU_at 1174 rfl rfl
set_option maxRecDepth 100000 in
theorem wd_1036 : Cond.selects RX4 yX4_firstBreak yX4_firstBreak ∈ wsU := wsU_at 1175 rfl rfl
set_option maxRecDepth 100000 in
theorem wd_1037 : Cond.code yX4_firstBreak cX4_firstBreak 6 (some .int) ∈ wsU := wsU_at 1176 rfl rfl
set_option maxRecDepth 100000 in
theorem wd_1161 : Cond.methodLink RX3 186 yX3_list ∈ wsU := wsU_at 1245 rfl rfl
set_option maxRecDepth 100000 in
theorem wd_1162 : Cond.instanceMethod yX3_list ∈ wsU := wsU_at 1246 rfl rfl
set_option maxRecDepth 100000 in
theorem wd_1163 : Cond.selects RX3 yX3_list yX3_list ∈ wsU := wsU_at 1247 rfl rfl
set_option maxRecDepth 100000 in
theorem wd_1164 : Cond.code yX3_list cX3_list 5 none ∈ wsU := wsU_at 1248 rfl rfl
set_option maxRecDepth 100000 in
theorem wd_1326 : Cond.methodLink RX3 193 yX3_clearMarks ∈ wsU := wsU_at 1342 rfl rfl
set_option maxRecDepth 100000 in
theorem wd_1327 : Cond.instanceMethod yX3_clearMarks ∈ wsU := wsU_at 1344 rfl rfl
set_option maxRecDepth 100000 in
theorem wd_1328 : Cond.selects RX3 yX3_clearMarks yX3_clearMarks ∈ wsU := wsU_at 55 rfl rfl
set_option maxRecDepth 100000 in
theorem wd_1329 : Cond.code yX3_clearMarks cX3_clearMarks 2 none ∈ wsU := wsU_at 1345 rfl rfl

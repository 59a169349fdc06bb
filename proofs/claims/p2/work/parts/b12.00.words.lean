set_option maxRecDepth 100000 in
theorem wd_186 : Cond.fieldLink RX12 62 "SaidShallowModel" "saidWord" "[I" ∈ wsU := wsU_at 1482 rfl rfl
set_option maxRecDepth 100000 in
theorem wd_187 : Cond.fieldLink RX12 65 "SaidShallowModel" "coupleStem" "[I" ∈ wsU := wsU_at 1484 rfl rfl
set_option maxRecDepth 100000 in
theorem wd_188 : Cond.fieldLink RX12 68 "SaidShallowModel" "coupleEnd" "[I" ∈ wsU := wsU_at 1485 rfl rfl
set_option maxRecDepth 100000 in
theorem wd_190 : Cond.fieldLink RX12 74 "SaidShallowModel" "aged" "[I" ∈ wsU := wsU_at 1488 rfl rfl
set_option maxRecDepth 100000 in
theorem wd_191 : Cond.fieldLink RX12 77 "SaidShallowModel" "agedRow" "[I" ∈ wsU := wsU_at 1489 rfl rfl
set_option maxRecDepth 100000 in
theorem wd_192 : Cond.fieldLink RX12 80 "SaidShallowModel" "agedNext" "[I" ∈ wsU := wsU_at 1490 rfl rfl
set_option maxRecDepth 100000 in
theorem wd_859 : Cond.methodLink RX12 352 yX12_words ∈ wsU := wsU_at 1749 rfl rfl
set_option maxRecDepth 100000 in
theorem wd_860 : Cond.instanceMethod yX12_words ∈ wsU := wsU_at 1751 rfl rfl
set_option maxRecDepth 100000 in
theorem wd_861 : Cond.selects RX12 yX12_words yX12_words ∈ wsU := wsU_at 78 rfl rfl
set_option maxRecDepth 100000 in
theorem wd_862 : Cond.code yX12_words cX12_words 2 (some .int) ∈ wsU := wsU_at 1752 rfl rfl
set_option maxRecDepth 100000 in
theorem wd_863 : Cond.methodLink RX12 346 yX12_takesWord ∈ wsU := wsU_at 1753 rfl rfl
set_option maxRecDepth 100000 in
theorem wd_864 : Cond.instanceMethod yX12_takesWord ∈ wsU := wsU_at 1755 rfl rfl
set_option maxRecDepth 100000 in
theorem wd_865 : Cond.selects RX12 yX12_takesWord yX12_takesWord ∈ wsU := wsU_at 79 rfl rfl
set_option maxRecDepth 100000 in
theorem wd_866 : Cond.code yX12_takesWord cX12_takesWord 6 (some .boolean) ∈ wsU := wsU_at 1756 rfl rfl
set_option maxRecDepth 100000 in
theorem wd_868 : Cond.methodLink RX12 349 yX12_sets ∈ wsU := wsU_at 1757 rfl rfl
set_option maxRecDepth 100000 in
theorem wd_869 : Cond.instanceMethod yX12_sets ∈ wsU := wsU_at 1759 rfl rfl
set_option maxRecDepth 100000 in
theorem wd_870 : Cond.selects RX12 yX12_sets yX12_sets ∈ wsU := wsU_at 80 rfl rfl
set_option maxRecDepth 100000 in
theorem wd_871 : Cond.code yX12_sets cX12_sets 2 none ∈ wsU := wsU_at 1760 rfl rfl
set_option maxRecDepth 100000 in
theorem wd_1049 : Cond.fieldLink RX12 355 "SaidShallowModel" "saidLong" "I" ∈ wsU := wsU_at 1483 rfl rfl
set_option maxRecDepth 100000 in
theorem wd_1050 : Cond.methodLink RX12 362 yX12_isSaid ∈ wsU := wsU_at 1862 rfl rfl
set_option maxRecDepth 100000 in
theorem wd_1051 : Cond.instanceMethod yX12_isSaid ∈ wsU := wsU_at 1864 rfl rfl
set_option maxRecDepth 100000 in
theorem wd_1052 : Cond.selects RX12 yX12_isSaid yX12_isSaid ∈ wsU := wsU_at 103 rfl rfl
set_option maxRecDepth 100000 in
theorem wd_1053 : Cond.code yX12_isSaid cX12_isSaid 2 (some .boolean) ∈ wsU := wsU_at 1865 rfl rfl
set_option maxRecDepth 100000 in
theorem wd_1054 : Cond.methodLink RX12 358 yX12_aligns ∈ wsU := wsU_at 1866 rfl rfl
set_option maxRecDepth 100000 in
theorem wd_1055 : Cond.instanceMethod yX12_aligns ∈ wsU := wsU_at 1868 rfl rfl
set_option maxRecDepth 100000 in
theorem wd_1056 : Cond.selects RX12 yX12_aligns yX12_aligns ∈ wsU := wsU_at 104 rfl rfl
set_option maxRecDepth 100000 in
theorem wd_1057 : Cond.code yX12_aligns cX12_aligns 10 (some .boolean) ∈ wsU := wsU_at 1869 rfl rfl
set_option maxRecDepth 100000 in
theorem wd_1085 : Cond.methodLink RX12 365 yX12_takesRow ∈ wsU := wsU_at 1878 rfl rfl
set_option maxRecDepth 100000 in
theorem wd_1086 : Cond.instanceMethod yX12_takesRow ∈ wsU := wsU_at 1880 rfl rfl
set_option maxRecDepth 100000 in
theorem wd_1087 : Cond.selects RX12 yX12_takesRow yX12_takesRow ∈ wsU := wsU_at 105 rfl rfl
set_option maxRecDepth 100000 in
theorem wd_1088 : Cond.code yX12_takesRow cX12_takesRow 5 (some .int) ∈ wsU := wsU_at 1881 rfl rfl
set_option maxRecDepth 100000 in
theorem wd_1119 : Cond.methodLink RX12 371 yX12_age ∈ wsU := wsU_at 1890 rfl rfl
set_option maxRecDepth 100000 in
theorem wd_1120 : Cond.instanceMethod yX12_age ∈ wsU := wsU_at 1892 rfl rfl
set_option maxRecDepth 100000 in
theorem wd_1121 : Cond.selects RX12 yX12_age yX12_age ∈ wsU := wsU_at 106 rfl rfl
set_option maxRecDepth 100000 in
theorem wd_1122 : Cond.code yX12_age cX12_age 5 none ∈ wsU := wsU_at 1893 rfl rfl
set_option maxRecDepth 100000 in
theorem wd_1289 : Cond.methodLink RX12 380 yX12_isRule ∈ wsU := wsU_at 1902 rfl rfl
set_option maxRecDepth 100000 in
theorem wd_1290 : Cond.instanceMethod yX12_isRule ∈ wsU := wsU_at 1904 rfl rfl
set_option maxRecDepth 100000 in
theorem wd_1291 : Cond.selects RX12 yX12_isRule yX12_isRule ∈ wsU := wsU_at 107 rfl rfl
set_option maxRecDepth 100000 in
theorem wd_1292 : Cond.code yX12_isRule cX12_isRule 2 (some .boolean) ∈ wsU := wsU_at 1905 rfl rfl
set_option maxRecDepth 100000 in
theorem wd_1297 : Cond.methodLink RX12 377 yX12_never ∈ wsU := wsU_at 1910 rfl rfl
set_option maxRecDepth 100000 in
theorem wd_1298 : Cond.instanceMethod yX12_never ∈ wsU := wsU_at 1912 rfl rfl
set_option maxRecDepth 100000 in
theorem wd_1299 : Cond.selects RX12 yX12_never yX12_never ∈ wsU := wsU_at 109 rfl rfl
set_option maxRecDepth 100000 in
theorem wd_1300 : Cond.code yX12_never cX12_never 2 (some .boolean) ∈ wsU := wsU_at 1913 rfl rfl

set_option maxRecDepth 100000 in
theorem wd_51 : Cond.initialized RX10 ∈ wsU := wsU_at 129 rfl rfl
set_option maxRecDepth 100000 in
theorem wd_52 : Cond.fieldLink RX3 21 "SaidShallow$Rows" "words" "LSaidShallow$Words;" ∈ wsU := wsU_at 425 rfl rfl
set_option maxRecDepth 100000 in
theorem wd_56 : Cond.fieldLink RX3 28 "SaidShallow$Rows" "track" "LSaidShallow$Track;" ∈ wsU := wsU_at 427 rfl rfl
set_option maxRecDepth 100000 in
theorem wd_59 : Cond.initialized RX1 ∈ wsU := wsU_at 131 rfl rfl
set_option maxRecDepth 100000 in
theorem wd_60 : Cond.fieldLink RX3 35 "SaidShallow$Rows" "deadEnds" "LSaidShallow$DeadEnds;" ∈ wsU := wsU_at 428 rfl rfl
set_option maxRecDepth 100000 in
theorem wd_65 : Cond.fieldLink RX3 53 "SaidShallow$Rows" "masks" "[I" ∈ wsU := wsU_at 440 rfl rfl
set_option maxRecDepth 100000 in
theorem wd_128 : Cond.fieldLink RX1 11 "SaidShallow$DeadEnds" "slots" "[I" ∈ wsU := wsU_at 402 rfl rfl
set_option maxRecDepth 100000 in
theorem wd_129 : Cond.constant RX1 15 (32768) ∈ wsU := wsU_at 401 rfl rfl
set_option maxRecDepth 100000 in
theorem wd_131 : Cond.fieldLink RX1 16 "SaidShallow$DeadEnds" "pool" "[J" ∈ wsU := wsU_at 403 rfl rfl
set_option maxRecDepth 100000 in
theorem wd_132 : Cond.fieldLink RX1 22 "SaidShallow$DeadEnds" "key" "[J" ∈ wsU := wsU_at 404 rfl rfl
set_option maxRecDepth 100000 in
theorem wd_733 : Cond.fieldLink RX3 87 "SaidShallow$Rows" "collecting" "Z" ∈ wsU := wsU_at 432 rfl rfl
set_option maxRecDepth 100000 in
theorem wd_734 : Cond.fieldLink RX3 94 "SaidShallow$Rows" "watched" "I" ∈ wsU := wsU_at 433 rfl rfl
set_option maxRecDepth 100000 in
theorem wd_752 : Cond.fieldLink RX1 31 "SaidShallow$DeadEnds" "count" "I" ∈ wsU := wsU_at 406 rfl rfl
set_option maxRecDepth 100000 in
theorem wd_753 : Cond.fieldLink RX1 35 "SaidShallow$DeadEnds" "used" "I" ∈ wsU := wsU_at 407 rfl rfl
set_option maxRecDepth 100000 in
theorem wd_754 : Cond.methodLink RX1 25 yJ7_fill_53178 ∈ wsU := wsU_at 1030 rfl rfl
set_option maxRecDepth 100000 in
theorem wd_762 : Cond.methodLink RX3 110 yX3_descend ∈ wsU := wsU_at 1035 rfl rfl
set_option maxRecDepth 100000 in
theorem wd_763 : Cond.instanceMethod yX3_descend ∈ wsU := wsU_at 1037 rfl rfl
set_option maxRecDepth 100000 in
theorem wd_764 : Cond.selects RX3 yX3_descend yX3_descend ∈ wsU := wsU_at 30 rfl rfl
set_option maxRecDepth 100000 in
theorem wd_765 : Cond.code yX3_descend cX3_descend 18 (some .boolean) ∈ wsU := wsU_at 1038 rfl rfl
set_option maxRecDepth 100000 in
theorem wd_766 : Cond.fieldLink RX3 145 "SaidShallow$Words" "tooMany" "Z" ∈ wsU := wsU_at 364 rfl rfl
set_option maxRecDepth 100000 in
theorem wd_767 : Cond.fieldLink RX3 151 "SaidShallow$Tongue" "saidOf" "[I" ∈ wsU := wsU_at 292 rfl rfl
set_option maxRecDepth 100000 in
theorem wd_768 : Cond.fieldLink RX3 154 "SaidShallow$Tongue" "deepOf" "[I" ∈ wsU := wsU_at 288 rfl rfl
set_option maxRecDepth 100000 in
theorem wd_769 : Cond.fieldLink RX3 164 "SaidShallow$Words" "WEIGHTS" "[I" ∈ wsU := wsU_at 1109 rfl rfl
set_option maxRecDepth 100000 in
theorem wd_770 : Cond.methodLink RX3 133 yX1_makeKey ∈ wsU := wsU_at 1039 rfl rfl
set_option maxRecDepth 100000 in
theorem wd_771 : Cond.instanceMethod yX1_makeKey ∈ wsU := wsU_at 1040 rfl rfl
set_option maxRecDepth 100000 in
theorem wd_772 : Cond.selects RX1 yX1_makeKey yX1_makeKey ∈ wsU := wsU_at 1041 rfl rfl
set_option maxRecDepth 100000 in
theorem wd_773 : Cond.code yX1_makeKey cX1_makeKey 5 none ∈ wsU := wsU_at 1042 rfl rfl
set_option maxRecDepth 100000 in
theorem wd_774 : Cond.fieldLink RX1 42 "SaidShallow$DeadEnds" "keyLength" "I" ∈ wsU := wsU_at 405 rfl rfl
set_option maxRecDepth 100000 in
theorem wd_775 : Cond.methodLink RX1 38 yX8_writeTo ∈ wsU := wsU_at 1043 rfl rfl
set_option maxRecDepth 100000 in
theorem wd_776 : Cond.instanceMethod yX8_writeTo ∈ wsU := wsU_at 1044 rfl rfl
set_option maxRecDepth 100000 in
theorem wd_777 : Cond.selects RX8 yX8_writeTo yX8_writeTo ∈ wsU := wsU_at 1045 rfl rfl
set_option maxRecDepth 100000 in
theorem wd_778 : Cond.code yX8_writeTo cX8_writeTo 11 (some .int) ∈ wsU := wsU_at 1046 rfl rfl
set_option maxRecDepth 100000 in
theorem wd_779 : Cond.methodLink RX3 137 yX1_hasKey ∈ wsU := wsU_at 1047 rfl rfl
set_option maxRecDepth 100000 in
theorem wd_780 : Cond.instanceMethod yX1_hasKey ∈ wsU := wsU_at 1048 rfl rfl
set_option maxRecDepth 100000 in
theorem wd_781 : Cond.selects RX1 yX1_hasKey yX1_hasKey ∈ wsU := wsU_at 1049 rfl rfl
set_option maxRecDepth 100000 in
theorem wd_782 : Cond.code yX1_hasKey cX1_hasKey 2 (some .boolean) ∈ wsU := wsU_at 1050 rfl rfl
set_option maxRecDepth 100000 in
theorem wd_783 : Cond.methodLink RX1 45 yX1_slotOfKey ∈ wsU := wsU_at 1051 rfl rfl
set_option maxRecDepth 100000 in
theorem wd_784 : Cond.instanceMethod yX1_slotOfKey ∈ wsU := wsU_at 1053 rfl rfl
set_option maxRecDepth 100000 in
theorem wd_785 : Cond.selects RX1 yX1_slotOfKey yX1_slotOfKey ∈ wsU := wsU_at 31 rfl rfl
set_option maxRecDepth 100000 in
theorem wd_786 : Cond.code yX1_slotOfKey cX1_slotOfKey 5 (some .int) ∈ wsU := wsU_at 1054 rfl rfl
set_option maxRecDepth 100000 in
theorem wd_787 : Cond.constantLong RX1 55 (6364136223846793005) ∈ wsU := wsU_at 1055 rfl rfl
set_option maxRecDepth 100000 in
theorem wd_788 : Cond.methodLink RX1 57 yX1_isKeyAt ∈ wsU := wsU_at 1056 rfl rfl
set_option maxRecDepth 100000 in
theorem wd_789 : Cond.instanceMethod yX1_isKeyAt ∈ wsU := wsU_at 1058 rfl rfl
set_option maxRecDepth 100000 in
theorem wd_790 : Cond.selects RX1 yX1_isKeyAt yX1_isKeyAt ∈ wsU := wsU_at 32 rfl rfl
set_option maxRecDepth 100000 in
theorem wd_791 : Cond.code yX1_isKeyAt cX1_isKeyAt 3 (some .boolean) ∈ wsU := wsU_at 1059 rfl rfl
set_option maxRecDepth 100000 in
theorem wd_792 : Cond.methodLink RX3 141 yX3_complete ∈ wsU := wsU_at 1060 rfl rfl
set_option maxRecDepth 100000 in
theorem wd_793 : Cond.instanceMethod yX3_complete ∈ wsU := wsU_at 1062 rfl rfl
set_option maxRecDepth 100000 in
theorem wd_794 : Cond.selects RX3 yX3_complete yX3_complete ∈ wsU := wsU_at 33 rfl rfl
set_option maxRecDepth 100000 in
theorem wd_795 : Cond.code yX3_complete cX3_complete 4 (some .boolean) ∈ wsU := wsU_at 1063 rfl rfl
set_option maxRecDepth 100000 in
theorem wd_797 : Cond.methodLink RX3 176 yX8_finish ∈ wsU := wsU_at 1064 rfl rfl
set_option maxRecDepth 100000 in
theorem wd_798 : Cond.instanceMethod yX8_finish ∈ wsU := wsU_at 1065 rfl rfl
set_option maxRecDepth 100000 in
theorem wd_799 : Cond.selects RX8 yX8_finish yX8_finish ∈ wsU := wsU_at 1066 rfl rfl
set_option maxRecDepth 100000 in
theorem wd_800 : Cond.code yX8_finish cX8_finish 8 (some .int) ∈ wsU := wsU_at 1067 rfl rfl
set_option maxRecDepth 100000 in
theorem wd_806 : Cond.methodLink RX3 161 yX3_isLeft ∈ wsU := wsU_at 1073 rfl rfl
set_option maxRecDepth 100000 in
theorem wd_807 : Cond.instanceMethod yX3_isLeft ∈ wsU := wsU_at 1075 rfl rfl
set_option maxRecDepth 100000 in
theorem wd_808 : Cond.selects RX3 yX3_isLeft yX3_isLeft ∈ wsU := wsU_at 35 rfl rfl
set_option maxRecDepth 100000 in
theorem wd_809 : Cond.code yX3_isLeft cX3_isLeft 2 (some .boolean) ∈ wsU := wsU_at 1076 rfl rfl
set_option maxRecDepth 100000 in
theorem wd_810 : Cond.methodLink RX3 179 yX3_hasWanted ∈ wsU := wsU_at 1077 rfl rfl
set_option maxRecDepth 100000 in
theorem wd_811 : Cond.instanceMethod yX3_hasWanted ∈ wsU := wsU_at 1079 rfl rfl
set_option maxRecDepth 100000 in
theorem wd_812 : Cond.selects RX3 yX3_hasWanted yX3_hasWanted ∈ wsU := wsU_at 36 rfl rfl
set_option maxRecDepth 100000 in
theorem wd_813 : Cond.code yX3_hasWanted cX3_hasWanted 4 (some .boolean) ∈ wsU := wsU_at 1080 rfl rfl
set_option maxRecDepth 100000 in
theorem wd_814 : Cond.methodLink RX3 182 yX10_add ∈ wsU := wsU_at 1081 rfl rfl
set_option maxRecDepth 100000 in
theorem wd_815 : Cond.instanceMethod yX10_add ∈ wsU := wsU_at 1082 rfl rfl
set_option maxRecDepth 100000 in
theorem wd_816 : Cond.selects RX10 yX10_add yX10_add ∈ wsU := wsU_at 1083 rfl rfl
set_option maxRecDepth 100000 in
theorem wd_817 : Cond.code yX10_add cX10_add 5 none ∈ wsU := wsU_at 1084 rfl rfl
set_option maxRecDepth 100000 in
theorem wd_819 : Cond.methodLink RX3 148 yX3_choiceOf ∈ wsU := wsU_at 1086 rfl rfl
set_option maxRecDepth 100000 in
theorem wd_820 : Cond.instanceMethod yX3_choiceOf ∈ wsU := wsU_at 1088 rfl rfl
set_option maxRecDepth 100000 in
theorem wd_821 : Cond.selects RX3 yX3_choiceOf yX3_choiceOf ∈ wsU := wsU_at 37 rfl rfl
set_option maxRecDepth 100000 in
theorem wd_822 : Cond.code yX3_choiceOf cX3_choiceOf 4 (some .int) ∈ wsU := wsU_at 1089 rfl rfl
set_option maxRecDepth 100000 in
theorem wd_825 : Cond.methodLink RX3 157 yX8_step ∈ wsU := wsU_at 1090 rfl rfl
set_option maxRecDepth 100000 in
theorem wd_826 : Cond.instanceMethod yX8_step ∈ wsU := wsU_at 1091 rfl rfl
set_option maxRecDepth 100000 in
theorem wd_827 : Cond.selects RX8 yX8_step yX8_step ∈ wsU := wsU_at 1092 rfl rfl
set_option maxRecDepth 100000 in
theorem wd_828 : Cond.code yX8_step cX8_step 12 (some .int) ∈ wsU := wsU_at 1093 rfl rfl
set_option maxRecDepth 100000 in
theorem wd_850 : Cond.methodLink RX3 167 yX1_addKey ∈ wsU := wsU_at 1111 rfl rfl
set_option maxRecDepth 100000 in
theorem wd_851 : Cond.instanceMethod yX1_addKey ∈ wsU := wsU_at 1112 rfl rfl
set_option maxRecDepth 100000 in
theorem wd_852 : Cond.selects RX1 yX1_addKey yX1_addKey ∈ wsU := wsU_at 1113 rfl rfl
set_option maxRecDepth 100000 in
theorem wd_853 : Cond.code yX1_addKey cX1_addKey 3 none ∈ wsU := wsU_at 1114 rfl rfl
set_option maxRecDepth 100000 in
theorem wd_854 : Cond.methodLink RX1 49 arraycopyName ∈ wsU := wsU_at 1115 rfl rfl
set_option maxRecDepth 100000 in
theorem wd_982 : Cond.fieldLink RX10 29 "SaidShallow$Words" "WEIGHTS" "[I" ∈ wsU := wsU_at 1128 rfl rfl
set_option maxRecDepth 100000 in
theorem wd_983 : Cond.methodLink RX10 36 yX10_letterOf ∈ wsU := wsU_at 1129 rfl rfl
set_option maxRecDepth 100000 in
theorem wd_984 : Cond.instanceMethod yX10_letterOf ∈ wsU := wsU_at 1130 rfl rfl
set_option maxRecDepth 100000 in
theorem wd_985 : Cond.selects RX10 yX10_letterOf yX10_letterOf ∈ wsU := wsU_at 1131 rfl rfl
set_option maxRecDepth 100000 in
theorem wd_986 : Cond.code yX10_letterOf cX10_letterOf 3 (some .int) ∈ wsU := wsU_at 1132 rfl rfl
set_option maxRecDepth 100000 in
theorem wd_987 : Cond.methodLink RX10 32 yX10_signIn ∈ wsU := wsU_at 1133 rfl rfl
set_option maxRecDepth 100000 in
theorem wd_988 : Cond.static yX10_signIn ∈ wsU := wsU_at 1134 rfl rfl
set_option maxRecDepth 100000 in
theorem wd_989 : Cond.code yX10_signIn cX10_signIn 2 (some .int) ∈ wsU := wsU_at 1135 rfl rfl
theorem ti_1024 : (1024 : Int32).toInt = 1024 := by decide
theorem ti_3072 : (3072 : Int32).toInt = 3072 := by decide
theorem ti_4095 : (4095 : Int32).toInt = 4095 := by decide
theorem ti_32768 : (32768 : Int32).toInt = 32768 := by decide

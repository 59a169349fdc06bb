set_option maxRecDepth 100000 in
theorem wd_0 : Cond.classLink RL 7 RX11 ∈ wsU := wsU_at 144 rfl rfl
set_option maxRecDepth 100000 in
theorem wd_1 : Cond.instantiable RX11 19 ∈ wsU := wsU_at 145 rfl rfl
set_option maxRecDepth 100000 in
theorem wd_3 : Cond.classLink RL 10 RX12 ∈ wsU := wsU_at 1439 rfl rfl
set_option maxRecDepth 100000 in
theorem wd_4 : Cond.instantiable RX12 56 ∈ wsU := wsU_at 1440 rfl rfl
set_option maxRecDepth 100000 in
theorem wd_6 : Cond.methodLink RL 9 yX11_init ∈ wsU := wsU_at 146 rfl rfl
set_option maxRecDepth 100000 in
theorem wd_7 : Cond.instanceMethod yX11_init ∈ wsU := wsU_at 147 rfl rfl
set_option maxRecDepth 100000 in
theorem wd_8 : Cond.code yX11_init cX11_init 1 none ∈ wsU := wsU_at 148 rfl rfl
set_option maxRecDepth 100000 in
theorem wd_165 : Cond.methodLink RL 12 yX12_init ∈ wsU := wsU_at 1441 rfl rfl
set_option maxRecDepth 100000 in
theorem wd_166 : Cond.instanceMethod yX12_init ∈ wsU := wsU_at 1442 rfl rfl
set_option maxRecDepth 100000 in
theorem wd_167 : Cond.code yX12_init cX12_init 1 none ∈ wsU := wsU_at 1443 rfl rfl
set_option maxRecDepth 100000 in
theorem wd_205 : Cond.methodLink RL 13 yX11_feed ∈ wsU := wsU_at 670 rfl rfl
set_option maxRecDepth 100000 in
theorem wd_206 : Cond.instanceMethod yX11_feed ∈ wsU := wsU_at 671 rfl rfl
set_option maxRecDepth 100000 in
theorem wd_207 : Cond.selects RX11 yX11_feed yX11_feed ∈ wsU := wsU_at 672 rfl rfl
set_option maxRecDepth 100000 in
theorem wd_208 : Cond.code yX11_feed cX11_feed 6 (some .int) ∈ wsU := wsU_at 673 rfl rfl
set_option maxRecDepth 100000 in
theorem wd_214 : Cond.methodLink RL 17 yX12_feed ∈ wsU := wsU_at 1618 rfl rfl
set_option maxRecDepth 100000 in
theorem wd_215 : Cond.instanceMethod yX12_feed ∈ wsU := wsU_at 1619 rfl rfl
set_option maxRecDepth 100000 in
theorem wd_216 : Cond.selects RX12 yX12_feed yX12_feed ∈ wsU := wsU_at 1620 rfl rfl
set_option maxRecDepth 100000 in
theorem wd_217 : Cond.code yX12_feed cX12_feed 8 (some .int) ∈ wsU := wsU_at 1621 rfl rfl
set_option maxRecDepth 100000 in
theorem wd_219 : Cond.methodLink RL 18 yX11_end ∈ wsU := wsU_at 678 rfl rfl
set_option maxRecDepth 100000 in
theorem wd_220 : Cond.instanceMethod yX11_end ∈ wsU := wsU_at 679 rfl rfl
set_option maxRecDepth 100000 in
theorem wd_221 : Cond.selects RX11 yX11_end yX11_end ∈ wsU := wsU_at 680 rfl rfl
set_option maxRecDepth 100000 in
theorem wd_222 : Cond.code yX11_end cX11_end 2 (some .boolean) ∈ wsU := wsU_at 681 rfl rfl
set_option maxRecDepth 100000 in
theorem wd_223 : Cond.methodLink RL 22 yX12_end ∈ wsU := wsU_at 1622 rfl rfl
set_option maxRecDepth 100000 in
theorem wd_224 : Cond.instanceMethod yX12_end ∈ wsU := wsU_at 1623 rfl rfl
set_option maxRecDepth 100000 in
theorem wd_225 : Cond.selects RX12 yX12_end yX12_end ∈ wsU := wsU_at 1624 rfl rfl
set_option maxRecDepth 100000 in
theorem wd_226 : Cond.code yX12_end cX12_end 2 (some .boolean) ∈ wsU := wsU_at 1625 rfl rfl
set_option maxRecDepth 100000 in
theorem wd_230 : Cond.methodLink RL 23 yX11_text ∈ wsU := wsU_at 682 rfl rfl
set_option maxRecDepth 100000 in
theorem wd_231 : Cond.instanceMethod yX11_text ∈ wsU := wsU_at 683 rfl rfl
set_option maxRecDepth 100000 in
theorem wd_232 : Cond.selects RX11 yX11_text yX11_text ∈ wsU := wsU_at 684 rfl rfl
set_option maxRecDepth 100000 in
theorem wd_233 : Cond.code yX11_text cX11_text 1 (some .int) ∈ wsU := wsU_at 685 rfl rfl
set_option maxRecDepth 100000 in
theorem wd_562 : Cond.methodLink RL 27 yX12_text ∈ wsU := wsU_at 1629 rfl rfl
set_option maxRecDepth 100000 in
theorem wd_563 : Cond.instanceMethod yX12_text ∈ wsU := wsU_at 1630 rfl rfl
set_option maxRecDepth 100000 in
theorem wd_564 : Cond.selects RX12 yX12_text yX12_text ∈ wsU := wsU_at 1631 rfl rfl
set_option maxRecDepth 100000 in
theorem wd_565 : Cond.code yX12_text cX12_text 3 (some .int) ∈ wsU := wsU_at 1632 rfl rfl
set_option maxRecDepth 100000 in
theorem wd_663 : Cond.methodLink RL 28 yX11_fault ∈ wsU := wsU_at 972 rfl rfl
set_option maxRecDepth 100000 in
theorem wd_664 : Cond.instanceMethod yX11_fault ∈ wsU := wsU_at 973 rfl rfl
set_option maxRecDepth 100000 in
theorem wd_665 : Cond.selects RX11 yX11_fault yX11_fault ∈ wsU := wsU_at 974 rfl rfl
set_option maxRecDepth 100000 in
theorem wd_666 : Cond.code yX11_fault cX11_fault 2 (some .int) ∈ wsU := wsU_at 975 rfl rfl
set_option maxRecDepth 100000 in
theorem wd_669 : Cond.methodLink RL 32 yX12_fault ∈ wsU := wsU_at 1725 rfl rfl
set_option maxRecDepth 100000 in
theorem wd_670 : Cond.instanceMethod yX12_fault ∈ wsU := wsU_at 1726 rfl rfl
set_option maxRecDepth 100000 in
theorem wd_671 : Cond.selects RX12 yX12_fault yX12_fault ∈ wsU := wsU_at 1727 rfl rfl
set_option maxRecDepth 100000 in
theorem wd_672 : Cond.code yX12_fault cX12_fault 2 (some .int) ∈ wsU := wsU_at 1728 rfl rfl
set_option maxRecDepth 100000 in
theorem wd_673 : Cond.methodLink RL 33 yX11_use ∈ wsU := wsU_at 976 rfl rfl
set_option maxRecDepth 100000 in
theorem wd_674 : Cond.instanceMethod yX11_use ∈ wsU := wsU_at 977 rfl rfl
set_option maxRecDepth 100000 in
theorem wd_675 : Cond.selects RX11 yX11_use yX11_use ∈ wsU := wsU_at 978 rfl rfl
set_option maxRecDepth 100000 in
theorem wd_676 : Cond.code yX11_use cX11_use 2 (some .boolean) ∈ wsU := wsU_at 979 rfl rfl
set_option maxRecDepth 100000 in
theorem wd_682 : Cond.methodLink RL 36 yX12_use ∈ wsU := wsU_at 1729 rfl rfl
set_option maxRecDepth 100000 in
theorem wd_683 : Cond.instanceMethod yX12_use ∈ wsU := wsU_at 1730 rfl rfl
set_option maxRecDepth 100000 in
theorem wd_684 : Cond.selects RX12 yX12_use yX12_use ∈ wsU := wsU_at 1731 rfl rfl
set_option maxRecDepth 100000 in
theorem wd_685 : Cond.code yX12_use cX12_use 2 (some .boolean) ∈ wsU := wsU_at 1732 rfl rfl
set_option maxRecDepth 100000 in
theorem wd_690 : Cond.methodLink RL 37 yX11_slack ∈ wsU := wsU_at 984 rfl rfl
set_option maxRecDepth 100000 in
theorem wd_691 : Cond.instanceMethod yX11_slack ∈ wsU := wsU_at 985 rfl rfl
set_option maxRecDepth 100000 in
theorem wd_692 : Cond.selects RX11 yX11_slack yX11_slack ∈ wsU := wsU_at 986 rfl rfl
set_option maxRecDepth 100000 in
theorem wd_693 : Cond.code yX11_slack cX11_slack 2 (some .boolean) ∈ wsU := wsU_at 987 rfl rfl
set_option maxRecDepth 100000 in
theorem wd_695 : Cond.methodLink RL 40 yX12_slack ∈ wsU := wsU_at 1737 rfl rfl
set_option maxRecDepth 100000 in
theorem wd_696 : Cond.instanceMethod yX12_slack ∈ wsU := wsU_at 1738 rfl rfl
set_option maxRecDepth 100000 in
theorem wd_697 : Cond.selects RX12 yX12_slack yX12_slack ∈ wsU := wsU_at 1739 rfl rfl
set_option maxRecDepth 100000 in
theorem wd_698 : Cond.code yX12_slack cX12_slack 2 (some .boolean) ∈ wsU := wsU_at 1740 rfl rfl
set_option maxRecDepth 100000 in
theorem wd_699 : Cond.methodLink RL 41 yX11_say ∈ wsU := wsU_at 988 rfl rfl
set_option maxRecDepth 100000 in
theorem wd_700 : Cond.instanceMethod yX11_say ∈ wsU := wsU_at 989 rfl rfl
set_option maxRecDepth 100000 in
theorem wd_701 : Cond.selects RX11 yX11_say yX11_say ∈ wsU := wsU_at 990 rfl rfl
set_option maxRecDepth 100000 in
theorem wd_702 : Cond.code yX11_say cX11_say 1 (some .int) ∈ wsU := wsU_at 991 rfl rfl
set_option maxRecDepth 100000 in
theorem wd_855 : Cond.methodLink RL 44 yX12_say ∈ wsU := wsU_at 1745 rfl rfl
set_option maxRecDepth 100000 in
theorem wd_856 : Cond.instanceMethod yX12_say ∈ wsU := wsU_at 1746 rfl rfl
set_option maxRecDepth 100000 in
theorem wd_857 : Cond.selects RX12 yX12_say yX12_say ∈ wsU := wsU_at 1747 rfl rfl
set_option maxRecDepth 100000 in
theorem wd_858 : Cond.code yX12_say cX12_say 1 (some .int) ∈ wsU := wsU_at 1748 rfl rfl
set_option maxRecDepth 100000 in
theorem wd_966 : Cond.methodLink RL 45 yX11_hear ∈ wsU := wsU_at 1116 rfl rfl
set_option maxRecDepth 100000 in
theorem wd_967 : Cond.instanceMethod yX11_hear ∈ wsU := wsU_at 1117 rfl rfl
set_option maxRecDepth 100000 in
theorem wd_968 : Cond.selects RX11 yX11_hear yX11_hear ∈ wsU := wsU_at 1118 rfl rfl
set_option maxRecDepth 100000 in
theorem wd_969 : Cond.code yX11_hear cX11_hear 1 (some .int) ∈ wsU := wsU_at 1119 rfl rfl
set_option maxRecDepth 100000 in
theorem wd_970 : Cond.methodLink RL 48 yX12_hear ∈ wsU := wsU_at 1850 rfl rfl
set_option maxRecDepth 100000 in
theorem wd_971 : Cond.instanceMethod yX12_hear ∈ wsU := wsU_at 1851 rfl rfl
set_option maxRecDepth 100000 in
theorem wd_972 : Cond.selects RX12 yX12_hear yX12_hear ∈ wsU := wsU_at 1852 rfl rfl
set_option maxRecDepth 100000 in
theorem wd_973 : Cond.code yX12_hear cX12_hear 1 (some .int) ∈ wsU := wsU_at 1853 rfl rfl
set_option maxRecDepth 100000 in
theorem wd_974 : Cond.methodLink RL 49 yX11_found ∈ wsU := wsU_at 1120 rfl rfl
set_option maxRecDepth 100000 in
theorem wd_975 : Cond.instanceMethod yX11_found ∈ wsU := wsU_at 1121 rfl rfl
set_option maxRecDepth 100000 in
theorem wd_976 : Cond.selects RX11 yX11_found yX11_found ∈ wsU := wsU_at 1122 rfl rfl
set_option maxRecDepth 100000 in
theorem wd_977 : Cond.code yX11_found cX11_found 3 (some .int) ∈ wsU := wsU_at 1123 rfl rfl
set_option maxRecDepth 100000 in
theorem wd_991 : Cond.methodLink RL 53 yX12_found ∈ wsU := wsU_at 1854 rfl rfl
set_option maxRecDepth 100000 in
theorem wd_992 : Cond.instanceMethod yX12_found ∈ wsU := wsU_at 1855 rfl rfl
set_option maxRecDepth 100000 in
theorem wd_993 : Cond.selects RX12 yX12_found yX12_found ∈ wsU := wsU_at 1856 rfl rfl
set_option maxRecDepth 100000 in
theorem wd_994 : Cond.code yX12_found cX12_found 9 (some .int) ∈ wsU := wsU_at 1857 rfl rfl
set_option maxRecDepth 100000 in
theorem wd_995 : Cond.methodLink RL 54 yX11_understand ∈ wsU := wsU_at 1137 rfl rfl
set_option maxRecDepth 100000 in
theorem wd_996 : Cond.instanceMethod yX11_understand ∈ wsU := wsU_at 1138 rfl rfl
set_option maxRecDepth 100000 in
theorem wd_997 : Cond.selects RX11 yX11_understand yX11_understand ∈ wsU := wsU_at 1139 rfl rfl
set_option maxRecDepth 100000 in
theorem wd_998 : Cond.code yX11_understand cX11_understand 4 (some .int) ∈ wsU := wsU_at 1140 rfl rfl
set_option maxRecDepth 100000 in
theorem wd_1045 : Cond.methodLink RL 57 yX12_understand ∈ wsU := wsU_at 1858 rfl rfl
set_option maxRecDepth 100000 in
theorem wd_1046 : Cond.instanceMethod yX12_understand ∈ wsU := wsU_at 1859 rfl rfl
set_option maxRecDepth 100000 in
theorem wd_1047 : Cond.selects RX12 yX12_understand yX12_understand ∈ wsU := wsU_at 1860 rfl rfl
set_option maxRecDepth 100000 in
theorem wd_1048 : Cond.code yX12_understand cX12_understand 4 (some .int) ∈ wsU := wsU_at 1861 rfl rfl
set_option maxRecDepth 100000 in
theorem wd_1058 : Cond.methodLink RL 58 yX11_meant ∈ wsU := wsU_at 1184 rfl rfl
set_option maxRecDepth 100000 in
theorem wd_1059 : Cond.instanceMethod yX11_meant ∈ wsU := wsU_at 1185 rfl rfl
set_option maxRecDepth 100000 in
theorem wd_1060 : Cond.selects RX11 yX11_meant yX11_meant ∈ wsU := wsU_at 1186 rfl rfl
set_option maxRecDepth 100000 in
theorem wd_1061 : Cond.code yX11_meant cX11_meant 3 (some .int) ∈ wsU := wsU_at 1187 rfl rfl
set_option maxRecDepth 100000 in
theorem wd_1062 : Cond.methodLink RL 61 yX12_meant ∈ wsU := wsU_at 1870 rfl rfl
set_option maxRecDepth 100000 in
theorem wd_1063 : Cond.instanceMethod yX12_meant ∈ wsU := wsU_at 1871 rfl rfl
set_option maxRecDepth 100000 in
theorem wd_1064 : Cond.selects RX12 yX12_meant yX12_meant ∈ wsU := wsU_at 1872 rfl rfl
set_option maxRecDepth 100000 in
theorem wd_1065 : Cond.code yX12_meant cX12_meant 3 (some .int) ∈ wsU := wsU_at 1873 rfl rfl
set_option maxRecDepth 100000 in
theorem wd_1066 : Cond.methodLink RL 62 yX11_walk ∈ wsU := wsU_at 1188 rfl rfl
set_option maxRecDepth 100000 in
theorem wd_1067 : Cond.instanceMethod yX11_walk ∈ wsU := wsU_at 1189 rfl rfl
set_option maxRecDepth 100000 in
theorem wd_1068 : Cond.selects RX11 yX11_walk yX11_walk ∈ wsU := wsU_at 1190 rfl rfl
set_option maxRecDepth 100000 in
theorem wd_1069 : Cond.code yX11_walk cX11_walk 3 (some .int) ∈ wsU := wsU_at 1191 rfl rfl
set_option maxRecDepth 100000 in
theorem wd_1081 : Cond.methodLink RL 65 yX12_walk ∈ wsU := wsU_at 1874 rfl rfl
set_option maxRecDepth 100000 in
theorem wd_1082 : Cond.instanceMethod yX12_walk ∈ wsU := wsU_at 1875 rfl rfl
set_option maxRecDepth 100000 in
theorem wd_1083 : Cond.selects RX12 yX12_walk yX12_walk ∈ wsU := wsU_at 1876 rfl rfl
set_option maxRecDepth 100000 in
theorem wd_1084 : Cond.code yX12_walk cX12_walk 4 (some .int) ∈ wsU := wsU_at 1877 rfl rfl
set_option maxRecDepth 100000 in
theorem wd_1089 : Cond.methodLink RL 66 yX11_where ∈ wsU := wsU_at 1202 rfl rfl
set_option maxRecDepth 100000 in
theorem wd_1090 : Cond.instanceMethod yX11_where ∈ wsU := wsU_at 1203 rfl rfl
set_option maxRecDepth 100000 in
theorem wd_1091 : Cond.selects RX11 yX11_where yX11_where ∈ wsU := wsU_at 1204 rfl rfl
set_option maxRecDepth 100000 in
theorem wd_1092 : Cond.code yX11_where cX11_where 1 (some .int) ∈ wsU := wsU_at 1205 rfl rfl
set_option maxRecDepth 100000 in
theorem wd_1093 : Cond.methodLink RL 69 yX12_where ∈ wsU := wsU_at 1882 rfl rfl
set_option maxRecDepth 100000 in
theorem wd_1094 : Cond.instanceMethod yX12_where ∈ wsU := wsU_at 1883 rfl rfl
set_option maxRecDepth 100000 in
theorem wd_1095 : Cond.selects RX12 yX12_where yX12_where ∈ wsU := wsU_at 1884 rfl rfl
set_option maxRecDepth 100000 in
theorem wd_1096 : Cond.code yX12_where cX12_where 1 (some .int) ∈ wsU := wsU_at 1885 rfl rfl
set_option maxRecDepth 100000 in
theorem wd_1097 : Cond.methodLink RL 70 yX11_ages ∈ wsU := wsU_at 1206 rfl rfl
set_option maxRecDepth 100000 in
theorem wd_1098 : Cond.instanceMethod yX11_ages ∈ wsU := wsU_at 1207 rfl rfl
set_option maxRecDepth 100000 in
theorem wd_1099 : Cond.selects RX11 yX11_ages yX11_ages ∈ wsU := wsU_at 1208 rfl rfl
set_option maxRecDepth 100000 in
theorem wd_1100 : Cond.code yX11_ages cX11_ages 4 (some .int) ∈ wsU := wsU_at 1209 rfl rfl
set_option maxRecDepth 100000 in
theorem wd_1115 : Cond.methodLink RL 73 yX12_ages ∈ wsU := wsU_at 1886 rfl rfl
set_option maxRecDepth 100000 in
theorem wd_1116 : Cond.instanceMethod yX12_ages ∈ wsU := wsU_at 1887 rfl rfl
set_option maxRecDepth 100000 in
theorem wd_1117 : Cond.selects RX12 yX12_ages yX12_ages ∈ wsU := wsU_at 1888 rfl rfl
set_option maxRecDepth 100000 in
theorem wd_1118 : Cond.code yX12_ages cX12_ages 2 (some .int) ∈ wsU := wsU_at 1889 rfl rfl
set_option maxRecDepth 100000 in
theorem wd_1123 : Cond.methodLink RL 74 yX11_aged ∈ wsU := wsU_at 1217 rfl rfl
set_option maxRecDepth 100000 in
theorem wd_1124 : Cond.instanceMethod yX11_aged ∈ wsU := wsU_at 1218 rfl rfl
set_option maxRecDepth 100000 in
theorem wd_1125 : Cond.selects RX11 yX11_aged yX11_aged ∈ wsU := wsU_at 1219 rfl rfl
set_option maxRecDepth 100000 in
theorem wd_1126 : Cond.code yX11_aged cX11_aged 2 (some .int) ∈ wsU := wsU_at 1220 rfl rfl
set_option maxRecDepth 100000 in
theorem wd_1127 : Cond.methodLink RL 77 yX12_aged ∈ wsU := wsU_at 1894 rfl rfl
set_option maxRecDepth 100000 in
theorem wd_1128 : Cond.instanceMethod yX12_aged ∈ wsU := wsU_at 1895 rfl rfl
set_option maxRecDepth 100000 in
theorem wd_1129 : Cond.selects RX12 yX12_aged yX12_aged ∈ wsU := wsU_at 1896 rfl rfl
set_option maxRecDepth 100000 in
theorem wd_1130 : Cond.code yX12_aged cX12_aged 2 (some .int) ∈ wsU := wsU_at 1897 rfl rfl
set_option maxRecDepth 100000 in
theorem wd_1131 : Cond.methodLink RL 78 yX11_order ∈ wsU := wsU_at 1221 rfl rfl
set_option maxRecDepth 100000 in
theorem wd_1132 : Cond.instanceMethod yX11_order ∈ wsU := wsU_at 1222 rfl rfl
set_option maxRecDepth 100000 in
theorem wd_1133 : Cond.selects RX11 yX11_order yX11_order ∈ wsU := wsU_at 1223 rfl rfl
set_option maxRecDepth 100000 in
theorem wd_1134 : Cond.code yX11_order cX11_order 3 (some .boolean) ∈ wsU := wsU_at 1224 rfl rfl
set_option maxRecDepth 100000 in
theorem wd_1143 : Cond.methodLink RL 82 yX12_order ∈ wsU := wsU_at 1741 rfl rfl
set_option maxRecDepth 100000 in
theorem wd_1144 : Cond.instanceMethod yX12_order ∈ wsU := wsU_at 1742 rfl rfl
set_option maxRecDepth 100000 in
theorem wd_1145 : Cond.selects RX12 yX12_order yX12_order ∈ wsU := wsU_at 1743 rfl rfl
set_option maxRecDepth 100000 in
theorem wd_1146 : Cond.code yX12_order cX12_order 4 (some .boolean) ∈ wsU := wsU_at 1744 rfl rfl
set_option maxRecDepth 100000 in
theorem wd_1147 : Cond.methodLink RL 83 yX11_lives ∈ wsU := wsU_at 1233 rfl rfl
set_option maxRecDepth 100000 in
theorem wd_1148 : Cond.instanceMethod yX11_lives ∈ wsU := wsU_at 1234 rfl rfl
set_option maxRecDepth 100000 in
theorem wd_1149 : Cond.selects RX11 yX11_lives yX11_lives ∈ wsU := wsU_at 1235 rfl rfl
set_option maxRecDepth 100000 in
theorem wd_1150 : Cond.code yX11_lives cX11_lives 8 (some .int) ∈ wsU := wsU_at 1236 rfl rfl
set_option maxRecDepth 100000 in
theorem wd_1165 : Cond.methodLink RL 87 yX12_lives ∈ wsU := wsU_at 1961 rfl rfl
set_option maxRecDepth 100000 in
theorem wd_1166 : Cond.instanceMethod yX12_lives ∈ wsU := wsU_at 1962 rfl rfl
set_option maxRecDepth 100000 in
theorem wd_1167 : Cond.selects RX12 yX12_lives yX12_lives ∈ wsU := wsU_at 1963 rfl rfl
set_option maxRecDepth 100000 in
theorem wd_1168 : Cond.code yX12_lives cX12_lives 6 (some .int) ∈ wsU := wsU_at 1964 rfl rfl
set_option maxRecDepth 100000 in
theorem wd_1177 : Cond.methodLink RL 88 yX11_orders ∈ wsU := wsU_at 1249 rfl rfl
set_option maxRecDepth 100000 in
theorem wd_1178 : Cond.instanceMethod yX11_orders ∈ wsU := wsU_at 1250 rfl rfl
set_option maxRecDepth 100000 in
theorem wd_1179 : Cond.selects RX11 yX11_orders yX11_orders ∈ wsU := wsU_at 1251 rfl rfl
set_option maxRecDepth 100000 in
theorem wd_1180 : Cond.code yX11_orders cX11_orders 5 (some .int) ∈ wsU := wsU_at 1252 rfl rfl
set_option maxRecDepth 100000 in
theorem wd_1237 : Cond.methodLink RL 91 yX12_orders ∈ wsU := wsU_at 1965 rfl rfl
set_option maxRecDepth 100000 in
theorem wd_1238 : Cond.instanceMethod yX12_orders ∈ wsU := wsU_at 1966 rfl rfl
set_option maxRecDepth 100000 in
theorem wd_1239 : Cond.selects RX12 yX12_orders yX12_orders ∈ wsU := wsU_at 1967 rfl rfl
set_option maxRecDepth 100000 in
theorem wd_1240 : Cond.code yX12_orders cX12_orders 6 (some .int) ∈ wsU := wsU_at 1968 rfl rfl
set_option maxRecDepth 100000 in
theorem wd_1255 : Cond.methodLink RL 92 yX11_quarrel ∈ wsU := wsU_at 1296 rfl rfl
set_option maxRecDepth 100000 in
theorem wd_1256 : Cond.instanceMethod yX11_quarrel ∈ wsU := wsU_at 1297 rfl rfl
set_option maxRecDepth 100000 in
theorem wd_1257 : Cond.selects RX11 yX11_quarrel yX11_quarrel ∈ wsU := wsU_at 1298 rfl rfl
set_option maxRecDepth 100000 in
theorem wd_1258 : Cond.code yX11_quarrel cX11_quarrel 5 (some .int) ∈ wsU := wsU_at 1299 rfl rfl
set_option maxRecDepth 100000 in
theorem wd_1285 : Cond.methodLink RL 95 yX12_quarrel ∈ wsU := wsU_at 1898 rfl rfl
set_option maxRecDepth 100000 in
theorem wd_1286 : Cond.instanceMethod yX12_quarrel ∈ wsU := wsU_at 1899 rfl rfl
set_option maxRecDepth 100000 in
theorem wd_1287 : Cond.selects RX12 yX12_quarrel yX12_quarrel ∈ wsU := wsU_at 1900 rfl rfl
set_option maxRecDepth 100000 in
theorem wd_1288 : Cond.code yX12_quarrel cX12_quarrel 8 (some .int) ∈ wsU := wsU_at 1901 rfl rfl
set_option maxRecDepth 100000 in
theorem wd_1309 : Cond.methodLink RL 96 yX11_parts ∈ wsU := wsU_at 1325 rfl rfl
set_option maxRecDepth 100000 in
theorem wd_1310 : Cond.instanceMethod yX11_parts ∈ wsU := wsU_at 1326 rfl rfl
set_option maxRecDepth 100000 in
theorem wd_1311 : Cond.selects RX11 yX11_parts yX11_parts ∈ wsU := wsU_at 1327 rfl rfl
set_option maxRecDepth 100000 in
theorem wd_1312 : Cond.code yX11_parts cX11_parts 4 (some .int) ∈ wsU := wsU_at 1328 rfl rfl
set_option maxRecDepth 100000 in
theorem wd_1330 : Cond.methodLink RL 99 yX12_parts ∈ wsU := wsU_at 1922 rfl rfl
set_option maxRecDepth 100000 in
theorem wd_1331 : Cond.instanceMethod yX12_parts ∈ wsU := wsU_at 1923 rfl rfl
set_option maxRecDepth 100000 in
theorem wd_1332 : Cond.selects RX12 yX12_parts yX12_parts ∈ wsU := wsU_at 1924 rfl rfl
set_option maxRecDepth 100000 in
theorem wd_1333 : Cond.code yX12_parts cX12_parts 4 (some .int) ∈ wsU := wsU_at 1925 rfl rfl
set_option maxRecDepth 100000 in
theorem wd_1342 : Cond.methodLink RL 100 yX11_idle ∈ wsU := wsU_at 1346 rfl rfl
set_option maxRecDepth 100000 in
theorem wd_1343 : Cond.instanceMethod yX11_idle ∈ wsU := wsU_at 1347 rfl rfl
set_option maxRecDepth 100000 in
theorem wd_1344 : Cond.selects RX11 yX11_idle yX11_idle ∈ wsU := wsU_at 1348 rfl rfl
set_option maxRecDepth 100000 in
theorem wd_1345 : Cond.code yX11_idle cX11_idle 4 (some .int) ∈ wsU := wsU_at 1349 rfl rfl
set_option maxRecDepth 100000 in
theorem wd_1346 : Cond.methodLink RL 103 yX12_idle ∈ wsU := wsU_at 1946 rfl rfl
set_option maxRecDepth 100000 in
theorem wd_1347 : Cond.instanceMethod yX12_idle ∈ wsU := wsU_at 1947 rfl rfl
set_option maxRecDepth 100000 in
theorem wd_1348 : Cond.selects RX12 yX12_idle yX12_idle ∈ wsU := wsU_at 1948 rfl rfl
set_option maxRecDepth 100000 in
theorem wd_1349 : Cond.code yX12_idle cX12_idle 3 (some .int) ∈ wsU := wsU_at 1949 rfl rfl
set_option maxRecDepth 100000 in
theorem wd_1354 : Cond.methodLink RL 104 yX11_fewest ∈ wsU := wsU_at 1350 rfl rfl
set_option maxRecDepth 100000 in
theorem wd_1355 : Cond.instanceMethod yX11_fewest ∈ wsU := wsU_at 1351 rfl rfl
set_option maxRecDepth 100000 in
theorem wd_1356 : Cond.selects RX11 yX11_fewest yX11_fewest ∈ wsU := wsU_at 1352 rfl rfl
set_option maxRecDepth 100000 in
theorem wd_1357 : Cond.code yX11_fewest cX11_fewest 5 (some .int) ∈ wsU := wsU_at 1353 rfl rfl
set_option maxRecDepth 100000 in
theorem wd_1376 : Cond.methodLink RL 107 yX12_fewest ∈ wsU := wsU_at 1954 rfl rfl
set_option maxRecDepth 100000 in
theorem wd_1377 : Cond.instanceMethod yX12_fewest ∈ wsU := wsU_at 1955 rfl rfl
set_option maxRecDepth 100000 in
theorem wd_1378 : Cond.selects RX12 yX12_fewest yX12_fewest ∈ wsU := wsU_at 1956 rfl rfl
set_option maxRecDepth 100000 in
theorem wd_1379 : Cond.code yX12_fewest cX12_fewest 5 (some .int) ∈ wsU := wsU_at 1957 rfl rfl
set_option maxRecDepth 100000 in
theorem wd_1383 : Cond.methodLink RL 108 yX11_example ∈ wsU := wsU_at 1372 rfl rfl
set_option maxRecDepth 100000 in
theorem wd_1384 : Cond.instanceMethod yX11_example ∈ wsU := wsU_at 1373 rfl rfl
set_option maxRecDepth 100000 in
theorem wd_1385 : Cond.selects RX11 yX11_example yX11_example ∈ wsU := wsU_at 1374 rfl rfl
set_option maxRecDepth 100000 in
theorem wd_1386 : Cond.code yX11_example cX11_example 6 (some .int) ∈ wsU := wsU_at 1375 rfl rfl
set_option maxRecDepth 100000 in
theorem wd_1400 : Cond.methodLink RL 112 yX12_example ∈ wsU := wsU_at 1977 rfl rfl
set_option maxRecDepth 100000 in
theorem wd_1401 : Cond.instanceMethod yX12_example ∈ wsU := wsU_at 1978 rfl rfl
set_option maxRecDepth 100000 in
theorem wd_1402 : Cond.selects RX12 yX12_example yX12_example ∈ wsU := wsU_at 1979 rfl rfl
set_option maxRecDepth 100000 in
theorem wd_1403 : Cond.code yX12_example cX12_example 7 (some .int) ∈ wsU := wsU_at 1980 rfl rfl
set_option maxRecDepth 100000 in
theorem wd_1404 : Cond.methodLink RL 113 yX11_fits ∈ wsU := wsU_at 1386 rfl rfl
set_option maxRecDepth 100000 in
theorem wd_1405 : Cond.instanceMethod yX11_fits ∈ wsU := wsU_at 1387 rfl rfl
set_option maxRecDepth 100000 in
theorem wd_1406 : Cond.selects RX11 yX11_fits yX11_fits ∈ wsU := wsU_at 1388 rfl rfl
set_option maxRecDepth 100000 in
theorem wd_1407 : Cond.code yX11_fits cX11_fits 2 (some .int) ∈ wsU := wsU_at 1389 rfl rfl
set_option maxRecDepth 100000 in
theorem wd_1420 : Cond.methodLink RL 116 yX12_fits ∈ wsU := wsU_at 1981 rfl rfl
set_option maxRecDepth 100000 in
theorem wd_1421 : Cond.instanceMethod yX12_fits ∈ wsU := wsU_at 1982 rfl rfl
set_option maxRecDepth 100000 in
theorem wd_1422 : Cond.selects RX12 yX12_fits yX12_fits ∈ wsU := wsU_at 1983 rfl rfl
set_option maxRecDepth 100000 in
theorem wd_1423 : Cond.code yX12_fits cX12_fits 2 (some .int) ∈ wsU := wsU_at 1984 rfl rfl
set_option maxRecDepth 100000 in
theorem wd_1432 : Cond.methodLink RL 117 yX11_learn ∈ wsU := wsU_at 1401 rfl rfl
set_option maxRecDepth 100000 in
theorem wd_1442 : Cond.methodLink RL 120 yX12_learn ∈ wsU := wsU_at 1993 rfl rfl
set_option maxRecDepth 100000 in
theorem wd_1446 : Cond.methodLink RL 121 yX11_forced ∈ wsU := wsU_at 1411 rfl rfl
set_option maxRecDepth 100000 in
theorem wd_1447 : Cond.instanceMethod yX11_forced ∈ wsU := wsU_at 1412 rfl rfl
set_option maxRecDepth 100000 in
theorem wd_1448 : Cond.selects RX11 yX11_forced yX11_forced ∈ wsU := wsU_at 1413 rfl rfl
set_option maxRecDepth 100000 in
theorem wd_1449 : Cond.code yX11_forced cX11_forced 3 (some .int) ∈ wsU := wsU_at 1414 rfl rfl
set_option maxRecDepth 100000 in
theorem wd_1451 : Cond.methodLink RL 124 yX12_forced ∈ wsU := wsU_at 1997 rfl rfl
set_option maxRecDepth 100000 in
theorem wd_1452 : Cond.instanceMethod yX12_forced ∈ wsU := wsU_at 1998 rfl rfl
set_option maxRecDepth 100000 in
theorem wd_1453 : Cond.selects RX12 yX12_forced yX12_forced ∈ wsU := wsU_at 1999 rfl rfl
set_option maxRecDepth 100000 in
theorem wd_1454 : Cond.code yX12_forced cX12_forced 3 (some .int) ∈ wsU := wsU_at 2000 rfl rfl
set_option maxRecDepth 100000 in
theorem wd_1456 : Cond.methodLink RL 125 yX11_rule ∈ wsU := wsU_at 1416 rfl rfl
set_option maxRecDepth 100000 in
theorem wd_1457 : Cond.instanceMethod yX11_rule ∈ wsU := wsU_at 1417 rfl rfl
set_option maxRecDepth 100000 in
theorem wd_1458 : Cond.selects RX11 yX11_rule yX11_rule ∈ wsU := wsU_at 1418 rfl rfl
set_option maxRecDepth 100000 in
theorem wd_1459 : Cond.code yX11_rule cX11_rule 4 (some .int) ∈ wsU := wsU_at 1419 rfl rfl
set_option maxRecDepth 100000 in
theorem wd_1464 : Cond.methodLink RL 128 yX12_rule ∈ wsU := wsU_at 2002 rfl rfl
set_option maxRecDepth 100000 in
theorem wd_1465 : Cond.instanceMethod yX12_rule ∈ wsU := wsU_at 2003 rfl rfl
set_option maxRecDepth 100000 in
theorem wd_1466 : Cond.selects RX12 yX12_rule yX12_rule ∈ wsU := wsU_at 2004 rfl rfl
set_option maxRecDepth 100000 in
theorem wd_1467 : Cond.code yX12_rule cX12_rule 3 (some .int) ∈ wsU := wsU_at 2005 rfl rfl
set_option maxRecDepth 100000 in
theorem wd_1468 : Cond.methodLink RL 129 yX11_image ∈ wsU := wsU_at 1420 rfl rfl
set_option maxRecDepth 100000 in
theorem wd_1469 : Cond.instanceMethod yX11_image ∈ wsU := wsU_at 1421 rfl rfl
set_option maxRecDepth 100000 in
theorem wd_1470 : Cond.selects RX11 yX11_image yX11_image ∈ wsU := wsU_at 1422 rfl rfl
set_option maxRecDepth 100000 in
theorem wd_1471 : Cond.code yX11_image cX11_image 2 (some .boolean) ∈ wsU := wsU_at 1423 rfl rfl
set_option maxRecDepth 100000 in
theorem wd_1479 : Cond.methodLink RL 133 yX12_image ∈ wsU := wsU_at 2006 rfl rfl
set_option maxRecDepth 100000 in
theorem wd_1480 : Cond.instanceMethod yX12_image ∈ wsU := wsU_at 2007 rfl rfl
set_option maxRecDepth 100000 in
theorem wd_1481 : Cond.selects RX12 yX12_image yX12_image ∈ wsU := wsU_at 2008 rfl rfl
set_option maxRecDepth 100000 in
theorem wd_1482 : Cond.code yX12_image cX12_image 3 (some .boolean) ∈ wsU := wsU_at 2009 rfl rfl
set_option maxRecDepth 100000 in
theorem wd_1484 : Cond.methodLink RL 134 yX11_look ∈ wsU := wsU_at 1430 rfl rfl
set_option maxRecDepth 100000 in
theorem wd_1485 : Cond.instanceMethod yX11_look ∈ wsU := wsU_at 1431 rfl rfl
set_option maxRecDepth 100000 in
theorem wd_1486 : Cond.selects RX11 yX11_look yX11_look ∈ wsU := wsU_at 1432 rfl rfl
set_option maxRecDepth 100000 in
theorem wd_1487 : Cond.code yX11_look cX11_look 2 (some .int) ∈ wsU := wsU_at 1433 rfl rfl
set_option maxRecDepth 100000 in
theorem wd_1494 : Cond.methodLink RL 137 yX12_look ∈ wsU := wsU_at 2010 rfl rfl
set_option maxRecDepth 100000 in
theorem wd_1495 : Cond.instanceMethod yX12_look ∈ wsU := wsU_at 2011 rfl rfl
set_option maxRecDepth 100000 in
theorem wd_1496 : Cond.selects RX12 yX12_look yX12_look ∈ wsU := wsU_at 2012 rfl rfl
set_option maxRecDepth 100000 in
theorem wd_1497 : Cond.code yX12_look cX12_look 2 (some .int) ∈ wsU := wsU_at 2013 rfl rfl
theorem ti_13 : (13 : Int32).toInt = 13 := by decide
theorem ti_14 : (14 : Int32).toInt = 14 := by decide
theorem ti_17 : (17 : Int32).toInt = 17 := by decide
theorem ti_21 : (21 : Int32).toInt = 21 := by decide
theorem ti_22 : (22 : Int32).toInt = 22 := by decide
theorem ti_23 : (23 : Int32).toInt = 23 := by decide
theorem ti_25 : (25 : Int32).toInt = 25 := by decide
theorem ti_27 : (27 : Int32).toInt = 27 := by decide
theorem ti_28 : (28 : Int32).toInt = 28 := by decide
theorem ti_31 : (31 : Int32).toInt = 31 := by decide
theorem dvX11 : ∀ j, j < 19 → defaultValue (tyX11 j) = vp_V [.null, .int 0, .null, .null, .null, .null, .null, .null, .int 0, .null, .null, .null, .int 0, .int 0, .null, .int 0, .null, .null, .int 0] j := fun j hj => by
  match j, hj with
  | 0, _ => rfl
  | 1, _ => rfl
  | 2, _ => rfl
  | 3, _ => rfl
  | 4, _ => rfl
  | 5, _ => rfl
  | 6, _ => rfl
  | 7, _ => rfl
  | 8, _ => rfl
  | 9, _ => rfl
  | 10, _ => rfl
  | 11, _ => rfl
  | 12, _ => rfl
  | 13, _ => rfl
  | 14, _ => rfl
  | 15, _ => rfl
  | 16, _ => rfl
  | 17, _ => rfl
  | 18, _ => rfl
  | j + 19, hj => exact absurd hj (by omega)
theorem dvX12 : ∀ j, j < 56 → defaultValue (tyX12 j) = vp_V [.null, .null, .null, .int 0, .null, .int 0, .int 0, .int 0, .int 0, .int 0, .int 0, .int 0, .int 0, .int 0, .int 0, .null, .null, .null, .null, .null, .null, .null, .null, .int 0, .int 0, .int 0, .int 0, .int 0, .null, .int 0, .null, .null, .int 0, .int 0, .null, .int 0, .null, .null, .int 0, .int 0, .null, .null, .null, .int 0, .null, .null, .null, .null, .null, .null, .null, .null, .null, .int 0, .int 0, .null] j := fun j hj => by
  match j, hj with
  | 0, _ => rfl
  | 1, _ => rfl
  | 2, _ => rfl
  | 3, _ => rfl
  | 4, _ => rfl
  | 5, _ => rfl
  | 6, _ => rfl
  | 7, _ => rfl
  | 8, _ => rfl
  | 9, _ => rfl
  | 10, _ => rfl
  | 11, _ => rfl
  | 12, _ => rfl
  | 13, _ => rfl
  | 14, _ => rfl
  | 15, _ => rfl
  | 16, _ => rfl
  | 17, _ => rfl
  | 18, _ => rfl
  | 19, _ => rfl
  | 20, _ => rfl
  | 21, _ => rfl
  | 22, _ => rfl
  | 23, _ => rfl
  | 24, _ => rfl
  | 25, _ => rfl
  | 26, _ => rfl
  | 27, _ => rfl
  | 28, _ => rfl
  | 29, _ => rfl
  | 30, _ => rfl
  | 31, _ => rfl
  | 32, _ => rfl
  | 33, _ => rfl
  | 34, _ => rfl
  | 35, _ => rfl
  | 36, _ => rfl
  | 37, _ => rfl
  | 38, _ => rfl
  | 39, _ => rfl
  | 40, _ => rfl
  | 41, _ => rfl
  | 42, _ => rfl
  | 43, _ => rfl
  | 44, _ => rfl
  | 45, _ => rfl
  | 46, _ => rfl
  | 47, _ => rfl
  | 48, _ => rfl
  | 49, _ => rfl
  | 50, _ => rfl
  | 51, _ => rfl
  | 52, _ => rfl
  | 53, _ => rfl
  | 54, _ => rfl
  | 55, _ => rfl
  | j + 56, hj => exact absurd hj (by omega)
theorem op12_3 {cI cL cZ cR cG cH : ClassId} {L : List Nat} {kd : Nat → Nat} {f f9 : Nat → va_E} {b : Nat} {x0 : Nat} {x1 : Nat} {x2 : Nat} {x3 : Int32} {x4 : Nat} {x5 : Int32} {x6 : Int32} {x7 : Int32} {x8 : Int32} {x9 : Int32} {x10 : Int32} {x11 : Int32} {x12 : Int32} {x13 : Int32} {x14 : Int32} {x15 : Nat} {x16 : Nat} {x17 : Nat} {x18 : Nat} {x19 : Nat} {x20 : Nat} {x21 : Nat} {x22 : Nat} {x23 : Int32} {x24 : Int32} {x25 : Int32} {x26 : Int32} {x27 : Int32} {x28 : Nat} {x29 : Int32} {x30 : Nat} {x31 : Nat} {x32 : Int32} {x33 : Int32} {x34 : Nat} {x35 : Int32} {x36 : Nat} {x37 : Nat} {x38 : Int32} {x39 : Int32} {x40 : Nat} {x41 : Nat} {x42 : Nat} {x43 : Int32} {x44 : Nat} {x45 : Nat} {x46 : Nat} {x47 : Nat} {x48 : Nat} {x49 : Nat} {x50 : Nat} {x51 : Nat} {x52 : Nat} {x53 : Int32} {x54 : Int32} {x55 : Nat} (h : f b = .inr (12, [.ref x0, .ref x1, .ref x2, .int x3, .ref x4, .int x5, .int x6, .int x7, .int x8, .int x9, .int x10, .int x11, .int x12, .int x13, .int x14, .ref x15, .ref x16, .ref x17, .ref x18, .ref x19, .ref x20, .ref x21, .ref x22, .int x23, .int x24, .int x25, .int x26, .int x27, .ref x28, .int x29, .ref x30, .ref x31, .int x32, .int x33, .ref x34, .int x35, .ref x36, .ref x37, .int x38, .int x39, .ref x40, .ref x41, .ref x42, .int x43, .ref x44, .ref x45, .ref x46, .ref x47, .ref x48, .ref x49, .ref x50, .ref x51, .ref x52, .int x53, .int x54, .ref x55])) (hG : okc cI cL cZ cR cG cH L kd (kd b) (f9 b)) (kb : kd b = 12) (hr : ∀ j, fldR (f9 b) j = fldR (f b) j) (hi : ∀ j, j ≠ 3 → fldI (f9 b) j = fldI (f b) j) : ∃ (y3 : Int32), f9 b = .inr (12, [.ref x0, .ref x1, .ref x2, .int y3, .ref x4, .int x5, .int x6, .int x7, .int x8, .int x9, .int x10, .int x11, .int x12, .int x13, .int x14, .ref x15, .ref x16, .ref x17, .ref x18, .ref x19, .ref x20, .ref x21, .ref x22, .int x23, .int x24, .int x25, .int x26, .int x27, .ref x28, .int x29, .ref x30, .ref x31, .int x32, .int x33, .ref x34, .int x35, .ref x36, .ref x37, .int x38, .int x39, .ref x40, .ref x41, .ref x42, .int x43, .ref x44, .ref x45, .ref x46, .ref x47, .ref x48, .ref x49, .ref x50, .ref x51, .ref x52, .int x53, .int x54, .ref x55]) ∧ Fa12 L kd x0 x1 x2 y3 x4 x5 x6 x7 x8 x9 x10 x11 x12 x13 x14 x15 x16 x17 x18 x19 x20 x21 x22 x23 x24 x25 x26 x27 x28 x29 x30 x31 x32 x33 x34 x35 x36 x37 x38 x39 x40 x41 x42 x43 x44 x45 x46 x47 x48 x49 x50 x51 x52 x53 x54 x55 := by
  obtain ⟨y3, y5, y6, y7, y8, y9, y10, y11, y12, y13, y14, y23, y24, y25, y26, y27, y29, y32, y33, y35, y38, y39, y43, y53, y54, h9, fa⟩ := op12 h hG kb hr
  obtain rfl := ri_12_5 h h9 (hi 5 (by decide))
  obtain rfl := ri_12_6 h h9 (hi 6 (by decide))
  obtain rfl := ri_12_7 h h9 (hi 7 (by decide))
  obtain rfl := ri_12_8 h h9 (hi 8 (by decide))
  obtain rfl := ri_12_9 h h9 (hi 9 (by decide))
  obtain rfl := ri_12_10 h h9 (hi 10 (by decide))
  obtain rfl := ri_12_11 h h9 (hi 11 (by decide))
  obtain rfl := ri_12_12 h h9 (hi 12 (by decide))
  obtain rfl := ri_12_13 h h9 (hi 13 (by decide))
  obtain rfl := ri_12_14 h h9 (hi 14 (by decide))
  obtain rfl := ri_12_23 h h9 (hi 23 (by decide))
  obtain rfl := ri_12_24 h h9 (hi 24 (by decide))
  obtain rfl := ri_12_25 h h9 (hi 25 (by decide))
  obtain rfl := ri_12_26 h h9 (hi 26 (by decide))
  obtain rfl := ri_12_27 h h9 (hi 27 (by decide))
  obtain rfl := ri_12_29 h h9 (hi 29 (by decide))
  obtain rfl := ri_12_32 h h9 (hi 32 (by decide))
  obtain rfl := ri_12_33 h h9 (hi 33 (by decide))
  obtain rfl := ri_12_35 h h9 (hi 35 (by decide))
  obtain rfl := ri_12_38 h h9 (hi 38 (by decide))
  obtain rfl := ri_12_39 h h9 (hi 39 (by decide))
  obtain rfl := ri_12_43 h h9 (hi 43 (by decide))
  obtain rfl := ri_12_53 h h9 (hi 53 (by decide))
  obtain rfl := ri_12_54 h h9 (hi 54 (by decide))
  exact ⟨y3, h9, fa⟩

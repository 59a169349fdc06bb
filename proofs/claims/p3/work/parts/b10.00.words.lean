set_option maxRecDepth 100000 in
theorem wd_175 : Cond.fieldLink RX12 28 "SaidShallowModel" "left" "[[I" ∈ wsU := wsU_at 1464 rfl rfl
set_option maxRecDepth 100000 in
theorem wd_176 : Cond.fieldLink RX12 31 "SaidShallowModel" "bans" "[[I" ∈ wsU := wsU_at 1465 rfl rfl
set_option maxRecDepth 100000 in
theorem wd_177 : Cond.fieldLink RX12 34 "SaidShallowModel" "needOf" "[[I" ∈ wsU := wsU_at 1466 rfl rfl
set_option maxRecDepth 100000 in
theorem wd_178 : Cond.fieldLink RX12 37 "SaidShallowModel" "needs" "[[I" ∈ wsU := wsU_at 1467 rfl rfl
set_option maxRecDepth 100000 in
theorem wd_179 : Cond.fieldLink RX12 40 "SaidShallowModel" "needMany" "[I" ∈ wsU := wsU_at 1468 rfl rfl
set_option maxRecDepth 100000 in
theorem wd_180 : Cond.fieldLink RX12 43 "SaidShallowModel" "row" "[I" ∈ wsU := wsU_at 1469 rfl rfl
set_option maxRecDepth 100000 in
theorem wd_181 : Cond.fieldLink RX12 46 "SaidShallowModel" "one" "[I" ∈ wsU := wsU_at 1470 rfl rfl
set_option maxRecDepth 100000 in
theorem wd_686 : Cond.methodLink RX12 251 yX12_allRules ∈ wsU := wsU_at 1733 rfl rfl
set_option maxRecDepth 100000 in
theorem wd_687 : Cond.instanceMethod yX12_allRules ∈ wsU := wsU_at 1735 rfl rfl
set_option maxRecDepth 100000 in
theorem wd_688 : Cond.selects RX12 yX12_allRules yX12_allRules ∈ wsU := wsU_at 77 rfl rfl
set_option maxRecDepth 100000 in
theorem wd_689 : Cond.code yX12_allRules cX12_allRules 1 (some .int) ∈ wsU := wsU_at 1736 rfl rfl
set_option maxRecDepth 100000 in
theorem wd_867 : Cond.fieldLink RX12 291 "SaidShallowModel" "oneLong" "I" ∈ wsU := wsU_at 1472 rfl rfl
set_option maxRecDepth 100000 in
theorem wd_878 : Cond.methodLink RX12 258 yX12_closed ∈ wsU := wsU_at 1765 rfl rfl
set_option maxRecDepth 100000 in
theorem wd_879 : Cond.instanceMethod yX12_closed ∈ wsU := wsU_at 1767 rfl rfl
set_option maxRecDepth 100000 in
theorem wd_880 : Cond.selects RX12 yX12_closed yX12_closed ∈ wsU := wsU_at 82 rfl rfl
set_option maxRecDepth 100000 in
theorem wd_881 : Cond.code yX12_closed cX12_closed 6 (some .int) ∈ wsU := wsU_at 1768 rfl rfl
set_option maxRecDepth 100000 in
theorem wd_882 : Cond.methodLink RX12 254 yX12_itemsOf ∈ wsU := wsU_at 1769 rfl rfl
set_option maxRecDepth 100000 in
theorem wd_883 : Cond.instanceMethod yX12_itemsOf ∈ wsU := wsU_at 1771 rfl rfl
set_option maxRecDepth 100000 in
theorem wd_884 : Cond.selects RX12 yX12_itemsOf yX12_itemsOf ∈ wsU := wsU_at 83 rfl rfl
set_option maxRecDepth 100000 in
theorem wd_885 : Cond.code yX12_itemsOf cX12_itemsOf 3 (some .int) ∈ wsU := wsU_at 1772 rfl rfl
set_option maxRecDepth 100000 in
theorem wd_894 : Cond.methodLink RX12 272 yX12_ofRule ∈ wsU := wsU_at 1781 rfl rfl
set_option maxRecDepth 100000 in
theorem wd_895 : Cond.instanceMethod yX12_ofRule ∈ wsU := wsU_at 1783 rfl rfl
set_option maxRecDepth 100000 in
theorem wd_896 : Cond.selects RX12 yX12_ofRule yX12_ofRule ∈ wsU := wsU_at 86 rfl rfl
set_option maxRecDepth 100000 in
theorem wd_897 : Cond.code yX12_ofRule cX12_ofRule 3 (some .int) ∈ wsU := wsU_at 1784 rfl rfl
set_option maxRecDepth 100000 in
theorem wd_898 : Cond.methodLink RX12 269 yX12_isDone ∈ wsU := wsU_at 1785 rfl rfl
set_option maxRecDepth 100000 in
theorem wd_899 : Cond.instanceMethod yX12_isDone ∈ wsU := wsU_at 1787 rfl rfl
set_option maxRecDepth 100000 in
theorem wd_900 : Cond.selects RX12 yX12_isDone yX12_isDone ∈ wsU := wsU_at 87 rfl rfl
set_option maxRecDepth 100000 in
theorem wd_901 : Cond.code yX12_isDone cX12_isDone 4 (some .boolean) ∈ wsU := wsU_at 1788 rfl rfl
set_option maxRecDepth 100000 in
theorem wd_934 : Cond.methodLink RX12 279 yX12_someHolds ∈ wsU := wsU_at 1818 rfl rfl
set_option maxRecDepth 100000 in
theorem wd_935 : Cond.instanceMethod yX12_someHolds ∈ wsU := wsU_at 1820 rfl rfl
set_option maxRecDepth 100000 in
theorem wd_936 : Cond.selects RX12 yX12_someHolds yX12_someHolds ∈ wsU := wsU_at 95 rfl rfl
set_option maxRecDepth 100000 in
theorem wd_937 : Cond.code yX12_someHolds cX12_someHolds 6 (some .boolean) ∈ wsU := wsU_at 1821 rfl rfl
set_option maxRecDepth 100000 in
theorem wd_938 : Cond.methodLink RX12 275 yX12_holds ∈ wsU := wsU_at 1822 rfl rfl
set_option maxRecDepth 100000 in
theorem wd_939 : Cond.instanceMethod yX12_holds ∈ wsU := wsU_at 1824 rfl rfl
set_option maxRecDepth 100000 in
theorem wd_940 : Cond.selects RX12 yX12_holds yX12_holds ∈ wsU := wsU_at 96 rfl rfl
set_option maxRecDepth 100000 in
theorem wd_941 : Cond.code yX12_holds cX12_holds 8 (some .boolean) ∈ wsU := wsU_at 1825 rfl rfl
set_option maxRecDepth 100000 in
theorem wd_942 : Cond.methodLink RX12 262 yX12_goesOn ∈ wsU := wsU_at 1826 rfl rfl
set_option maxRecDepth 100000 in
theorem wd_943 : Cond.instanceMethod yX12_goesOn ∈ wsU := wsU_at 1828 rfl rfl
set_option maxRecDepth 100000 in
theorem wd_944 : Cond.selects RX12 yX12_goesOn yX12_goesOn ∈ wsU := wsU_at 97 rfl rfl
set_option maxRecDepth 100000 in
theorem wd_945 : Cond.code yX12_goesOn cX12_goesOn 10 (some .int) ∈ wsU := wsU_at 1829 rfl rfl
set_option maxRecDepth 100000 in
theorem wd_946 : Cond.methodLink RX12 266 yX12_isAnchored ∈ wsU := wsU_at 1830 rfl rfl
set_option maxRecDepth 100000 in
theorem wd_947 : Cond.instanceMethod yX12_isAnchored ∈ wsU := wsU_at 1832 rfl rfl
set_option maxRecDepth 100000 in
theorem wd_948 : Cond.selects RX12 yX12_isAnchored yX12_isAnchored ∈ wsU := wsU_at 98 rfl rfl
set_option maxRecDepth 100000 in
theorem wd_949 : Cond.code yX12_isAnchored cX12_isAnchored 3 (some .boolean) ∈ wsU := wsU_at 1833 rfl rfl
set_option maxRecDepth 100000 in
theorem wd_954 : Cond.methodLink RX12 282 yX12_isMet ∈ wsU := wsU_at 1838 rfl rfl
set_option maxRecDepth 100000 in
theorem wd_955 : Cond.instanceMethod yX12_isMet ∈ wsU := wsU_at 1840 rfl rfl
set_option maxRecDepth 100000 in
theorem wd_956 : Cond.selects RX12 yX12_isMet yX12_isMet ∈ wsU := wsU_at 100 rfl rfl
set_option maxRecDepth 100000 in
theorem wd_957 : Cond.code yX12_isMet cX12_isMet 3 (some .boolean) ∈ wsU := wsU_at 1841 rfl rfl
set_option maxRecDepth 100000 in
theorem wd_958 : Cond.methodLink RX12 285 yX12_needsGoOn ∈ wsU := wsU_at 1842 rfl rfl
set_option maxRecDepth 100000 in
theorem wd_959 : Cond.instanceMethod yX12_needsGoOn ∈ wsU := wsU_at 1844 rfl rfl
set_option maxRecDepth 100000 in
theorem wd_960 : Cond.selects RX12 yX12_needsGoOn yX12_needsGoOn ∈ wsU := wsU_at 101 rfl rfl
set_option maxRecDepth 100000 in
theorem wd_961 : Cond.code yX12_needsGoOn cX12_needsGoOn 10 (some .boolean) ∈ wsU := wsU_at 1845 rfl rfl
set_option maxRecDepth 100000 in
theorem wd_962 : Cond.methodLink RX12 288 yX12_asks ∈ wsU := wsU_at 1846 rfl rfl
set_option maxRecDepth 100000 in
theorem wd_963 : Cond.instanceMethod yX12_asks ∈ wsU := wsU_at 1848 rfl rfl
set_option maxRecDepth 100000 in
theorem wd_964 : Cond.selects RX12 yX12_asks yX12_asks ∈ wsU := wsU_at 102 rfl rfl
set_option maxRecDepth 100000 in
theorem wd_965 : Cond.code yX12_asks cX12_asks 14 (some .boolean) ∈ wsU := wsU_at 1849 rfl rfl

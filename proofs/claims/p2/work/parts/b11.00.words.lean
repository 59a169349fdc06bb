set_option maxRecDepth 100000 in
theorem wd_182 : Cond.fieldLink RX12 49 "SaidShallowModel" "other" "[I" ∈ wsU := wsU_at 1471 rfl rfl
set_option maxRecDepth 100000 in
theorem wd_183 : Cond.fieldLink RX12 52 "SaidShallowModel" "foundWords" "[J" ∈ wsU := wsU_at 1476 rfl rfl
set_option maxRecDepth 100000 in
theorem wd_184 : Cond.fieldLink RX12 56 "SaidShallowModel" "stamp" "[I" ∈ wsU := wsU_at 1478 rfl rfl
set_option maxRecDepth 100000 in
theorem wd_185 : Cond.fieldLink RX12 59 "SaidShallowModel" "comeTo" "[I" ∈ wsU := wsU_at 1479 rfl rfl
set_option maxRecDepth 100000 in
theorem wd_197 : Cond.fieldLink RX12 92 "SaidShallowModel" "unlike" "[Z" ∈ wsU := wsU_at 1495 rfl rfl
set_option maxRecDepth 100000 in
theorem wd_872 : Cond.fieldLink RX12 305 "SaidShallowModel" "doing" "I" ∈ wsU := wsU_at 1473 rfl rfl
set_option maxRecDepth 100000 in
theorem wd_873 : Cond.fieldLink RX12 301 "SaidShallowModel" "isStopped" "Z" ∈ wsU := wsU_at 1475 rfl rfl
set_option maxRecDepth 100000 in
theorem wd_874 : Cond.methodLink RX12 343 yX12_begins ∈ wsU := wsU_at 1761 rfl rfl
set_option maxRecDepth 100000 in
theorem wd_875 : Cond.instanceMethod yX12_begins ∈ wsU := wsU_at 1763 rfl rfl
set_option maxRecDepth 100000 in
theorem wd_876 : Cond.selects RX12 yX12_begins yX12_begins ∈ wsU := wsU_at 81 rfl rfl
set_option maxRecDepth 100000 in
theorem wd_877 : Cond.code yX12_begins cX12_begins 2 none ∈ wsU := wsU_at 1764 rfl rfl
set_option maxRecDepth 100000 in
theorem wd_886 : Cond.methodLink RX12 311 yX12_goes ∈ wsU := wsU_at 1773 rfl rfl
set_option maxRecDepth 100000 in
theorem wd_887 : Cond.instanceMethod yX12_goes ∈ wsU := wsU_at 1775 rfl rfl
set_option maxRecDepth 100000 in
theorem wd_888 : Cond.selects RX12 yX12_goes yX12_goes ∈ wsU := wsU_at 84 rfl rfl
set_option maxRecDepth 100000 in
theorem wd_889 : Cond.code yX12_goes cX12_goes 11 none ∈ wsU := wsU_at 1776 rfl rfl
set_option maxRecDepth 100000 in
theorem wd_890 : Cond.methodLink RX12 294 yX12_closes ∈ wsU := wsU_at 1777 rfl rfl
set_option maxRecDepth 100000 in
theorem wd_891 : Cond.instanceMethod yX12_closes ∈ wsU := wsU_at 1779 rfl rfl
set_option maxRecDepth 100000 in
theorem wd_892 : Cond.selects RX12 yX12_closes yX12_closes ∈ wsU := wsU_at 85 rfl rfl
set_option maxRecDepth 100000 in
theorem wd_893 : Cond.code yX12_closes cX12_closes 6 (some .boolean) ∈ wsU := wsU_at 1780 rfl rfl
set_option maxRecDepth 100000 in
theorem wd_902 : Cond.methodLink RX12 297 yX12_completes ∈ wsU := wsU_at 1789 rfl rfl
set_option maxRecDepth 100000 in
theorem wd_903 : Cond.instanceMethod yX12_completes ∈ wsU := wsU_at 1791 rfl rfl
set_option maxRecDepth 100000 in
theorem wd_904 : Cond.selects RX12 yX12_completes yX12_completes ∈ wsU := wsU_at 88 rfl rfl
set_option maxRecDepth 100000 in
theorem wd_905 : Cond.code yX12_completes cX12_completes 4 none ∈ wsU := wsU_at 1792 rfl rfl
set_option maxRecDepth 100000 in
theorem wd_906 : Cond.fieldLink RX12 337 "SaidShallowModel" "looked" "I" ∈ wsU := wsU_at 1474 rfl rfl
set_option maxRecDepth 100000 in
theorem wd_907 : Cond.methodLink RX12 330 yX12_finds ∈ wsU := wsU_at 1793 rfl rfl
set_option maxRecDepth 100000 in
theorem wd_908 : Cond.instanceMethod yX12_finds ∈ wsU := wsU_at 1795 rfl rfl
set_option maxRecDepth 100000 in
theorem wd_909 : Cond.selects RX12 yX12_finds yX12_finds ∈ wsU := wsU_at 89 rfl rfl
set_option maxRecDepth 100000 in
theorem wd_910 : Cond.code yX12_finds cX12_finds 6 none ∈ wsU := wsU_at 1796 rfl rfl
set_option maxRecDepth 100000 in
theorem wd_911 : Cond.methodLink RX12 317 yX12_padded ∈ wsU := wsU_at 1797 rfl rfl
set_option maxRecDepth 100000 in
theorem wd_912 : Cond.instanceMethod yX12_padded ∈ wsU := wsU_at 1799 rfl rfl
set_option maxRecDepth 100000 in
theorem wd_913 : Cond.selects RX12 yX12_padded yX12_padded ∈ wsU := wsU_at 90 rfl rfl
set_option maxRecDepth 100000 in
theorem wd_914 : Cond.code yX12_padded cX12_padded 5 (some .long) ∈ wsU := wsU_at 1800 rfl rfl
set_option maxRecDepth 100000 in
theorem wd_915 : Cond.constantLong RX12 315 (9) ∈ wsU := wsU_at 1801 rfl rfl
set_option maxRecDepth 100000 in
theorem wd_916 : Cond.methodLink RX12 334 yX12_marks ∈ wsU := wsU_at 1802 rfl rfl
set_option maxRecDepth 100000 in
theorem wd_917 : Cond.instanceMethod yX12_marks ∈ wsU := wsU_at 1804 rfl rfl
set_option maxRecDepth 100000 in
theorem wd_918 : Cond.selects RX12 yX12_marks yX12_marks ∈ wsU := wsU_at 91 rfl rfl
set_option maxRecDepth 100000 in
theorem wd_919 : Cond.code yX12_marks cX12_marks 3 none ∈ wsU := wsU_at 1805 rfl rfl
set_option maxRecDepth 100000 in
theorem wd_920 : Cond.fieldLink RX12 324 "SaidShallowModel" "stamped" "I" ∈ wsU := wsU_at 1481 rfl rfl
set_option maxRecDepth 100000 in
theorem wd_921 : Cond.fieldLink RX12 327 "SaidShallowModel" "comeMany" "I" ∈ wsU := wsU_at 1480 rfl rfl
set_option maxRecDepth 100000 in
theorem wd_922 : Cond.methodLink RX12 321 yX12_numberOf ∈ wsU := wsU_at 1806 rfl rfl
set_option maxRecDepth 100000 in
theorem wd_923 : Cond.instanceMethod yX12_numberOf ∈ wsU := wsU_at 1808 rfl rfl
set_option maxRecDepth 100000 in
theorem wd_924 : Cond.selects RX12 yX12_numberOf yX12_numberOf ∈ wsU := wsU_at 92 rfl rfl
set_option maxRecDepth 100000 in
theorem wd_925 : Cond.code yX12_numberOf cX12_numberOf 4 (some .int) ∈ wsU := wsU_at 1809 rfl rfl
set_option maxRecDepth 100000 in
theorem wd_926 : Cond.methodLink RX12 340 yX12_breaks ∈ wsU := wsU_at 1810 rfl rfl
set_option maxRecDepth 100000 in
theorem wd_927 : Cond.instanceMethod yX12_breaks ∈ wsU := wsU_at 1812 rfl rfl
set_option maxRecDepth 100000 in
theorem wd_928 : Cond.selects RX12 yX12_breaks yX12_breaks ∈ wsU := wsU_at 93 rfl rfl
set_option maxRecDepth 100000 in
theorem wd_929 : Cond.code yX12_breaks cX12_breaks 6 none ∈ wsU := wsU_at 1813 rfl rfl
set_option maxRecDepth 100000 in
theorem wd_930 : Cond.methodLink RX12 368 yX12_isBroken ∈ wsU := wsU_at 1814 rfl rfl
set_option maxRecDepth 100000 in
theorem wd_931 : Cond.instanceMethod yX12_isBroken ∈ wsU := wsU_at 1816 rfl rfl
set_option maxRecDepth 100000 in
theorem wd_932 : Cond.selects RX12 yX12_isBroken yX12_isBroken ∈ wsU := wsU_at 94 rfl rfl
set_option maxRecDepth 100000 in
theorem wd_933 : Cond.code yX12_isBroken cX12_isBroken 10 (some .boolean) ∈ wsU := wsU_at 1817 rfl rfl
set_option maxRecDepth 100000 in
theorem wd_950 : Cond.methodLink RX12 308 yX12_reads ∈ wsU := wsU_at 1834 rfl rfl
set_option maxRecDepth 100000 in
theorem wd_951 : Cond.instanceMethod yX12_reads ∈ wsU := wsU_at 1836 rfl rfl
set_option maxRecDepth 100000 in
theorem wd_952 : Cond.selects RX12 yX12_reads yX12_reads ∈ wsU := wsU_at 99 rfl rfl
set_option maxRecDepth 100000 in
theorem wd_953 : Cond.code yX12_reads cX12_reads 5 (some .boolean) ∈ wsU := wsU_at 1837 rfl rfl

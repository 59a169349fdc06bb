set_option maxRecDepth 100000 in
theorem wd_5 : Cond.initialized RX12 ∈ wsU := wsU_at 135 rfl rfl
set_option maxRecDepth 100000 in
theorem wd_170 : Cond.fieldLink RX12 13 "SaidShallowModel" "fresh" "[I" ∈ wsU := wsU_at 1450 rfl rfl
set_option maxRecDepth 100000 in
theorem wd_172 : Cond.fieldLink RX12 19 "SaidShallowModel" "tape" "[I" ∈ wsU := wsU_at 1453 rfl rfl
set_option maxRecDepth 100000 in
theorem wd_218 : Cond.fieldLink RX12 116 "SaidShallowModel" "taped" "I" ∈ wsU := wsU_at 1454 rfl rfl
set_option maxRecDepth 100000 in
theorem wd_227 : Cond.methodLink RX12 119 yX12_isIn ∈ wsU := wsU_at 1626 rfl rfl
set_option maxRecDepth 100000 in
theorem wd_228 : Cond.static yX12_isIn ∈ wsU := wsU_at 1627 rfl rfl
set_option maxRecDepth 100000 in
theorem wd_229 : Cond.code yX12_isIn cX12_isIn 3 (some .boolean) ∈ wsU := wsU_at 1628 rfl rfl
set_option maxRecDepth 100000 in
theorem wd_566 : Cond.fieldLink RX12 123 "SaidShallowModel" "at" "I" ∈ wsU := wsU_at 1455 rfl rfl
set_option maxRecDepth 100000 in
theorem wd_567 : Cond.fieldLink RX12 133 "SaidShallowModel" "wrong" "I" ∈ wsU := wsU_at 1456 rfl rfl
set_option maxRecDepth 100000 in
theorem wd_569 : Cond.fieldLink RX12 136 "SaidShallowModel" "wrongAt" "I" ∈ wsU := wsU_at 1457 rfl rfl
set_option maxRecDepth 100000 in
theorem wd_573 : Cond.methodLink RX12 139 yX12_sign ∈ wsU := wsU_at 1633 rfl rfl
set_option maxRecDepth 100000 in
theorem wd_574 : Cond.instanceMethod yX12_sign ∈ wsU := wsU_at 1635 rfl rfl
set_option maxRecDepth 100000 in
theorem wd_575 : Cond.selects RX12 yX12_sign yX12_sign ∈ wsU := wsU_at 59 rfl rfl
set_option maxRecDepth 100000 in
theorem wd_576 : Cond.code yX12_sign cX12_sign 1 (some .int) ∈ wsU := wsU_at 1636 rfl rfl
set_option maxRecDepth 100000 in
theorem wd_577 : Cond.methodLink RX12 130 yX12_blanks ∈ wsU := wsU_at 1637 rfl rfl
set_option maxRecDepth 100000 in
theorem wd_578 : Cond.instanceMethod yX12_blanks ∈ wsU := wsU_at 1639 rfl rfl
set_option maxRecDepth 100000 in
theorem wd_579 : Cond.selects RX12 yX12_blanks yX12_blanks ∈ wsU := wsU_at 60 rfl rfl
set_option maxRecDepth 100000 in
theorem wd_580 : Cond.code yX12_blanks cX12_blanks 1 none ∈ wsU := wsU_at 1640 rfl rfl
set_option maxRecDepth 100000 in
theorem wd_581 : Cond.methodLink RX12 126 yX12_see ∈ wsU := wsU_at 1641 rfl rfl
set_option maxRecDepth 100000 in
theorem wd_582 : Cond.instanceMethod yX12_see ∈ wsU := wsU_at 1643 rfl rfl
set_option maxRecDepth 100000 in
theorem wd_583 : Cond.selects RX12 yX12_see yX12_see ∈ wsU := wsU_at 61 rfl rfl
set_option maxRecDepth 100000 in
theorem wd_584 : Cond.code yX12_see cX12_see 2 (some .int) ∈ wsU := wsU_at 1644 rfl rfl
set_option maxRecDepth 100000 in
theorem wd_589 : Cond.methodLink RX12 159 yX12_isSmall ∈ wsU := wsU_at 1649 rfl rfl
set_option maxRecDepth 100000 in
theorem wd_590 : Cond.static yX12_isSmall ∈ wsU := wsU_at 1650 rfl rfl
set_option maxRecDepth 100000 in
theorem wd_591 : Cond.code yX12_isSmall cX12_isSmall 1 (some .boolean) ∈ wsU := wsU_at 1651 rfl rfl
set_option maxRecDepth 100000 in
theorem wd_596 : Cond.methodLink RX12 147 yJ0_length_8abf5 ∈ wsU := wsU_at 1657 rfl rfl
set_option maxRecDepth 100000 in
theorem wd_597 : Cond.methodLink RX12 152 yJ0_charAt_5068e ∈ wsU := wsU_at 1658 rfl rfl
set_option maxRecDepth 100000 in
theorem wd_602 : Cond.methodLink RX12 143 yX12_bad ∈ wsU := wsU_at 1663 rfl rfl
set_option maxRecDepth 100000 in
theorem wd_603 : Cond.instanceMethod yX12_bad ∈ wsU := wsU_at 1665 rfl rfl
set_option maxRecDepth 100000 in
theorem wd_604 : Cond.selects RX12 yX12_bad yX12_bad ∈ wsU := wsU_at 65 rfl rfl
set_option maxRecDepth 100000 in
theorem wd_605 : Cond.code yX12_bad cX12_bad 3 (some .boolean) ∈ wsU := wsU_at 1666 rfl rfl
set_option maxRecDepth 100000 in
theorem wd_606 : Cond.methodLink RX12 163 yX12_letterIn ∈ wsU := wsU_at 1667 rfl rfl
set_option maxRecDepth 100000 in
theorem wd_607 : Cond.static yX12_letterIn ∈ wsU := wsU_at 1668 rfl rfl
set_option maxRecDepth 100000 in
theorem wd_608 : Cond.code yX12_letterIn cX12_letterIn 3 (some .int) ∈ wsU := wsU_at 1669 rfl rfl
set_option maxRecDepth 100000 in
theorem wd_617 : Cond.fieldLink RX12 156 "SaidShallowModel" "got" "I" ∈ wsU := wsU_at 1460 rfl rfl
set_option maxRecDepth 100000 in
theorem wd_618 : Cond.fieldLink RX12 171 "SaidShallowModel" "pairDeep" "I" ∈ wsU := wsU_at 1461 rfl rfl
set_option maxRecDepth 100000 in
theorem wd_619 : Cond.fieldLink RX12 177 "SaidShallowModel" "pairSaid" "I" ∈ wsU := wsU_at 1462 rfl rfl
set_option maxRecDepth 100000 in
theorem wd_620 : Cond.methodLink RX12 167 yX12_takesS ∈ wsU := wsU_at 1680 rfl rfl
set_option maxRecDepth 100000 in
theorem wd_621 : Cond.instanceMethod yX12_takesS ∈ wsU := wsU_at 1682 rfl rfl
set_option maxRecDepth 100000 in
theorem wd_622 : Cond.selects RX12 yX12_takesS yX12_takesS ∈ wsU := wsU_at 68 rfl rfl
set_option maxRecDepth 100000 in
theorem wd_623 : Cond.code yX12_takesS cX12_takesS 2 (some .boolean) ∈ wsU := wsU_at 1683 rfl rfl
set_option maxRecDepth 100000 in
theorem wd_624 : Cond.methodLink RX12 174 yX12_takes ∈ wsU := wsU_at 1684 rfl rfl
set_option maxRecDepth 100000 in
theorem wd_625 : Cond.instanceMethod yX12_takes ∈ wsU := wsU_at 1686 rfl rfl
set_option maxRecDepth 100000 in
theorem wd_626 : Cond.selects RX12 yX12_takes yX12_takes ∈ wsU := wsU_at 69 rfl rfl
set_option maxRecDepth 100000 in
theorem wd_627 : Cond.code yX12_takes cX12_takes 2 (some .boolean) ∈ wsU := wsU_at 1687 rfl rfl
set_option maxRecDepth 100000 in
theorem wd_628 : Cond.methodLink RX12 180 yX12_hasPair ∈ wsU := wsU_at 1688 rfl rfl
set_option maxRecDepth 100000 in
theorem wd_629 : Cond.static yX12_hasPair ∈ wsU := wsU_at 1689 rfl rfl
set_option maxRecDepth 100000 in
theorem wd_630 : Cond.code yX12_hasPair cX12_hasPair 4 (some .boolean) ∈ wsU := wsU_at 1690 rfl rfl
theorem ti_24 : (24 : Int32).toInt = 24 := by decide
theorem ti_70 : (70 : Int32).toInt = 70 := by decide

set_option maxRecDepth 100000 in
theorem wd_169 : Cond.fieldLink RX12 7 "SaidShallowModel" "w" "[I" ∈ wsU := wsU_at 1449 rfl rfl
set_option maxRecDepth 100000 in
theorem wd_173 : Cond.fieldLink RX12 22 "SaidShallowModel" "faultPlace" "I" ∈ wsU := wsU_at 1459 rfl rfl
set_option maxRecDepth 100000 in
theorem wd_189 : Cond.fieldLink RX12 71 "SaidShallowModel" "walkedAt" "I" ∈ wsU := wsU_at 1487 rfl rfl
set_option maxRecDepth 100000 in
theorem wd_568 : Cond.fieldLink RX12 239 "SaidShallowModel" "faultKind" "I" ∈ wsU := wsU_at 1458 rfl rfl
set_option maxRecDepth 100000 in
theorem wd_570 : Cond.fieldLink RX12 242 "SaidShallowModel" "foundMany" "I" ∈ wsU := wsU_at 1477 rfl rfl
set_option maxRecDepth 100000 in
theorem wd_571 : Cond.fieldLink RX12 245 "SaidShallowModel" "coupleMany" "I" ∈ wsU := wsU_at 1486 rfl rfl
set_option maxRecDepth 100000 in
theorem wd_572 : Cond.fieldLink RX12 248 "SaidShallowModel" "agedLong" "I" ∈ wsU := wsU_at 1491 rfl rfl
set_option maxRecDepth 100000 in
theorem wd_585 : Cond.methodLink RX12 236 yX12_statement ∈ wsU := wsU_at 1645 rfl rfl
set_option maxRecDepth 100000 in
theorem wd_586 : Cond.instanceMethod yX12_statement ∈ wsU := wsU_at 1647 rfl rfl
set_option maxRecDepth 100000 in
theorem wd_587 : Cond.selects RX12 yX12_statement yX12_statement ∈ wsU := wsU_at 62 rfl rfl
set_option maxRecDepth 100000 in
theorem wd_588 : Cond.code yX12_statement cX12_statement 3 (some .boolean) ∈ wsU := wsU_at 1648 rfl rfl
set_option maxRecDepth 100000 in
theorem wd_592 : Cond.methodLink RX12 210 yX12_is ∈ wsU := wsU_at 1653 rfl rfl
set_option maxRecDepth 100000 in
theorem wd_593 : Cond.instanceMethod yX12_is ∈ wsU := wsU_at 1655 rfl rfl
set_option maxRecDepth 100000 in
theorem wd_594 : Cond.selects RX12 yX12_is yX12_is ∈ wsU := wsU_at 63 rfl rfl
set_option maxRecDepth 100000 in
theorem wd_595 : Cond.code yX12_is cX12_is 6 (some .boolean) ∈ wsU := wsU_at 1656 rfl rfl
set_option maxRecDepth 100000 in
theorem wd_598 : Cond.methodLink RX12 214 yX12_letters ∈ wsU := wsU_at 1659 rfl rfl
set_option maxRecDepth 100000 in
theorem wd_599 : Cond.instanceMethod yX12_letters ∈ wsU := wsU_at 1661 rfl rfl
set_option maxRecDepth 100000 in
theorem wd_600 : Cond.selects RX12 yX12_letters yX12_letters ∈ wsU := wsU_at 64 rfl rfl
set_option maxRecDepth 100000 in
theorem wd_601 : Cond.code yX12_letters cX12_letters 3 (some .boolean) ∈ wsU := wsU_at 1662 rfl rfl
set_option maxRecDepth 100000 in
theorem wd_609 : Cond.methodLink RX12 218 yX12_classOf ∈ wsU := wsU_at 1671 rfl rfl
set_option maxRecDepth 100000 in
theorem wd_610 : Cond.instanceMethod yX12_classOf ∈ wsU := wsU_at 1673 rfl rfl
set_option maxRecDepth 100000 in
theorem wd_611 : Cond.selects RX12 yX12_classOf yX12_classOf ∈ wsU := wsU_at 66 rfl rfl
set_option maxRecDepth 100000 in
theorem wd_612 : Cond.code yX12_classOf cX12_classOf 5 (some .boolean) ∈ wsU := wsU_at 1674 rfl rfl
set_option maxRecDepth 100000 in
theorem wd_613 : Cond.methodLink RX12 199 yX12_takesPair ∈ wsU := wsU_at 1676 rfl rfl
set_option maxRecDepth 100000 in
theorem wd_614 : Cond.instanceMethod yX12_takesPair ∈ wsU := wsU_at 1678 rfl rfl
set_option maxRecDepth 100000 in
theorem wd_615 : Cond.selects RX12 yX12_takesPair yX12_takesPair ∈ wsU := wsU_at 67 rfl rfl
set_option maxRecDepth 100000 in
theorem wd_616 : Cond.code yX12_takesPair cX12_takesPair 8 (some .boolean) ∈ wsU := wsU_at 1679 rfl rfl
set_option maxRecDepth 100000 in
theorem wd_631 : Cond.methodLink RX12 225 yX12_ruled ∈ wsU := wsU_at 1692 rfl rfl
set_option maxRecDepth 100000 in
theorem wd_632 : Cond.instanceMethod yX12_ruled ∈ wsU := wsU_at 1694 rfl rfl
set_option maxRecDepth 100000 in
theorem wd_633 : Cond.selects RX12 yX12_ruled yX12_ruled ∈ wsU := wsU_at 70 rfl rfl
set_option maxRecDepth 100000 in
theorem wd_634 : Cond.code yX12_ruled cX12_ruled 6 (some .boolean) ∈ wsU := wsU_at 1695 rfl rfl
set_option maxRecDepth 100000 in
theorem wd_635 : Cond.methodLink RX12 202 yX12_op ∈ wsU := wsU_at 1696 rfl rfl
set_option maxRecDepth 100000 in
theorem wd_636 : Cond.instanceMethod yX12_op ∈ wsU := wsU_at 1698 rfl rfl
set_option maxRecDepth 100000 in
theorem wd_637 : Cond.selects RX12 yX12_op yX12_op ∈ wsU := wsU_at 71 rfl rfl
set_option maxRecDepth 100000 in
theorem wd_638 : Cond.code yX12_op cX12_op 4 (some .int) ∈ wsU := wsU_at 1699 rfl rfl
set_option maxRecDepth 100000 in
theorem wd_639 : Cond.methodLink RX12 205 yX12_context ∈ wsU := wsU_at 1700 rfl rfl
set_option maxRecDepth 100000 in
theorem wd_640 : Cond.instanceMethod yX12_context ∈ wsU := wsU_at 1702 rfl rfl
set_option maxRecDepth 100000 in
theorem wd_641 : Cond.selects RX12 yX12_context yX12_context ∈ wsU := wsU_at 72 rfl rfl
set_option maxRecDepth 100000 in
theorem wd_642 : Cond.code yX12_context cX12_context 2 (some .boolean) ∈ wsU := wsU_at 1703 rfl rfl
set_option maxRecDepth 100000 in
theorem wd_643 : Cond.methodLink RX12 196 yX12_side ∈ wsU := wsU_at 1704 rfl rfl
set_option maxRecDepth 100000 in
theorem wd_644 : Cond.instanceMethod yX12_side ∈ wsU := wsU_at 1706 rfl rfl
set_option maxRecDepth 100000 in
theorem wd_645 : Cond.selects RX12 yX12_side yX12_side ∈ wsU := wsU_at 73 rfl rfl
set_option maxRecDepth 100000 in
theorem wd_646 : Cond.code yX12_side cX12_side 5 (some .boolean) ∈ wsU := wsU_at 1707 rfl rfl
set_option maxRecDepth 100000 in
theorem wd_647 : Cond.methodLink RX12 190 yX12_isX ∈ wsU := wsU_at 1708 rfl rfl
set_option maxRecDepth 100000 in
theorem wd_648 : Cond.static yX12_isX ∈ wsU := wsU_at 1709 rfl rfl
set_option maxRecDepth 100000 in
theorem wd_649 : Cond.code yX12_isX cX12_isX 1 (some .boolean) ∈ wsU := wsU_at 1710 rfl rfl
set_option maxRecDepth 100000 in
theorem wd_650 : Cond.methodLink RX12 187 yX12_takesX ∈ wsU := wsU_at 1711 rfl rfl
set_option maxRecDepth 100000 in
theorem wd_651 : Cond.instanceMethod yX12_takesX ∈ wsU := wsU_at 1713 rfl rfl
set_option maxRecDepth 100000 in
theorem wd_652 : Cond.selects RX12 yX12_takesX yX12_takesX ∈ wsU := wsU_at 74 rfl rfl
set_option maxRecDepth 100000 in
theorem wd_653 : Cond.code yX12_takesX cX12_takesX 3 (some .boolean) ∈ wsU := wsU_at 1714 rfl rfl
set_option maxRecDepth 100000 in
theorem wd_654 : Cond.fieldLink RX12 184 "SaidShallowModel" "mask" "I" ∈ wsU := wsU_at 1463 rfl rfl
set_option maxRecDepth 100000 in
theorem wd_655 : Cond.methodLink RX12 193 yX12_item ∈ wsU := wsU_at 1715 rfl rfl
set_option maxRecDepth 100000 in
theorem wd_656 : Cond.instanceMethod yX12_item ∈ wsU := wsU_at 1717 rfl rfl
set_option maxRecDepth 100000 in
theorem wd_657 : Cond.selects RX12 yX12_item yX12_item ∈ wsU := wsU_at 75 rfl rfl
set_option maxRecDepth 100000 in
theorem wd_658 : Cond.code yX12_item cX12_item 3 (some .boolean) ∈ wsU := wsU_at 1718 rfl rfl
set_option maxRecDepth 100000 in
theorem wd_659 : Cond.methodLink RX12 230 yX12_word ∈ wsU := wsU_at 1720 rfl rfl
set_option maxRecDepth 100000 in
theorem wd_660 : Cond.instanceMethod yX12_word ∈ wsU := wsU_at 1722 rfl rfl
set_option maxRecDepth 100000 in
theorem wd_661 : Cond.selects RX12 yX12_word yX12_word ∈ wsU := wsU_at 76 rfl rfl
set_option maxRecDepth 100000 in
theorem wd_662 : Cond.code yX12_word cX12_word 5 (some .boolean) ∈ wsU := wsU_at 1723 rfl rfl
theorem ti_43 : (43 : Int32).toInt = 43 := by decide
theorem ti_47 : (47 : Int32).toInt = 47 := by decide
theorem ti_60 : (60 : Int32).toInt = 60 := by decide
theorem ti_61 : (61 : Int32).toInt = 61 := by decide
theorem ti_62 : (62 : Int32).toInt = 62 := by decide
theorem ti_156 : (156 : Int32).toInt = 156 := by decide
theorem ti_460 : (460 : Int32).toInt = 460 := by decide
theorem ti_500 : (500 : Int32).toInt = 500 := by decide
theorem ti_1560 : (1560 : Int32).toInt = 1560 := by decide

set_option maxRecDepth 100000 in
theorem wd_150 : Cond.fieldLink RX2 12 "SaidShallow$Reader" "draft" "LSaidShallow$Tongue;" ∈ wsU := wsU_at 536 rfl rfl
set_option maxRecDepth 100000 in
theorem wd_247 : Cond.methodLink RX2 26 Lib.Math.min.name ∈ wsU := wsU_at 694 rfl rfl
set_option maxRecDepth 100000 in
theorem wd_252 : Cond.methodLink RX2 35 arraycopyName ∈ wsU := wsU_at 697 rfl rfl
set_option maxRecDepth 100000 in
theorem wd_258 : Cond.methodLink RX2 47 yX7_clear ∈ wsU := wsU_at 700 rfl rfl
set_option maxRecDepth 100000 in
theorem wd_259 : Cond.instanceMethod yX7_clear ∈ wsU := wsU_at 701 rfl rfl
set_option maxRecDepth 100000 in
theorem wd_260 : Cond.selects RX7 yX7_clear yX7_clear ∈ wsU := wsU_at 702 rfl rfl
set_option maxRecDepth 100000 in
theorem wd_261 : Cond.code yX7_clear cX7_clear 1 none ∈ wsU := wsU_at 703 rfl rfl
set_option maxRecDepth 100000 in
theorem wd_278 : Cond.methodLink RX2 54 yX2_readStatement ∈ wsU := wsU_at 715 rfl rfl
set_option maxRecDepth 100000 in
theorem wd_279 : Cond.instanceMethod yX2_readStatement ∈ wsU := wsU_at 717 rfl rfl
set_option maxRecDepth 100000 in
theorem wd_280 : Cond.selects RX2 yX2_readStatement yX2_readStatement ∈ wsU := wsU_at 3 rfl rfl
set_option maxRecDepth 100000 in
theorem wd_281 : Cond.code yX2_readStatement cX2_readStatement 3 (some .boolean) ∈ wsU := wsU_at 718 rfl rfl
set_option maxRecDepth 100000 in
theorem wd_282 : Cond.fieldLink RX2 101 "SaidShallow$Tongue" "stems" "LSaidShallow$WordList;" ∈ wsU := wsU_at 316 rfl rfl
set_option maxRecDepth 100000 in
theorem wd_283 : Cond.fieldLink RX2 111 "SaidShallow$Tongue" "ends" "LSaidShallow$WordList;" ∈ wsU := wsU_at 319 rfl rfl
set_option maxRecDepth 100000 in
theorem wd_287 : Cond.methodLink RX2 77 yX2_isKeyword ∈ wsU := wsU_at 723 rfl rfl
set_option maxRecDepth 100000 in
theorem wd_288 : Cond.instanceMethod yX2_isKeyword ∈ wsU := wsU_at 725 rfl rfl
set_option maxRecDepth 100000 in
theorem wd_289 : Cond.selects RX2 yX2_isKeyword yX2_isKeyword ∈ wsU := wsU_at 4 rfl rfl
set_option maxRecDepth 100000 in
theorem wd_290 : Cond.code yX2_isKeyword cX2_isKeyword 4 (some .boolean) ∈ wsU := wsU_at 726 rfl rfl
set_option maxRecDepth 100000 in
theorem wd_291 : Cond.methodLink RX2 117 yJ0_length_8abf5 ∈ wsU := wsU_at 727 rfl rfl
set_option maxRecDepth 100000 in
theorem wd_292 : Cond.instanceMethod yJ0_length_8abf5 ∈ wsU := wsU_at 728 rfl rfl
set_option maxRecDepth 100000 in
theorem wd_293 : Cond.selects RJ0 yJ0_length_8abf5 yJ0_length_8abf5 ∈ wsU := wsU_at 729 rfl rfl
set_option maxRecDepth 100000 in
theorem wd_295 : Cond.code yJ0_length_8abf5 cJ0_length_8abf5 1 (some .int) ∈ wsU := wsU_at 730 rfl rfl
set_option maxRecDepth 100000 in
theorem wd_303 : Cond.methodLink RX2 121 yJ0_charAt_5068e ∈ wsU := wsU_at 737 rfl rfl
set_option maxRecDepth 100000 in
theorem wd_304 : Cond.instanceMethod yJ0_charAt_5068e ∈ wsU := wsU_at 738 rfl rfl
set_option maxRecDepth 100000 in
theorem wd_305 : Cond.selects RJ0 yJ0_charAt_5068e yJ0_charAt_5068e ∈ wsU := wsU_at 739 rfl rfl
set_option maxRecDepth 100000 in
theorem wd_306 : Cond.code yJ0_charAt_5068e cJ0_charAt_5068e 2 (some .char) ∈ wsU := wsU_at 740 rfl rfl
set_option maxRecDepth 100000 in
theorem wd_340 : Cond.methodLink RX2 81 yX2_readLetters ∈ wsU := wsU_at 775 rfl rfl
set_option maxRecDepth 100000 in
theorem wd_341 : Cond.instanceMethod yX2_readLetters ∈ wsU := wsU_at 777 rfl rfl
set_option maxRecDepth 100000 in
theorem wd_342 : Cond.selects RX2 yX2_readLetters yX2_readLetters ∈ wsU := wsU_at 5 rfl rfl
set_option maxRecDepth 100000 in
theorem wd_343 : Cond.code yX2_readLetters cX2_readLetters 2 (some .boolean) ∈ wsU := wsU_at 778 rfl rfl
set_option maxRecDepth 100000 in
theorem wd_344 : Cond.fieldLink RX2 129 "SaidShallow$Tongue" "letterCount" "I" ∈ wsU := wsU_at 279 rfl rfl
set_option maxRecDepth 100000 in
theorem wd_345 : Cond.methodLink RX2 125 yX7_signOf ∈ wsU := wsU_at 779 rfl rfl
set_option maxRecDepth 100000 in
theorem wd_353 : Cond.methodLink RX2 132 yX7_addLetter ∈ wsU := wsU_at 787 rfl rfl
set_option maxRecDepth 100000 in
theorem wd_354 : Cond.instanceMethod yX7_addLetter ∈ wsU := wsU_at 788 rfl rfl
set_option maxRecDepth 100000 in
theorem wd_355 : Cond.selects RX7 yX7_addLetter yX7_addLetter ∈ wsU := wsU_at 789 rfl rfl
set_option maxRecDepth 100000 in
theorem wd_356 : Cond.code yX7_addLetter cX7_addLetter 2 none ∈ wsU := wsU_at 790 rfl rfl
set_option maxRecDepth 100000 in
theorem wd_357 : Cond.methodLink RX7 93 yX7_keepPair ∈ wsU := wsU_at 791 rfl rfl
set_option maxRecDepth 100000 in
theorem wd_358 : Cond.instanceMethod yX7_keepPair ∈ wsU := wsU_at 793 rfl rfl
set_option maxRecDepth 100000 in
theorem wd_359 : Cond.selects RX7 yX7_keepPair yX7_keepPair ∈ wsU := wsU_at 7 rfl rfl
set_option maxRecDepth 100000 in
theorem wd_360 : Cond.code yX7_keepPair cX7_keepPair 5 none ∈ wsU := wsU_at 794 rfl rfl
set_option maxRecDepth 100000 in
theorem wd_361 : Cond.methodLink RX2 86 yX2_readClass ∈ wsU := wsU_at 796 rfl rfl
set_option maxRecDepth 100000 in
theorem wd_362 : Cond.instanceMethod yX2_readClass ∈ wsU := wsU_at 798 rfl rfl
set_option maxRecDepth 100000 in
theorem wd_363 : Cond.selects RX2 yX2_readClass yX2_readClass ∈ wsU := wsU_at 8 rfl rfl
set_option maxRecDepth 100000 in
theorem wd_364 : Cond.code yX2_readClass cX2_readClass 4 (some .boolean) ∈ wsU := wsU_at 799 rfl rfl
set_option maxRecDepth 100000 in
theorem wd_365 : Cond.fieldLink RX2 136 "SaidShallow$Tongue" "classes" "[I" ∈ wsU := wsU_at 282 rfl rfl
set_option maxRecDepth 100000 in
theorem wd_369 : Cond.methodLink RX2 91 yX2_readPair ∈ wsU := wsU_at 804 rfl rfl
set_option maxRecDepth 100000 in
theorem wd_370 : Cond.instanceMethod yX2_readPair ∈ wsU := wsU_at 806 rfl rfl
set_option maxRecDepth 100000 in
theorem wd_371 : Cond.selects RX2 yX2_readPair yX2_readPair ∈ wsU := wsU_at 9 rfl rfl
set_option maxRecDepth 100000 in
theorem wd_372 : Cond.code yX2_readPair cX2_readPair 2 (some .boolean) ∈ wsU := wsU_at 807 rfl rfl
set_option maxRecDepth 100000 in
theorem wd_373 : Cond.fieldLink RX2 139 "SaidShallow$Reader" "readSign" "I" ∈ wsU := wsU_at 545 rfl rfl
set_option maxRecDepth 100000 in
theorem wd_374 : Cond.fieldLink RX2 145 "SaidShallow$Reader" "readDeep" "I" ∈ wsU := wsU_at 546 rfl rfl
set_option maxRecDepth 100000 in
theorem wd_375 : Cond.fieldLink RX2 148 "SaidShallow$Reader" "readSaid" "I" ∈ wsU := wsU_at 547 rfl rfl
set_option maxRecDepth 100000 in
theorem wd_376 : Cond.methodLink RX2 142 yX2_readS ∈ wsU := wsU_at 808 rfl rfl
set_option maxRecDepth 100000 in
theorem wd_377 : Cond.instanceMethod yX2_readS ∈ wsU := wsU_at 810 rfl rfl
set_option maxRecDepth 100000 in
theorem wd_378 : Cond.selects RX2 yX2_readS yX2_readS ∈ wsU := wsU_at 10 rfl rfl
set_option maxRecDepth 100000 in
theorem wd_379 : Cond.code yX2_readS cX2_readS 2 (some .boolean) ∈ wsU := wsU_at 811 rfl rfl
set_option maxRecDepth 100000 in
theorem wd_380 : Cond.methodLink RX2 114 yX2_expect ∈ wsU := wsU_at 812 rfl rfl
set_option maxRecDepth 100000 in
theorem wd_381 : Cond.instanceMethod yX2_expect ∈ wsU := wsU_at 814 rfl rfl
set_option maxRecDepth 100000 in
theorem wd_382 : Cond.selects RX2 yX2_expect yX2_expect ∈ wsU := wsU_at 11 rfl rfl
set_option maxRecDepth 100000 in
theorem wd_383 : Cond.code yX2_expect cX2_expect 2 (some .boolean) ∈ wsU := wsU_at 815 rfl rfl
set_option maxRecDepth 100000 in
theorem wd_388 : Cond.methodLink RX2 151 yX7_addPair ∈ wsU := wsU_at 820 rfl rfl
set_option maxRecDepth 100000 in
theorem wd_389 : Cond.instanceMethod yX7_addPair ∈ wsU := wsU_at 821 rfl rfl
set_option maxRecDepth 100000 in
theorem wd_390 : Cond.selects RX7 yX7_addPair yX7_addPair ∈ wsU := wsU_at 822 rfl rfl
set_option maxRecDepth 100000 in
theorem wd_391 : Cond.code yX7_addPair cX7_addPair 4 (some .boolean) ∈ wsU := wsU_at 823 rfl rfl
set_option maxRecDepth 100000 in
theorem wd_392 : Cond.methodLink RX7 97 yX7_pairOf ∈ wsU := wsU_at 824 rfl rfl
set_option maxRecDepth 100000 in
theorem wd_393 : Cond.instanceMethod yX7_pairOf ∈ wsU := wsU_at 825 rfl rfl
set_option maxRecDepth 100000 in
theorem wd_394 : Cond.selects RX7 yX7_pairOf yX7_pairOf ∈ wsU := wsU_at 826 rfl rfl
set_option maxRecDepth 100000 in
theorem wd_395 : Cond.code yX7_pairOf cX7_pairOf 3 (some .int) ∈ wsU := wsU_at 827 rfl rfl
set_option maxRecDepth 100000 in
theorem wd_396 : Cond.methodLink RX2 96 yX2_readRule ∈ wsU := wsU_at 829 rfl rfl
set_option maxRecDepth 100000 in
theorem wd_397 : Cond.instanceMethod yX2_readRule ∈ wsU := wsU_at 831 rfl rfl
set_option maxRecDepth 100000 in
theorem wd_398 : Cond.selects RX2 yX2_readRule yX2_readRule ∈ wsU := wsU_at 13 rfl rfl
set_option maxRecDepth 100000 in
theorem wd_399 : Cond.code yX2_readRule cX2_readRule 4 (some .boolean) ∈ wsU := wsU_at 832 rfl rfl
set_option maxRecDepth 100000 in
theorem wd_400 : Cond.fieldLink RX2 154 "SaidShallow$Tongue" "ruleCount" "I" ∈ wsU := wsU_at 313 rfl rfl
set_option maxRecDepth 100000 in
theorem wd_401 : Cond.fieldLink RX2 157 "SaidShallow$Tongue" "rules" "[LSaidShallow$Rule;" ∈ wsU := wsU_at 307 rfl rfl
set_option maxRecDepth 100000 in
theorem wd_402 : Cond.fieldLink RX2 176 "SaidShallow$Rule" "contexts" "I" ∈ wsU := wsU_at 231 rfl rfl
set_option maxRecDepth 100000 in
theorem wd_403 : Cond.methodLink RX2 161 yX4_clear ∈ wsU := wsU_at 833 rfl rfl
set_option maxRecDepth 100000 in
theorem wd_404 : Cond.instanceMethod yX4_clear ∈ wsU := wsU_at 834 rfl rfl
set_option maxRecDepth 100000 in
theorem wd_405 : Cond.selects RX4 yX4_clear yX4_clear ∈ wsU := wsU_at 835 rfl rfl
set_option maxRecDepth 100000 in
theorem wd_406 : Cond.code yX4_clear cX4_clear 3 none ∈ wsU := wsU_at 836 rfl rfl
set_option maxRecDepth 100000 in
theorem wd_419 : Cond.methodLink RX2 166 yX2_readOp ∈ wsU := wsU_at 842 rfl rfl
set_option maxRecDepth 100000 in
theorem wd_420 : Cond.instanceMethod yX2_readOp ∈ wsU := wsU_at 844 rfl rfl
set_option maxRecDepth 100000 in
theorem wd_421 : Cond.selects RX2 yX2_readOp yX2_readOp ∈ wsU := wsU_at 14 rfl rfl
set_option maxRecDepth 100000 in
theorem wd_422 : Cond.code yX2_readOp cX2_readOp 3 (some .boolean) ∈ wsU := wsU_at 845 rfl rfl
set_option maxRecDepth 100000 in
theorem wd_423 : Cond.fieldLink RX2 185 "SaidShallow$Rule" "op" "I" ∈ wsU := wsU_at 228 rfl rfl
set_option maxRecDepth 100000 in
theorem wd_424 : Cond.fieldLink RX2 194 "SaidShallow$Rule" "deep" "I" ∈ wsU := wsU_at 221 rfl rfl
set_option maxRecDepth 100000 in
theorem wd_425 : Cond.methodLink RX2 181 yX2_standsHere ∈ wsU := wsU_at 847 rfl rfl
set_option maxRecDepth 100000 in
theorem wd_426 : Cond.instanceMethod yX2_standsHere ∈ wsU := wsU_at 849 rfl rfl
set_option maxRecDepth 100000 in
theorem wd_427 : Cond.selects RX2 yX2_standsHere yX2_standsHere ∈ wsU := wsU_at 15 rfl rfl
set_option maxRecDepth 100000 in
theorem wd_428 : Cond.code yX2_standsHere cX2_standsHere 3 (some .boolean) ∈ wsU := wsU_at 850 rfl rfl
set_option maxRecDepth 100000 in
theorem wd_432 : Cond.methodLink RX2 170 yX2_readContext ∈ wsU := wsU_at 858 rfl rfl
set_option maxRecDepth 100000 in
theorem wd_433 : Cond.instanceMethod yX2_readContext ∈ wsU := wsU_at 860 rfl rfl
set_option maxRecDepth 100000 in
theorem wd_434 : Cond.selects RX2 yX2_readContext yX2_readContext ∈ wsU := wsU_at 17 rfl rfl
set_option maxRecDepth 100000 in
theorem wd_435 : Cond.code yX2_readContext cX2_readContext 3 (some .boolean) ∈ wsU := wsU_at 861 rfl rfl
set_option maxRecDepth 100000 in
theorem wd_436 : Cond.fieldLink RX2 200 "SaidShallow$Rule" "left" "LSaidShallow$Side;" ∈ wsU := wsU_at 236 rfl rfl
set_option maxRecDepth 100000 in
theorem wd_437 : Cond.fieldLink RX2 209 "SaidShallow$Rule" "right" "LSaidShallow$Side;" ∈ wsU := wsU_at 239 rfl rfl
set_option maxRecDepth 100000 in
theorem wd_438 : Cond.methodLink RX2 204 yX5_openContext ∈ wsU := wsU_at 862 rfl rfl
set_option maxRecDepth 100000 in
theorem wd_439 : Cond.instanceMethod yX5_openContext ∈ wsU := wsU_at 863 rfl rfl
set_option maxRecDepth 100000 in
theorem wd_440 : Cond.selects RX5 yX5_openContext yX5_openContext ∈ wsU := wsU_at 864 rfl rfl
set_option maxRecDepth 100000 in
theorem wd_441 : Cond.code yX5_openContext cX5_openContext 2 none ∈ wsU := wsU_at 865 rfl rfl
set_option maxRecDepth 100000 in
theorem wd_442 : Cond.methodLink RX2 212 yX5_putEdge ∈ wsU := wsU_at 866 rfl rfl
set_option maxRecDepth 100000 in
theorem wd_443 : Cond.instanceMethod yX5_putEdge ∈ wsU := wsU_at 867 rfl rfl
set_option maxRecDepth 100000 in
theorem wd_444 : Cond.selects RX5 yX5_putEdge yX5_putEdge ∈ wsU := wsU_at 868 rfl rfl
set_option maxRecDepth 100000 in
theorem wd_445 : Cond.code yX5_putEdge cX5_putEdge 2 none ∈ wsU := wsU_at 869 rfl rfl
set_option maxRecDepth 100000 in
theorem wd_446 : Cond.methodLink RX2 215 yX2_readItems ∈ wsU := wsU_at 870 rfl rfl
set_option maxRecDepth 100000 in
theorem wd_447 : Cond.instanceMethod yX2_readItems ∈ wsU := wsU_at 872 rfl rfl
set_option maxRecDepth 100000 in
theorem wd_448 : Cond.selects RX2 yX2_readItems yX2_readItems ∈ wsU := wsU_at 18 rfl rfl
set_option maxRecDepth 100000 in
theorem wd_449 : Cond.code yX2_readItems cX2_readItems 9 (some .boolean) ∈ wsU := wsU_at 873 rfl rfl
set_option maxRecDepth 100000 in
theorem wd_450 : Cond.fieldLink RX2 225 "SaidShallow$Reader" "readSet" "I" ∈ wsU := wsU_at 548 rfl rfl
set_option maxRecDepth 100000 in
theorem wd_451 : Cond.methodLink RX2 219 yX2_startsItem ∈ wsU := wsU_at 874 rfl rfl
set_option maxRecDepth 100000 in
theorem wd_452 : Cond.static yX2_startsItem ∈ wsU := wsU_at 875 rfl rfl
set_option maxRecDepth 100000 in
theorem wd_453 : Cond.code yX2_startsItem cX2_startsItem 1 (some .boolean) ∈ wsU := wsU_at 876 rfl rfl
set_option maxRecDepth 100000 in
theorem wd_454 : Cond.methodLink RX2 222 yX2_readX ∈ wsU := wsU_at 877 rfl rfl
set_option maxRecDepth 100000 in
theorem wd_455 : Cond.instanceMethod yX2_readX ∈ wsU := wsU_at 879 rfl rfl
set_option maxRecDepth 100000 in
theorem wd_456 : Cond.selects RX2 yX2_readX yX2_readX ∈ wsU := wsU_at 19 rfl rfl
set_option maxRecDepth 100000 in
theorem wd_457 : Cond.code yX2_readX cX2_readX 3 (some .boolean) ∈ wsU := wsU_at 880 rfl rfl
set_option maxRecDepth 100000 in
theorem wd_458 : Cond.methodLink RX2 173 yX2_isNext ∈ wsU := wsU_at 881 rfl rfl
set_option maxRecDepth 100000 in
theorem wd_459 : Cond.instanceMethod yX2_isNext ∈ wsU := wsU_at 883 rfl rfl
set_option maxRecDepth 100000 in
theorem wd_460 : Cond.selects RX2 yX2_isNext yX2_isNext ∈ wsU := wsU_at 20 rfl rfl
set_option maxRecDepth 100000 in
theorem wd_461 : Cond.code yX2_isNext cX2_isNext 2 (some .boolean) ∈ wsU := wsU_at 884 rfl rfl
set_option maxRecDepth 100000 in
theorem wd_462 : Cond.methodLink RX2 228 yX5_addItem ∈ wsU := wsU_at 885 rfl rfl
set_option maxRecDepth 100000 in
theorem wd_463 : Cond.instanceMethod yX5_addItem ∈ wsU := wsU_at 886 rfl rfl
set_option maxRecDepth 100000 in
theorem wd_464 : Cond.selects RX5 yX5_addItem yX5_addItem ∈ wsU := wsU_at 887 rfl rfl
set_option maxRecDepth 100000 in
theorem wd_465 : Cond.code yX5_addItem cX5_addItem 7 none ∈ wsU := wsU_at 888 rfl rfl
set_option maxRecDepth 100000 in
theorem wd_467 : Cond.methodLink RX2 105 yX2_readPart ∈ wsU := wsU_at 891 rfl rfl
set_option maxRecDepth 100000 in
theorem wd_468 : Cond.instanceMethod yX2_readPart ∈ wsU := wsU_at 893 rfl rfl
set_option maxRecDepth 100000 in
theorem wd_469 : Cond.selects RX2 yX2_readPart yX2_readPart ∈ wsU := wsU_at 21 rfl rfl
set_option maxRecDepth 100000 in
theorem wd_470 : Cond.code yX2_readPart cX2_readPart 6 (some .boolean) ∈ wsU := wsU_at 894 rfl rfl
set_option maxRecDepth 100000 in
theorem wd_471 : Cond.fieldLink RX2 232 "SaidShallow$WordList" "count" "I" ∈ wsU := wsU_at 178 rfl rfl
set_option maxRecDepth 100000 in
theorem wd_472 : Cond.fieldLink RX2 237 "SaidShallow$WordList" "lengths" "[I" ∈ wsU := wsU_at 174 rfl rfl
set_option maxRecDepth 100000 in
theorem wd_473 : Cond.methodLink RX2 240 yX9_open ∈ wsU := wsU_at 895 rfl rfl
set_option maxRecDepth 100000 in
theorem wd_477 : Cond.methodLink RX2 243 yX9_push ∈ wsU := wsU_at 899 rfl rfl
set_option maxRecDepth 100000 in
theorem wd_478 : Cond.instanceMethod yX9_push ∈ wsU := wsU_at 900 rfl rfl
set_option maxRecDepth 100000 in
theorem wd_479 : Cond.selects RX9 yX9_push yX9_push ∈ wsU := wsU_at 901 rfl rfl
set_option maxRecDepth 100000 in
theorem wd_480 : Cond.code yX9_push cX9_push 3 none ∈ wsU := wsU_at 902 rfl rfl
set_option maxRecDepth 100000 in
theorem wd_481 : Cond.methodLink RX2 58 yX7_compile ∈ wsU := wsU_at 904 rfl rfl
set_option maxRecDepth 100000 in
theorem wd_482 : Cond.instanceMethod yX7_compile ∈ wsU := wsU_at 905 rfl rfl
set_option maxRecDepth 100000 in
theorem wd_483 : Cond.selects RX7 yX7_compile yX7_compile ∈ wsU := wsU_at 906 rfl rfl
set_option maxRecDepth 100000 in
theorem wd_484 : Cond.code yX7_compile cX7_compile 2 none ∈ wsU := wsU_at 907 rfl rfl
theorem ti_35 : (35 : Int32).toInt = 35 := by decide
theorem ti_42 : (42 : Int32).toInt = 42 := by decide
theorem ti_59 : (59 : Int32).toInt = 59 := by decide
theorem ti_95 : (95 : Int32).toInt = 95 := by decide
theorem ti_124 : (124 : Int32).toInt = 124 := by decide

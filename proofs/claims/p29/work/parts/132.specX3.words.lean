theorem tw_0 : Cond.selects RX5 yX5_readDoors yX5_readDoors ∈ LW := LWm (i := 0) (by decide +kernel) rfl
theorem tw_1 : Cond.selects RX5 yX5_readClause yX5_readClause ∈ LW := LWm (i := 1) (by decide +kernel) rfl
theorem tw_3 : Cond.selects RX5 yX5_arrivalOf yX5_arrivalOf ∈ LW := LWm (i := 3) (by decide +kernel) rfl
theorem tw_81 : Cond.initialized RX5 ∈ LW := LWm1 (i := 3) (by decide +kernel) rfl
theorem tw_88 : Cond.initialized RJ10 ∈ LW := LWm1 (i := 10) (by decide +kernel) rfl
theorem tw_93 : Cond.initialized RJ9 ∈ LW := LWm1 (i := 15) (by decide +kernel) rfl
theorem tw_112 : Cond.fieldLink RX5 76 "LastPlace$Text" "size" "I" ∈ LW := LWm1 (i := 34) (by decide +kernel) rfl
theorem tw_115 : Cond.fieldLink RX5 52 "LastPlace$Text" "at" "I" ∈ LW := LWm1 (i := 37) (by decide +kernel) rfl
theorem tw_118 : Cond.fieldLink RX5 115 "LastPlace$Text" "numberAt" "I" ∈ LW := LWm1 (i := 40) (by decide +kernel) rfl
theorem tw_146 : Cond.fieldLink RX5 9 "LastPlace$Street" "values" "[I" ∈ LW := LWm1 (i := 68) (by decide +kernel) rfl
theorem tw_150 : Cond.fieldLink RX5 15 "LastPlace$Street" "frees" "[I" ∈ LW := LWm1 (i := 72) (by decide +kernel) rfl
theorem tw_152 : Cond.fieldLink RX5 18 "LastPlace$Street" "prices" "[I" ∈ LW := LWm1 (i := 74) (by decide +kernel) rfl
theorem tw_154 : Cond.fieldLink RX5 21 "LastPlace$Street" "lateness" "[I" ∈ LW := LWm1 (i := 76) (by decide +kernel) rfl
theorem tw_364 : Cond.methodLink RX5 24 arraycopyName ∈ LW := LWm2 (i := 46) (by decide +kernel) rfl
theorem tw_365 : Cond.static arraycopyName ∈ LW := LWm2 (i := 47) (by decide +kernel) rfl
theorem tw_366 : Cond.native arraycopyName ∈ LW := LWm2 (i := 48) (by decide +kernel) rfl
theorem tw_367 : Cond.methodLink RX5 43 yX6_failed ∈ LW := LWm2 (i := 49) (by decide +kernel) rfl
theorem tw_371 : Cond.methodLink RX5 49 yX6_isAtEnd ∈ LW := LWm2 (i := 53) (by decide +kernel) rfl
theorem tw_372 : Cond.instanceMethod yX6_isAtEnd ∈ LW := LWm2 (i := 54) (by decide +kernel) rfl
theorem tw_373 : Cond.selects RX6 yX6_isAtEnd yX6_isAtEnd ∈ LW := LWm2 (i := 55) (by decide +kernel) rfl
set_option maxRecDepth 100000 in theorem tw_374 : Cond.code yX6_isAtEnd cX6_isAtEnd 1 (some .boolean) ∈ LW := LWm2 (i := 56) rfl rfl
theorem tw_383 : Cond.methodLink RX5 56 yX5_takeClauseWord ∈ LW := LWm2 (i := 65) (by decide +kernel) rfl
theorem tw_384 : Cond.static yX5_takeClauseWord ∈ LW := LWm2 (i := 66) (by decide +kernel) rfl
set_option maxRecDepth 100000 in theorem tw_385 : Cond.code yX5_takeClauseWord cX5_takeClauseWord 2 (some .int) ∈ LW := LWm2 (i := 67) rfl rfl
theorem tw_386 : Cond.methodLink RX5 79 yX5_wordOf ∈ LW := LWm2 (i := 68) (by decide +kernel) rfl
theorem tw_387 : Cond.static yX5_wordOf ∈ LW := LWm2 (i := 69) (by decide +kernel) rfl
set_option maxRecDepth 100000 in theorem tw_388 : Cond.code yX5_wordOf cX5_wordOf 1 (some (.object "java/lang/String")) ∈ LW := LWm2 (i := 70) rfl rfl
theorem tw_399 : Cond.methodLink RX5 83 yX6_takeWord ∈ LW := LWm2 (i := 81) (by decide +kernel) rfl
theorem tw_455 : Cond.methodLink RX5 60 yX6_fail ∈ LW := LWm2 (i := 137) (by decide +kernel) rfl
theorem tw_459 : Cond.methodLink RX5 64 yX5_readDoors ∈ LW := LWm2 (i := 141) (by decide +kernel) rfl
theorem tw_461 : Cond.instanceMethod yX5_readDoors ∈ LW := LWm2 (i := 143) (by decide +kernel) rfl
set_option maxRecDepth 100000 in theorem tw_462 : Cond.code yX5_readDoors cX5_readDoors 7 none ∈ LW := LWm2 (i := 144) rfl rfl
theorem tw_467 : Cond.methodLink RX5 112 yX6_needNumber ∈ LW := LWm2 (i := 149) (by decide +kernel) rfl
theorem tw_468 : Cond.instanceMethod yX6_needNumber ∈ LW := LWm2 (i := 150) (by decide +kernel) rfl
theorem tw_469 : Cond.selects RX6 yX6_needNumber yX6_needNumber ∈ LW := LWm2 (i := 151) (by decide +kernel) rfl
set_option maxRecDepth 100000 in theorem tw_470 : Cond.code yX6_needNumber cX6_needNumber 6 (some .int) ∈ LW := LWm2 (i := 152) rfl rfl
theorem tw_477 : Cond.methodLink RX5 72 yX5_doors ∈ LW := LWm2 (i := 159) (by decide +kernel) rfl
theorem tw_478 : Cond.instanceMethod yX5_doors ∈ LW := LWm2 (i := 160) (by decide +kernel) rfl
theorem tw_479 : Cond.selects RX5 yX5_doors yX5_doors ∈ LW := LWm2 (i := 161) (by decide +kernel) rfl
set_option maxRecDepth 100000 in theorem tw_480 : Cond.code yX5_doors cX5_doors 1 (some .int) ∈ LW := LWm2 (i := 162) rfl rfl
theorem tw_482 : Cond.methodLink RX5 120 yX6_needWord ∈ LW := LWm2 (i := 164) (by decide +kernel) rfl
theorem tw_483 : Cond.instanceMethod yX6_needWord ∈ LW := LWm2 (i := 165) (by decide +kernel) rfl
theorem tw_484 : Cond.selects RX6 yX6_needWord yX6_needWord ∈ LW := LWm2 (i := 166) (by decide +kernel) rfl
set_option maxRecDepth 100000 in theorem tw_485 : Cond.code yX6_needWord cX6_needWord 2 none ∈ LW := LWm2 (i := 167) rfl rfl
theorem tw_488 : Cond.methodLink RX5 126 yX6_needSemicolon ∈ LW := LWm2 (i := 170) (by decide +kernel) rfl
theorem tw_489 : Cond.instanceMethod yX6_needSemicolon ∈ LW := LWm2 (i := 171) (by decide +kernel) rfl
theorem tw_490 : Cond.selects RX6 yX6_needSemicolon yX6_needSemicolon ∈ LW := LWm2 (i := 172) (by decide +kernel) rfl
set_option maxRecDepth 100000 in theorem tw_491 : Cond.code yX6_needSemicolon cX6_needSemicolon 1 none ∈ LW := LWm2 (i := 173) rfl rfl
theorem tw_492 : Cond.methodLink RX5 68 yX5_readClause ∈ LW := LWm2 (i := 174) (by decide +kernel) rfl
theorem tw_494 : Cond.instanceMethod yX5_readClause ∈ LW := LWm2 (i := 176) (by decide +kernel) rfl
set_option maxRecDepth 100000 in theorem tw_495 : Cond.code yX5_readClause cX5_readClause 3 none ∈ LW := LWm2 (i := 177) rfl rfl
theorem tw_505 : Cond.methodLink RX5 30 yX5_arrivalOf ∈ LW := LWm2 (i := 187) (by decide +kernel) rfl
theorem tw_507 : Cond.instanceMethod yX5_arrivalOf ∈ LW := LWm2 (i := 189) (by decide +kernel) rfl
set_option maxRecDepth 100000 in theorem tw_508 : Cond.code yX5_arrivalOf cX5_arrivalOf 2 (some .int) ∈ LW := LWm2 (i := 190) rfl rfl
theorem tw_509 : Cond.methodLink RX5 34 yJ9_max_7cf53 ∈ LW := LWm2 (i := 191) (by decide +kernel) rfl
theorem tw_510 : Cond.static yJ9_max_7cf53 ∈ LW := LWm2 (i := 192) (by decide +kernel) rfl
set_option maxRecDepth 100000 in theorem tw_511 : Cond.code yJ9_max_7cf53 cJ9_max_7cf53 2 (some .int) ∈ LW := LWm2 (i := 193) rfl rfl
theorem tw_529 : Cond.static yJ9_min_7cf53 ∈ LW := LWm2 (i := 211) (by decide +kernel) rfl
set_option maxRecDepth 100000 in theorem tw_530 : Cond.code yJ9_min_7cf53 cJ9_min_7cf53 2 (some .int) ∈ LW := LWm2 (i := 212) rfl rfl
theorem tw_540 : Cond.methodLink RX5 129 yJ9_min_7cf53 ∈ LW := LWm2 (i := 222) (by decide +kernel) rfl
theorem tw_560 : Cond.methodLink RX5 132 yX5_takingBy ∈ LW := LWm3 (i := 2) (by decide +kernel) rfl
theorem tw_561 : Cond.instanceMethod yX5_takingBy ∈ LW := LWm3 (i := 3) (by decide +kernel) rfl
theorem tw_562 : Cond.selects RX5 yX5_takingBy yX5_takingBy ∈ LW := LWm3 (i := 4) (by decide +kernel) rfl
set_option maxRecDepth 100000 in theorem tw_563 : Cond.code yX5_takingBy cX5_takingBy 4 (some .int) ∈ LW := LWm3 (i := 5) rfl rfl

theorem tw_0 : Cond.selects RX5 yX5_readDoors yX5_readDoors ∈ LW := LWm (i := 0) (by decide +kernel) rfl
theorem tw_1 : Cond.selects RX5 yX5_readClause yX5_readClause ∈ LW := LWm (i := 1) (by decide +kernel) rfl
theorem tw_3 : Cond.selects RX5 yX5_arrivalOf yX5_arrivalOf ∈ LW := LWm (i := 3) (by decide +kernel) rfl
theorem tw_81 : Cond.initialized RX5 ∈ LW := LWm (i := 81) (by decide +kernel) rfl
theorem tw_88 : Cond.initialized RJ10 ∈ LW := LWm (i := 88) (by decide +kernel) rfl
theorem tw_93 : Cond.initialized RJ9 ∈ LW := LWm (i := 93) (by decide +kernel) rfl
theorem tw_112 : Cond.fieldLink RX5 76 "LastPlace$Text" "size" "I" ∈ LW := LWm (i := 112) (by decide +kernel) rfl
theorem tw_115 : Cond.fieldLink RX5 52 "LastPlace$Text" "at" "I" ∈ LW := LWm (i := 115) (by decide +kernel) rfl
theorem tw_118 : Cond.fieldLink RX5 115 "LastPlace$Text" "numberAt" "I" ∈ LW := LWm (i := 118) (by decide +kernel) rfl
theorem tw_146 : Cond.fieldLink RX5 9 "LastPlace$Street" "values" "[I" ∈ LW := LWm (i := 146) (by decide +kernel) rfl
theorem tw_150 : Cond.fieldLink RX5 15 "LastPlace$Street" "frees" "[I" ∈ LW := LWm (i := 150) (by decide +kernel) rfl
theorem tw_152 : Cond.fieldLink RX5 18 "LastPlace$Street" "prices" "[I" ∈ LW := LWm (i := 152) (by decide +kernel) rfl
theorem tw_154 : Cond.fieldLink RX5 21 "LastPlace$Street" "lateness" "[I" ∈ LW := LWm (i := 154) (by decide +kernel) rfl
theorem tw_364 : Cond.methodLink RX5 24 arraycopyName ∈ LW := LWm (i := 364) (by decide +kernel) rfl
theorem tw_365 : Cond.static arraycopyName ∈ LW := LWm (i := 365) (by decide +kernel) rfl
theorem tw_366 : Cond.native arraycopyName ∈ LW := LWm (i := 366) (by decide +kernel) rfl
theorem tw_367 : Cond.methodLink RX5 43 yX6_failed ∈ LW := LWm (i := 367) (by decide +kernel) rfl
theorem tw_371 : Cond.methodLink RX5 49 yX6_isAtEnd ∈ LW := LWm (i := 371) (by decide +kernel) rfl
theorem tw_372 : Cond.instanceMethod yX6_isAtEnd ∈ LW := LWm (i := 372) (by decide +kernel) rfl
theorem tw_373 : Cond.selects RX6 yX6_isAtEnd yX6_isAtEnd ∈ LW := LWm (i := 373) (by decide +kernel) rfl
set_option maxRecDepth 100000 in theorem tw_374 : Cond.code yX6_isAtEnd cX6_isAtEnd 1 (some .boolean) ∈ LW := LWm (i := 374) rfl rfl
theorem tw_383 : Cond.methodLink RX5 56 yX5_takeClauseWord ∈ LW := LWm (i := 383) (by decide +kernel) rfl
theorem tw_384 : Cond.static yX5_takeClauseWord ∈ LW := LWm (i := 384) (by decide +kernel) rfl
set_option maxRecDepth 100000 in theorem tw_385 : Cond.code yX5_takeClauseWord cX5_takeClauseWord 2 (some .int) ∈ LW := LWm (i := 385) rfl rfl
theorem tw_386 : Cond.methodLink RX5 79 yX5_wordOf ∈ LW := LWm (i := 386) (by decide +kernel) rfl
theorem tw_387 : Cond.static yX5_wordOf ∈ LW := LWm (i := 387) (by decide +kernel) rfl
set_option maxRecDepth 100000 in theorem tw_388 : Cond.code yX5_wordOf cX5_wordOf 1 (some (.object "java/lang/String")) ∈ LW := LWm (i := 388) rfl rfl
theorem tw_399 : Cond.methodLink RX5 83 yX6_takeWord ∈ LW := LWm (i := 399) (by decide +kernel) rfl
theorem tw_455 : Cond.methodLink RX5 60 yX6_fail ∈ LW := LWm (i := 455) (by decide +kernel) rfl
theorem tw_459 : Cond.methodLink RX5 64 yX5_readDoors ∈ LW := LWm (i := 459) (by decide +kernel) rfl
theorem tw_461 : Cond.instanceMethod yX5_readDoors ∈ LW := LWm (i := 461) (by decide +kernel) rfl
set_option maxRecDepth 100000 in theorem tw_462 : Cond.code yX5_readDoors cX5_readDoors 7 none ∈ LW := LWm (i := 462) rfl rfl
theorem tw_467 : Cond.methodLink RX5 112 yX6_needNumber ∈ LW := LWm (i := 467) (by decide +kernel) rfl
theorem tw_468 : Cond.instanceMethod yX6_needNumber ∈ LW := LWm (i := 468) (by decide +kernel) rfl
theorem tw_469 : Cond.selects RX6 yX6_needNumber yX6_needNumber ∈ LW := LWm (i := 469) (by decide +kernel) rfl
set_option maxRecDepth 100000 in theorem tw_470 : Cond.code yX6_needNumber cX6_needNumber 6 (some .int) ∈ LW := LWm (i := 470) rfl rfl
theorem tw_477 : Cond.methodLink RX5 72 yX5_doors ∈ LW := LWm (i := 477) (by decide +kernel) rfl
theorem tw_478 : Cond.instanceMethod yX5_doors ∈ LW := LWm (i := 478) (by decide +kernel) rfl
theorem tw_479 : Cond.selects RX5 yX5_doors yX5_doors ∈ LW := LWm (i := 479) (by decide +kernel) rfl
set_option maxRecDepth 100000 in theorem tw_480 : Cond.code yX5_doors cX5_doors 1 (some .int) ∈ LW := LWm (i := 480) rfl rfl
theorem tw_482 : Cond.methodLink RX5 120 yX6_needWord ∈ LW := LWm (i := 482) (by decide +kernel) rfl
theorem tw_483 : Cond.instanceMethod yX6_needWord ∈ LW := LWm (i := 483) (by decide +kernel) rfl
theorem tw_484 : Cond.selects RX6 yX6_needWord yX6_needWord ∈ LW := LWm (i := 484) (by decide +kernel) rfl
set_option maxRecDepth 100000 in theorem tw_485 : Cond.code yX6_needWord cX6_needWord 2 none ∈ LW := LWm (i := 485) rfl rfl
theorem tw_488 : Cond.methodLink RX5 126 yX6_needSemicolon ∈ LW := LWm (i := 488) (by decide +kernel) rfl
theorem tw_489 : Cond.instanceMethod yX6_needSemicolon ∈ LW := LWm (i := 489) (by decide +kernel) rfl
theorem tw_490 : Cond.selects RX6 yX6_needSemicolon yX6_needSemicolon ∈ LW := LWm (i := 490) (by decide +kernel) rfl
set_option maxRecDepth 100000 in theorem tw_491 : Cond.code yX6_needSemicolon cX6_needSemicolon 1 none ∈ LW := LWm (i := 491) rfl rfl
theorem tw_492 : Cond.methodLink RX5 68 yX5_readClause ∈ LW := LWm (i := 492) (by decide +kernel) rfl
theorem tw_494 : Cond.instanceMethod yX5_readClause ∈ LW := LWm (i := 494) (by decide +kernel) rfl
set_option maxRecDepth 100000 in theorem tw_495 : Cond.code yX5_readClause cX5_readClause 3 none ∈ LW := LWm (i := 495) rfl rfl
theorem tw_505 : Cond.methodLink RX5 30 yX5_arrivalOf ∈ LW := LWm (i := 505) (by decide +kernel) rfl
theorem tw_507 : Cond.instanceMethod yX5_arrivalOf ∈ LW := LWm (i := 507) (by decide +kernel) rfl
set_option maxRecDepth 100000 in theorem tw_508 : Cond.code yX5_arrivalOf cX5_arrivalOf 2 (some .int) ∈ LW := LWm (i := 508) rfl rfl
theorem tw_509 : Cond.methodLink RX5 34 yJ9_max_7cf53 ∈ LW := LWm (i := 509) (by decide +kernel) rfl
theorem tw_510 : Cond.static yJ9_max_7cf53 ∈ LW := LWm (i := 510) (by decide +kernel) rfl
set_option maxRecDepth 100000 in theorem tw_511 : Cond.code yJ9_max_7cf53 cJ9_max_7cf53 2 (some .int) ∈ LW := LWm (i := 511) rfl rfl
theorem tw_529 : Cond.static yJ9_min_7cf53 ∈ LW := LWm (i := 529) (by decide +kernel) rfl
set_option maxRecDepth 100000 in theorem tw_530 : Cond.code yJ9_min_7cf53 cJ9_min_7cf53 2 (some .int) ∈ LW := LWm (i := 530) rfl rfl
theorem tw_540 : Cond.methodLink RX5 129 yJ9_min_7cf53 ∈ LW := LWm (i := 540) (by decide +kernel) rfl
theorem tw_560 : Cond.methodLink RX5 132 yX5_takingBy ∈ LW := LWm (i := 560) (by decide +kernel) rfl
theorem tw_561 : Cond.instanceMethod yX5_takingBy ∈ LW := LWm (i := 561) (by decide +kernel) rfl
theorem tw_562 : Cond.selects RX5 yX5_takingBy yX5_takingBy ∈ LW := LWm (i := 562) (by decide +kernel) rfl
set_option maxRecDepth 100000 in theorem tw_563 : Cond.code yX5_takingBy cX5_takingBy 4 (some .int) ∈ LW := LWm (i := 563) rfl rfl

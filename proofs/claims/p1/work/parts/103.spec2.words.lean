theorem tw_80 : Cond.initialized RX6 ∈ LW := LWm (i := 80) (by decide +kernel) rfl
theorem tw_81 : Cond.initialized RX5 ∈ LW := LWm (i := 81) (by decide +kernel) rfl
theorem tw_88 : Cond.initialized RJ10 ∈ LW := LWm (i := 88) (by decide +kernel) rfl
theorem tw_89 : Cond.initialized RJ0 ∈ LW := LWm (i := 89) (by decide +kernel) rfl
theorem tw_90 : Cond.initialized RJ1 ∈ LW := LWm (i := 90) (by decide +kernel) rfl
theorem tw_91 : Cond.initialized RJ3 ∈ LW := LWm (i := 91) (by decide +kernel) rfl
theorem tw_101 : Cond.instanceMethod objectInit ∈ LW := LWm (i := 101) (by decide +kernel) rfl
theorem tw_102 : Cond.code objectInit ⟨#[0xb1]⟩ 1 none ∈ LW := LWm (i := 102) (by decide +kernel) rfl
theorem tw_108 : Cond.methodLink RX6 3 objectInit ∈ LW := LWm (i := 108) (by decide +kernel) rfl
theorem tw_109 : Cond.fieldLink RX6 9 "LastPlace$Text" "bytes" "[B" ∈ LW := LWm (i := 109) (by decide +kernel) rfl
theorem tw_110 : Cond.fieldLink RX6 15 "LastPlace$Text" "size" "I" ∈ LW := LWm (i := 110) (by decide +kernel) rfl
theorem tw_112 : Cond.fieldLink RX5 76 "LastPlace$Text" "size" "I" ∈ LW := LWm (i := 112) (by decide +kernel) rfl
theorem tw_113 : Cond.fieldLink RX6 19 "LastPlace$Text" "at" "I" ∈ LW := LWm (i := 113) (by decide +kernel) rfl
theorem tw_116 : Cond.fieldLink RX6 22 "LastPlace$Text" "numberAt" "I" ∈ LW := LWm (i := 116) (by decide +kernel) rfl
theorem tw_119 : Cond.fieldLink RX6 25 "LastPlace$Text" "faultNumber" "I" ∈ LW := LWm (i := 119) (by decide +kernel) rfl
theorem tw_121 : Cond.fieldLink RX6 28 "LastPlace$Text" "faultByte" "I" ∈ LW := LWm (i := 121) (by decide +kernel) rfl
theorem tw_136 : Cond.arrayClass .byte ∈ LW := LWm (i := 136) (by decide +kernel) rfl
theorem tw_145 : Cond.methodLink RX5 3 objectInit ∈ LW := LWm (i := 145) (by decide +kernel) rfl
theorem tw_146 : Cond.fieldLink RX5 9 "LastPlace$Street" "values" "[I" ∈ LW := LWm (i := 146) (by decide +kernel) rfl
theorem tw_150 : Cond.fieldLink RX5 15 "LastPlace$Street" "frees" "[I" ∈ LW := LWm (i := 150) (by decide +kernel) rfl
theorem tw_152 : Cond.fieldLink RX5 18 "LastPlace$Street" "prices" "[I" ∈ LW := LWm (i := 152) (by decide +kernel) rfl
theorem tw_154 : Cond.fieldLink RX5 21 "LastPlace$Street" "lateness" "[I" ∈ LW := LWm (i := 154) (by decide +kernel) rfl
theorem tw_164 : Cond.arrayClass .int ∈ LW := LWm (i := 164) (by decide +kernel) rfl
theorem tw_172 : Cond.methodLink RX4 3 objectInit ∈ LW := LWm (i := 172) (by decide +kernel) rfl
theorem tw_173 : Cond.fieldLink RX4 9 "LastPlace$Scene" "walks" "[I" ∈ LW := LWm (i := 173) (by decide +kernel) rfl
theorem tw_175 : Cond.fieldLink RX4 15 "LastPlace$Scene" "bars" "[I" ∈ LW := LWm (i := 175) (by decide +kernel) rfl
theorem tw_178 : Cond.fieldLink RX4 18 "LastPlace$Scene" "carCount" "I" ∈ LW := LWm (i := 178) (by decide +kernel) rfl
theorem tw_181 : Cond.fieldLink RX4 22 "LastPlace$Scene" "rowSize" "I" ∈ LW := LWm (i := 181) (by decide +kernel) rfl
theorem tw_185 : Cond.fieldLink RX4 25 "LastPlace$Scene" "rowFree" "I" ∈ LW := LWm (i := 185) (by decide +kernel) rfl
theorem tw_188 : Cond.fieldLink RX4 28 "LastPlace$Scene" "seedNow" "I" ∈ LW := LWm (i := 188) (by decide +kernel) rfl
theorem tw_209 : Cond.methodLink RX2 3 objectInit ∈ LW := LWm (i := 209) (by decide +kernel) rfl
theorem tw_210 : Cond.fieldLink RX2 9 "LastPlace$Reckoner" "afterFree" "[I" ∈ LW := LWm (i := 210) (by decide +kernel) rfl
theorem tw_211 : Cond.fieldLink RX2 15 "LastPlace$Reckoner" "afterTaken" "[I" ∈ LW := LWm (i := 211) (by decide +kernel) rfl
theorem tw_212 : Cond.fieldLink RX2 18 "LastPlace$Reckoner" "least" "[I" ∈ LW := LWm (i := 212) (by decide +kernel) rfl
theorem tw_213 : Cond.fieldLink RX2 21 "LastPlace$Reckoner" "waitTicks" "I" ∈ LW := LWm (i := 213) (by decide +kernel) rfl
theorem tw_215 : Cond.fieldLink RX2 25 "LastPlace$Reckoner" "waitCost" "I" ∈ LW := LWm (i := 215) (by decide +kernel) rfl
theorem tw_234 : Cond.methodLink RX1 3 objectInit ∈ LW := LWm (i := 234) (by decide +kernel) rfl
theorem tw_235 : Cond.fieldLink RX1 34 "LastPlace$Parking" "scene" "LLastPlace$Scene;" ∈ LW := LWm (i := 235) (by decide +kernel) rfl
theorem tw_236 : Cond.fieldLink RX1 9 "LastPlace$Parking" "bars" "[I" ∈ LW := LWm (i := 236) (by decide +kernel) rfl
theorem tw_238 : Cond.fieldLink RX1 15 "LastPlace$Parking" "costs" "[I" ∈ LW := LWm (i := 238) (by decide +kernel) rfl
theorem tw_239 : Cond.fieldLink RX1 18 "LastPlace$Parking" "given" "[I" ∈ LW := LWm (i := 239) (by decide +kernel) rfl
theorem tw_240 : Cond.fieldLink RX1 21 "LastPlace$Parking" "n" "I" ∈ LW := LWm (i := 240) (by decide +kernel) rfl
theorem tw_241 : Cond.fieldLink RX1 25 "LastPlace$Parking" "free" "I" ∈ LW := LWm (i := 241) (by decide +kernel) rfl
theorem tw_242 : Cond.fieldLink RX1 28 "LastPlace$Parking" "dearFrom" "I" ∈ LW := LWm (i := 242) (by decide +kernel) rfl
theorem tw_243 : Cond.fieldLink RX1 31 "LastPlace$Parking" "dearer" "I" ∈ LW := LWm (i := 243) (by decide +kernel) rfl
theorem tw_265 : Cond.methodLink RX0 3 objectInit ∈ LW := LWm (i := 265) (by decide +kernel) rfl
theorem tw_266 : Cond.fieldLink RX0 24 "LastPlace$BestWay" "street" "LLastPlace$Street;" ∈ LW := LWm (i := 266) (by decide +kernel) rfl
theorem tw_267 : Cond.fieldLink RX0 9 "LastPlace$BestWay" "onward" "[I" ∈ LW := LWm (i := 267) (by decide +kernel) rfl
theorem tw_268 : Cond.fieldLink RX0 15 "LastPlace$BestWay" "starts" "[I" ∈ LW := LWm (i := 268) (by decide +kernel) rfl
theorem tw_270 : Cond.fieldLink RX0 18 "LastPlace$BestWay" "ends" "[I" ∈ LW := LWm (i := 270) (by decide +kernel) rfl
theorem tw_272 : Cond.fieldLink RX0 21 "LastPlace$BestWay" "folded" "[I" ∈ LW := LWm (i := 272) (by decide +kernel) rfl
theorem tw_288 : Cond.methodLink RX3 3 objectInit ∈ LW := LWm (i := 288) (by decide +kernel) rfl
theorem tw_289 : Cond.fieldLink RX3 9 "LastPlace$Rule" "seen" "[I" ∈ LW := LWm (i := 289) (by decide +kernel) rfl
theorem tw_290 : Cond.fieldLink RX3 15 "LastPlace$Rule" "from" "[I" ∈ LW := LWm (i := 290) (by decide +kernel) rfl
theorem tw_291 : Cond.fieldLink RX3 18 "LastPlace$Rule" "firstFrom" "I" ∈ LW := LWm (i := 291) (by decide +kernel) rfl
theorem tw_292 : Cond.fieldLink RX3 22 "LastPlace$Rule" "changes" "I" ∈ LW := LWm (i := 292) (by decide +kernel) rfl
theorem tw_293 : Cond.fieldLink RX3 25 "LastPlace$Rule" "rounds" "I" ∈ LW := LWm (i := 293) (by decide +kernel) rfl
theorem tw_364 : Cond.methodLink RX5 24 arraycopyName ∈ LW := LWm (i := 364) (by decide +kernel) rfl
theorem tw_365 : Cond.static arraycopyName ∈ LW := LWm (i := 365) (by decide +kernel) rfl
theorem tw_366 : Cond.native arraycopyName ∈ LW := LWm (i := 366) (by decide +kernel) rfl
theorem tw_367 : Cond.methodLink RX5 43 yX6_failed ∈ LW := LWm (i := 367) (by decide +kernel) rfl
theorem tw_368 : Cond.instanceMethod yX6_failed ∈ LW := LWm (i := 368) (by decide +kernel) rfl
theorem tw_369 : Cond.selects RX6 yX6_failed yX6_failed ∈ LW := LWm (i := 369) (by decide +kernel) rfl
theorem tw_370 : Cond.code yX6_failed cX6_failed 1 (some .boolean) ∈ LW := LWm (i := 370) (by decide +kernel) rfl
theorem tw_371 : Cond.methodLink RX5 49 yX6_isAtEnd ∈ LW := LWm (i := 371) (by decide +kernel) rfl
theorem tw_372 : Cond.instanceMethod yX6_isAtEnd ∈ LW := LWm (i := 372) (by decide +kernel) rfl
theorem tw_373 : Cond.selects RX6 yX6_isAtEnd yX6_isAtEnd ∈ LW := LWm (i := 373) (by decide +kernel) rfl
theorem tw_374 : Cond.code yX6_isAtEnd cX6_isAtEnd 1 (some .boolean) ∈ LW := LWm (i := 374) (by decide +kernel) rfl
theorem tw_375 : Cond.methodLink RX6 35 yX6_skipBlanks ∈ LW := LWm (i := 375) (by decide +kernel) rfl
theorem tw_376 : Cond.instanceMethod yX6_skipBlanks ∈ LW := LWm (i := 376) (by decide +kernel) rfl
theorem tw_377 : Cond.selects RX6 yX6_skipBlanks yX6_skipBlanks ∈ LW := LWm (i := 377) (by decide +kernel) rfl
theorem tw_378 : Cond.code yX6_skipBlanks cX6_skipBlanks 1 none ∈ LW := LWm (i := 378) (by decide +kernel) rfl
theorem tw_379 : Cond.methodLink RX6 31 yX6_byteAt ∈ LW := LWm (i := 379) (by decide +kernel) rfl
theorem tw_380 : Cond.instanceMethod yX6_byteAt ∈ LW := LWm (i := 380) (by decide +kernel) rfl
theorem tw_381 : Cond.selects RX6 yX6_byteAt yX6_byteAt ∈ LW := LWm (i := 381) (by decide +kernel) rfl
theorem tw_382 : Cond.code yX6_byteAt cX6_byteAt 2 (some .int) ∈ LW := LWm (i := 382) (by decide +kernel) rfl
theorem tw_400 : Cond.instanceMethod yX6_takeWord ∈ LW := LWm (i := 400) (by decide +kernel) rfl
theorem tw_401 : Cond.selects RX6 yX6_takeWord yX6_takeWord ∈ LW := LWm (i := 401) (by decide +kernel) rfl
theorem tw_402 : Cond.code yX6_takeWord cX6_takeWord 4 (some .boolean) ∈ LW := LWm (i := 402) (by decide +kernel) rfl
theorem tw_403 : Cond.methodLink RX6 38 yJ0_length_8abf5 ∈ LW := LWm (i := 403) (by decide +kernel) rfl
theorem tw_404 : Cond.instanceMethod yJ0_length_8abf5 ∈ LW := LWm (i := 404) (by decide +kernel) rfl
theorem tw_405 : Cond.selects RJ0 yJ0_length_8abf5 yJ0_length_8abf5 ∈ LW := LWm (i := 405) (by decide +kernel) rfl
theorem tw_406 : Cond.code yJ0_length_8abf5 cJ0_length_8abf5 1 (some .int) ∈ LW := LWm (i := 406) (by decide +kernel) rfl
theorem tw_407 : Cond.methodLink RJ0 335 yJ0_coder_7d493 ∈ LW := LWm (i := 407) (by decide +kernel) rfl
theorem tw_408 : Cond.instanceMethod yJ0_coder_7d493 ∈ LW := LWm (i := 408) (by decide +kernel) rfl
theorem tw_409 : Cond.selects RJ0 yJ0_coder_7d493 yJ0_coder_7d493 ∈ LW := LWm (i := 409) (by decide +kernel) rfl
theorem tw_410 : Cond.code yJ0_coder_7d493 cJ0_coder_7d493 1 (some .byte) ∈ LW := LWm (i := 410) (by decide +kernel) rfl
theorem tw_411 : Cond.fieldLink RJ0 38 "java/lang/String" "COMPACT_STRINGS" "Z" ∈ LW := LWm (i := 411) (by decide +kernel) rfl
theorem tw_413 : Cond.methodLink RX6 44 yJ0_charAt_5068e ∈ LW := LWm (i := 413) (by decide +kernel) rfl
theorem tw_414 : Cond.instanceMethod yJ0_charAt_5068e ∈ LW := LWm (i := 414) (by decide +kernel) rfl
theorem tw_415 : Cond.selects RJ0 yJ0_charAt_5068e yJ0_charAt_5068e ∈ LW := LWm (i := 415) (by decide +kernel) rfl
theorem tw_416 : Cond.code yJ0_charAt_5068e cJ0_charAt_5068e 2 (some .char) ∈ LW := LWm (i := 416) (by decide +kernel) rfl
theorem tw_417 : Cond.methodLink RJ0 492 yJ0_isLatin1_aae02 ∈ LW := LWm (i := 417) (by decide +kernel) rfl
theorem tw_418 : Cond.instanceMethod yJ0_isLatin1_aae02 ∈ LW := LWm (i := 418) (by decide +kernel) rfl
theorem tw_419 : Cond.selects RJ0 yJ0_isLatin1_aae02 yJ0_isLatin1_aae02 ∈ LW := LWm (i := 419) (by decide +kernel) rfl
theorem tw_420 : Cond.code yJ0_isLatin1_aae02 cJ0_isLatin1_aae02 1 (some .boolean) ∈ LW := LWm (i := 420) (by decide +kernel) rfl
theorem tw_421 : Cond.methodLink RJ0 495 yJ1_charAt_3b067 ∈ LW := LWm (i := 421) (by decide +kernel) rfl
theorem tw_422 : Cond.static yJ1_charAt_3b067 ∈ LW := LWm (i := 422) (by decide +kernel) rfl
theorem tw_423 : Cond.code yJ1_charAt_3b067 cJ1_charAt_3b067 2 (some .char) ∈ LW := LWm (i := 423) (by decide +kernel) rfl
theorem tw_424 : Cond.methodLink RJ1 9 yJ0_checkIndex_df160 ∈ LW := LWm (i := 424) (by decide +kernel) rfl
theorem tw_425 : Cond.static yJ0_checkIndex_df160 ∈ LW := LWm (i := 425) (by decide +kernel) rfl
theorem tw_426 : Cond.code yJ0_checkIndex_df160 cJ0_checkIndex_df160 2 none ∈ LW := LWm (i := 426) (by decide +kernel) rfl
theorem tw_427 : Cond.fieldLink RJ0 1053 "jdk/internal/util/Preconditions" "SIOOBE_FORMATTER" "Ljava/util/function/BiFunction;" ∈ LW := LWm (i := 427) (by decide +kernel) rfl
theorem tw_429 : Cond.methodLink RJ0 1059 yJ3_checkIndex_8e157 ∈ LW := LWm (i := 429) (by decide +kernel) rfl
theorem tw_430 : Cond.static yJ3_checkIndex_8e157 ∈ LW := LWm (i := 430) (by decide +kernel) rfl
theorem tw_431 : Cond.code yJ3_checkIndex_8e157 cJ3_checkIndex_8e157 3 (some .int) ∈ LW := LWm (i := 431) (by decide +kernel) rfl
theorem tw_455 : Cond.methodLink RX5 60 yX6_fail ∈ LW := LWm (i := 455) (by decide +kernel) rfl
theorem tw_456 : Cond.instanceMethod yX6_fail ∈ LW := LWm (i := 456) (by decide +kernel) rfl
theorem tw_457 : Cond.selects RX6 yX6_fail yX6_fail ∈ LW := LWm (i := 457) (by decide +kernel) rfl
theorem tw_458 : Cond.code yX6_fail cX6_fail 3 none ∈ LW := LWm (i := 458) (by decide +kernel) rfl
theorem tw_468 : Cond.instanceMethod yX6_needNumber ∈ LW := LWm (i := 468) (by decide +kernel) rfl
theorem tw_469 : Cond.selects RX6 yX6_needNumber yX6_needNumber ∈ LW := LWm (i := 469) (by decide +kernel) rfl
theorem tw_470 : Cond.code yX6_needNumber cX6_needNumber 6 (some .int) ∈ LW := LWm (i := 470) (by decide +kernel) rfl
theorem tw_471 : Cond.methodLink RX6 52 yX6_failed ∈ LW := LWm (i := 471) (by decide +kernel) rfl
theorem tw_476 : Cond.methodLink RX6 60 yX6_fail ∈ LW := LWm (i := 476) (by decide +kernel) rfl
theorem tw_477 : Cond.methodLink RX5 72 yX5_doors ∈ LW := LWm (i := 477) (by decide +kernel) rfl
theorem tw_478 : Cond.instanceMethod yX5_doors ∈ LW := LWm (i := 478) (by decide +kernel) rfl
theorem tw_479 : Cond.selects RX5 yX5_doors yX5_doors ∈ LW := LWm (i := 479) (by decide +kernel) rfl
theorem tw_480 : Cond.code yX5_doors cX5_doors 1 (some .int) ∈ LW := LWm (i := 480) (by decide +kernel) rfl
theorem tw_483 : Cond.instanceMethod yX6_needWord ∈ LW := LWm (i := 483) (by decide +kernel) rfl
theorem tw_484 : Cond.selects RX6 yX6_needWord yX6_needWord ∈ LW := LWm (i := 484) (by decide +kernel) rfl
theorem tw_485 : Cond.code yX6_needWord cX6_needWord 2 none ∈ LW := LWm (i := 485) (by decide +kernel) rfl
theorem tw_486 : Cond.methodLink RX6 56 yX6_takeWord ∈ LW := LWm (i := 486) (by decide +kernel) rfl
theorem tw_680 : Cond.methodLink RX3 29 yX6_needWord ∈ LW := LWm (i := 680) (by decide +kernel) rfl
theorem tw_681 : Cond.methodLink RX3 35 yX6_needNumber ∈ LW := LWm (i := 681) (by decide +kernel) rfl
theorem tw_682 : Cond.methodLink RX3 39 yX6_failed ∈ LW := LWm (i := 682) (by decide +kernel) rfl
theorem tw_1502 : Cond.fieldLink RJ0 9 "java/lang/String" "value" "[B" ∈ LW := LWm (i := 1502) (by decide +kernel) rfl
theorem tw_1503 : Cond.fieldLink RJ0 15 "java/lang/String" "coder" "B" ∈ LW := LWm (i := 1503) (by decide +kernel) rfl

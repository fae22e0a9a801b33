theorem tw_80 : Cond.initialized RX6 ∈ LW := LWm1 (i := 2) (by decide +kernel) rfl
theorem tw_109 : Cond.fieldLink RX6 9 "LastPlace$Text" "bytes" "[B" ∈ LW := LWm1 (i := 31) (by decide +kernel) rfl
theorem tw_110 : Cond.fieldLink RX6 15 "LastPlace$Text" "size" "I" ∈ LW := LWm1 (i := 32) (by decide +kernel) rfl
theorem tw_113 : Cond.fieldLink RX6 19 "LastPlace$Text" "at" "I" ∈ LW := LWm1 (i := 35) (by decide +kernel) rfl
theorem tw_116 : Cond.fieldLink RX6 22 "LastPlace$Text" "numberAt" "I" ∈ LW := LWm1 (i := 38) (by decide +kernel) rfl
theorem tw_119 : Cond.fieldLink RX6 25 "LastPlace$Text" "faultNumber" "I" ∈ LW := LWm1 (i := 41) (by decide +kernel) rfl
theorem tw_121 : Cond.fieldLink RX6 28 "LastPlace$Text" "faultByte" "I" ∈ LW := LWm1 (i := 43) (by decide +kernel) rfl
theorem tw_368 : Cond.instanceMethod yX6_failed ∈ LW := LWm2 (i := 50) (by decide +kernel) rfl
theorem tw_369 : Cond.selects RX6 yX6_failed yX6_failed ∈ LW := LWm2 (i := 51) (by decide +kernel) rfl
set_option maxRecDepth 100000 in theorem tw_370 : Cond.code yX6_failed cX6_failed 1 (some .boolean) ∈ LW := LWm2 (i := 52) rfl rfl
theorem tw_375 : Cond.methodLink RX6 35 yX6_skipBlanks ∈ LW := LWm2 (i := 57) (by decide +kernel) rfl
theorem tw_376 : Cond.instanceMethod yX6_skipBlanks ∈ LW := LWm2 (i := 58) (by decide +kernel) rfl
theorem tw_377 : Cond.selects RX6 yX6_skipBlanks yX6_skipBlanks ∈ LW := LWm2 (i := 59) (by decide +kernel) rfl
set_option maxRecDepth 100000 in theorem tw_378 : Cond.code yX6_skipBlanks cX6_skipBlanks 1 none ∈ LW := LWm2 (i := 60) rfl rfl
theorem tw_379 : Cond.methodLink RX6 31 yX6_byteAt ∈ LW := LWm2 (i := 61) (by decide +kernel) rfl
theorem tw_380 : Cond.instanceMethod yX6_byteAt ∈ LW := LWm2 (i := 62) (by decide +kernel) rfl
theorem tw_381 : Cond.selects RX6 yX6_byteAt yX6_byteAt ∈ LW := LWm2 (i := 63) (by decide +kernel) rfl
set_option maxRecDepth 100000 in theorem tw_382 : Cond.code yX6_byteAt cX6_byteAt 2 (some .int) ∈ LW := LWm2 (i := 64) rfl rfl
theorem tw_400 : Cond.instanceMethod yX6_takeWord ∈ LW := LWm2 (i := 82) (by decide +kernel) rfl
theorem tw_401 : Cond.selects RX6 yX6_takeWord yX6_takeWord ∈ LW := LWm2 (i := 83) (by decide +kernel) rfl
set_option maxRecDepth 100000 in theorem tw_402 : Cond.code yX6_takeWord cX6_takeWord 4 (some .boolean) ∈ LW := LWm2 (i := 84) rfl rfl
theorem tw_403 : Cond.methodLink RX6 38 yJ0_length_8abf5 ∈ LW := LWm2 (i := 85) (by decide +kernel) rfl
theorem tw_404 : Cond.instanceMethod yJ0_length_8abf5 ∈ LW := LWm2 (i := 86) (by decide +kernel) rfl
theorem tw_405 : Cond.selects RJ0 yJ0_length_8abf5 yJ0_length_8abf5 ∈ LW := LWm2 (i := 87) (by decide +kernel) rfl
set_option maxRecDepth 100000 in theorem tw_406 : Cond.code yJ0_length_8abf5 cJ0_length_8abf5 1 (some .int) ∈ LW := LWm2 (i := 88) rfl rfl
theorem tw_413 : Cond.methodLink RX6 44 yJ0_charAt_5068e ∈ LW := LWm2 (i := 95) (by decide +kernel) rfl
theorem tw_414 : Cond.instanceMethod yJ0_charAt_5068e ∈ LW := LWm2 (i := 96) (by decide +kernel) rfl
theorem tw_415 : Cond.selects RJ0 yJ0_charAt_5068e yJ0_charAt_5068e ∈ LW := LWm2 (i := 97) (by decide +kernel) rfl
set_option maxRecDepth 100000 in theorem tw_416 : Cond.code yJ0_charAt_5068e cJ0_charAt_5068e 2 (some .char) ∈ LW := LWm2 (i := 98) rfl rfl
theorem tw_451 : Cond.methodLink RX6 48 yX6_isLetterAt ∈ LW := LWm2 (i := 133) (by decide +kernel) rfl
theorem tw_452 : Cond.instanceMethod yX6_isLetterAt ∈ LW := LWm2 (i := 134) (by decide +kernel) rfl
theorem tw_453 : Cond.selects RX6 yX6_isLetterAt yX6_isLetterAt ∈ LW := LWm2 (i := 135) (by decide +kernel) rfl
set_option maxRecDepth 100000 in theorem tw_454 : Cond.code yX6_isLetterAt cX6_isLetterAt 3 (some .boolean) ∈ LW := LWm2 (i := 136) rfl rfl
theorem tw_456 : Cond.instanceMethod yX6_fail ∈ LW := LWm2 (i := 138) (by decide +kernel) rfl
theorem tw_457 : Cond.selects RX6 yX6_fail yX6_fail ∈ LW := LWm2 (i := 139) (by decide +kernel) rfl
set_option maxRecDepth 100000 in theorem tw_458 : Cond.code yX6_fail cX6_fail 3 none ∈ LW := LWm2 (i := 140) rfl rfl
theorem tw_471 : Cond.methodLink RX6 52 yX6_failed ∈ LW := LWm2 (i := 153) (by decide +kernel) rfl
theorem tw_472 : Cond.methodLink RX6 64 yX6_isFigureAt ∈ LW := LWm2 (i := 154) (by decide +kernel) rfl
theorem tw_473 : Cond.instanceMethod yX6_isFigureAt ∈ LW := LWm2 (i := 155) (by decide +kernel) rfl
theorem tw_474 : Cond.selects RX6 yX6_isFigureAt yX6_isFigureAt ∈ LW := LWm2 (i := 156) (by decide +kernel) rfl
set_option maxRecDepth 100000 in theorem tw_475 : Cond.code yX6_isFigureAt cX6_isFigureAt 3 (some .boolean) ∈ LW := LWm2 (i := 157) rfl rfl
theorem tw_476 : Cond.methodLink RX6 60 yX6_fail ∈ LW := LWm2 (i := 158) (by decide +kernel) rfl
theorem tw_486 : Cond.methodLink RX6 56 yX6_takeWord ∈ LW := LWm2 (i := 168) (by decide +kernel) rfl

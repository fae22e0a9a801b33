theorem tw_19 : Cond.selects RX1 yX1_leftBehind yX1_leftBehind ∈ LW := LWm (i := 19) (by decide +kernel) rfl
theorem tw_20 : Cond.selects RX1 yX1_placeFrom yX1_placeFrom ∈ LW := LWm (i := 20) (by decide +kernel) rfl
theorem tw_22 : Cond.selects RX1 yX1_bestBar yX1_bestBar ∈ LW := LWm (i := 22) (by decide +kernel) rfl
theorem tw_23 : Cond.selects RX1 yX1_paidAt yX1_paidAt ∈ LW := LWm (i := 23) (by decide +kernel) rfl
theorem tw_24 : Cond.selects RX1 yX1_changeInTurn yX1_changeInTurn ∈ LW := LWm (i := 24) (by decide +kernel) rfl
theorem tw_25 : Cond.selects RX1 yX1_giveDoor yX1_giveDoor ∈ LW := LWm (i := 25) (by decide +kernel) rfl
theorem tw_84 : Cond.initialized RX1 ∈ LW := LWm1 (i := 6) (by decide +kernel) rfl
theorem tw_174 : Cond.fieldLink RX1 56 "LastPlace$Scene" "walks" "[I" ∈ LW := LWm1 (i := 96) (by decide +kernel) rfl
theorem tw_176 : Cond.fieldLink RX1 44 "LastPlace$Scene" "bars" "[I" ∈ LW := LWm1 (i := 98) (by decide +kernel) rfl
theorem tw_179 : Cond.fieldLink RX1 53 "LastPlace$Scene" "carCount" "I" ∈ LW := LWm1 (i := 101) (by decide +kernel) rfl
theorem tw_235 : Cond.fieldLink RX1 34 "LastPlace$Parking" "scene" "LLastPlace$Scene;" ∈ LW := LWm1 (i := 157) (by decide +kernel) rfl
theorem tw_236 : Cond.fieldLink RX1 9 "LastPlace$Parking" "bars" "[I" ∈ LW := LWm1 (i := 158) (by decide +kernel) rfl
theorem tw_238 : Cond.fieldLink RX1 15 "LastPlace$Parking" "costs" "[I" ∈ LW := LWm1 (i := 160) (by decide +kernel) rfl
theorem tw_239 : Cond.fieldLink RX1 18 "LastPlace$Parking" "given" "[I" ∈ LW := LWm1 (i := 161) (by decide +kernel) rfl
theorem tw_240 : Cond.fieldLink RX1 21 "LastPlace$Parking" "n" "I" ∈ LW := LWm1 (i := 162) (by decide +kernel) rfl
theorem tw_241 : Cond.fieldLink RX1 25 "LastPlace$Parking" "free" "I" ∈ LW := LWm1 (i := 163) (by decide +kernel) rfl
theorem tw_242 : Cond.fieldLink RX1 28 "LastPlace$Parking" "dearFrom" "I" ∈ LW := LWm1 (i := 164) (by decide +kernel) rfl
theorem tw_243 : Cond.fieldLink RX1 31 "LastPlace$Parking" "dearer" "I" ∈ LW := LWm1 (i := 165) (by decide +kernel) rfl
theorem tw_825 : Cond.methodLink RX1 38 yX5_doors ∈ LW := LWm4 (i := 27) (by decide +kernel) rfl
theorem tw_826 : Cond.methodLink RX1 47 arraycopyName ∈ LW := LWm4 (i := 28) (by decide +kernel) rfl
theorem tw_827 : Cond.methodLink RX1 59 yX5_takingBy ∈ LW := LWm4 (i := 29) (by decide +kernel) rfl
theorem tw_828 : Cond.methodLink RX1 63 yX5_passing ∈ LW := LWm4 (i := 30) (by decide +kernel) rfl
theorem tw_829 : Cond.methodLink RX1 66 yX5_garageOf ∈ LW := LWm4 (i := 31) (by decide +kernel) rfl
theorem tw_834 : Cond.methodLink RX1 77 yX1_leftBehind ∈ LW := LWm4 (i := 36) (by decide +kernel) rfl
theorem tw_836 : Cond.instanceMethod yX1_leftBehind ∈ LW := LWm4 (i := 38) (by decide +kernel) rfl
set_option maxRecDepth 100000 in theorem tw_837 : Cond.code yX1_leftBehind cX1_leftBehind 3 (some .int) ∈ LW := LWm4 (i := 39) rfl rfl
theorem tw_838 : Cond.methodLink RX1 74 yX1_placeFrom ∈ LW := LWm4 (i := 40) (by decide +kernel) rfl
theorem tw_840 : Cond.instanceMethod yX1_placeFrom ∈ LW := LWm4 (i := 42) (by decide +kernel) rfl
set_option maxRecDepth 100000 in theorem tw_841 : Cond.code yX1_placeFrom cX1_placeFrom 4 (some .int) ∈ LW := LWm4 (i := 43) rfl rfl
theorem tw_843 : Cond.instanceMethod yX1_costAt ∈ LW := LWm4 (i := 45) (by decide +kernel) rfl
theorem tw_844 : Cond.selects RX1 yX1_costAt yX1_costAt ∈ LW := LWm4 (i := 46) (by decide +kernel) rfl
set_option maxRecDepth 100000 in theorem tw_845 : Cond.code yX1_costAt cX1_costAt 3 (some .int) ∈ LW := LWm4 (i := 47) rfl rfl
theorem tw_855 : Cond.instanceMethod yX1_isAtRest ∈ LW := LWm4 (i := 57) (by decide +kernel) rfl
theorem tw_856 : Cond.selects RX1 yX1_isAtRest yX1_isAtRest ∈ LW := LWm4 (i := 58) (by decide +kernel) rfl
set_option maxRecDepth 100000 in theorem tw_857 : Cond.code yX1_isAtRest cX1_isAtRest 4 (some .boolean) ∈ LW := LWm4 (i := 59) rfl rfl
theorem tw_858 : Cond.methodLink RX1 83 yX1_bestBar ∈ LW := LWm4 (i := 60) (by decide +kernel) rfl
theorem tw_860 : Cond.instanceMethod yX1_bestBar ∈ LW := LWm4 (i := 62) (by decide +kernel) rfl
set_option maxRecDepth 100000 in theorem tw_861 : Cond.code yX1_bestBar cX1_bestBar 8 (some .int) ∈ LW := LWm4 (i := 63) rfl rfl
theorem tw_862 : Cond.methodLink RX1 80 yX1_paidAt ∈ LW := LWm4 (i := 64) (by decide +kernel) rfl
theorem tw_864 : Cond.instanceMethod yX1_paidAt ∈ LW := LWm4 (i := 66) (by decide +kernel) rfl
set_option maxRecDepth 100000 in theorem tw_865 : Cond.code yX1_paidAt cX1_paidAt 4 (some .int) ∈ LW := LWm4 (i := 67) rfl rfl
theorem tw_866 : Cond.methodLink RX1 70 yX1_costAt ∈ LW := LWm4 (i := 68) (by decide +kernel) rfl
theorem tw_872 : Cond.instanceMethod yX1_goByTurns ∈ LW := LWm4 (i := 74) (by decide +kernel) rfl
theorem tw_873 : Cond.selects RX1 yX1_goByTurns yX1_goByTurns ∈ LW := LWm4 (i := 75) (by decide +kernel) rfl
set_option maxRecDepth 100000 in theorem tw_874 : Cond.code yX1_goByTurns cX1_goByTurns 2 (some .int) ∈ LW := LWm4 (i := 76) rfl rfl
theorem tw_875 : Cond.methodLink RX1 86 yX1_changeInTurn ∈ LW := LWm4 (i := 77) (by decide +kernel) rfl
theorem tw_877 : Cond.instanceMethod yX1_changeInTurn ∈ LW := LWm4 (i := 79) (by decide +kernel) rfl
set_option maxRecDepth 100000 in theorem tw_878 : Cond.code yX1_changeInTurn cX1_changeInTurn 5 (some .boolean) ∈ LW := LWm4 (i := 80) rfl rfl
theorem tw_892 : Cond.methodLink RX1 90 yX1_isAtRest ∈ LW := LWm4 (i := 94) (by decide +kernel) rfl
theorem tw_898 : Cond.instanceMethod yX1_costOfAll ∈ LW := LWm4 (i := 100) (by decide +kernel) rfl
theorem tw_899 : Cond.selects RX1 yX1_costOfAll yX1_costOfAll ∈ LW := LWm4 (i := 101) (by decide +kernel) rfl
set_option maxRecDepth 100000 in theorem tw_900 : Cond.code yX1_costOfAll cX1_costOfAll 4 (some .int) ∈ LW := LWm4 (i := 102) rfl rfl
theorem tw_905 : Cond.methodLink RX1 93 yX1_giveDoor ∈ LW := LWm4 (i := 107) (by decide +kernel) rfl
theorem tw_907 : Cond.instanceMethod yX1_giveDoor ∈ LW := LWm4 (i := 109) (by decide +kernel) rfl
set_option maxRecDepth 100000 in theorem tw_908 : Cond.code yX1_giveDoor cX1_giveDoor 6 none ∈ LW := LWm4 (i := 110) rfl rfl
theorem tw_909 : Cond.methodLink RX1 97 yJ9_min_7cf53 ∈ LW := LWm4 (i := 111) (by decide +kernel) rfl
theorem tw_918 : Cond.methodLink RX1 102 yX1_goByTurns ∈ LW := LWm4 (i := 120) (by decide +kernel) rfl
theorem tw_919 : Cond.methodLink RX1 105 yX1_costOfAll ∈ LW := LWm4 (i := 121) (by decide +kernel) rfl

theorem tw_19 : Cond.selects RX1 yX1_leftBehind yX1_leftBehind ∈ LW := LWm (i := 19) (by decide +kernel) rfl
theorem tw_20 : Cond.selects RX1 yX1_placeFrom yX1_placeFrom ∈ LW := LWm (i := 20) (by decide +kernel) rfl
theorem tw_22 : Cond.selects RX1 yX1_bestBar yX1_bestBar ∈ LW := LWm (i := 22) (by decide +kernel) rfl
theorem tw_23 : Cond.selects RX1 yX1_paidAt yX1_paidAt ∈ LW := LWm (i := 23) (by decide +kernel) rfl
theorem tw_24 : Cond.selects RX1 yX1_changeInTurn yX1_changeInTurn ∈ LW := LWm (i := 24) (by decide +kernel) rfl
theorem tw_25 : Cond.selects RX1 yX1_giveDoor yX1_giveDoor ∈ LW := LWm (i := 25) (by decide +kernel) rfl
theorem tw_84 : Cond.initialized RX1 ∈ LW := LWm (i := 84) (by decide +kernel) rfl
theorem tw_174 : Cond.fieldLink RX1 56 "LastPlace$Scene" "walks" "[I" ∈ LW := LWm (i := 174) (by decide +kernel) rfl
theorem tw_176 : Cond.fieldLink RX1 44 "LastPlace$Scene" "bars" "[I" ∈ LW := LWm (i := 176) (by decide +kernel) rfl
theorem tw_179 : Cond.fieldLink RX1 53 "LastPlace$Scene" "carCount" "I" ∈ LW := LWm (i := 179) (by decide +kernel) rfl
theorem tw_235 : Cond.fieldLink RX1 34 "LastPlace$Parking" "scene" "LLastPlace$Scene;" ∈ LW := LWm (i := 235) (by decide +kernel) rfl
theorem tw_236 : Cond.fieldLink RX1 9 "LastPlace$Parking" "bars" "[I" ∈ LW := LWm (i := 236) (by decide +kernel) rfl
theorem tw_238 : Cond.fieldLink RX1 15 "LastPlace$Parking" "costs" "[I" ∈ LW := LWm (i := 238) (by decide +kernel) rfl
theorem tw_239 : Cond.fieldLink RX1 18 "LastPlace$Parking" "given" "[I" ∈ LW := LWm (i := 239) (by decide +kernel) rfl
theorem tw_240 : Cond.fieldLink RX1 21 "LastPlace$Parking" "n" "I" ∈ LW := LWm (i := 240) (by decide +kernel) rfl
theorem tw_241 : Cond.fieldLink RX1 25 "LastPlace$Parking" "free" "I" ∈ LW := LWm (i := 241) (by decide +kernel) rfl
theorem tw_242 : Cond.fieldLink RX1 28 "LastPlace$Parking" "dearFrom" "I" ∈ LW := LWm (i := 242) (by decide +kernel) rfl
theorem tw_243 : Cond.fieldLink RX1 31 "LastPlace$Parking" "dearer" "I" ∈ LW := LWm (i := 243) (by decide +kernel) rfl
theorem tw_825 : Cond.methodLink RX1 38 yX5_doors ∈ LW := LWm (i := 825) (by decide +kernel) rfl
theorem tw_826 : Cond.methodLink RX1 47 arraycopyName ∈ LW := LWm (i := 826) (by decide +kernel) rfl
theorem tw_827 : Cond.methodLink RX1 59 yX5_takingBy ∈ LW := LWm (i := 827) (by decide +kernel) rfl
theorem tw_828 : Cond.methodLink RX1 63 yX5_passing ∈ LW := LWm (i := 828) (by decide +kernel) rfl
theorem tw_829 : Cond.methodLink RX1 66 yX5_garageOf ∈ LW := LWm (i := 829) (by decide +kernel) rfl
theorem tw_834 : Cond.methodLink RX1 77 yX1_leftBehind ∈ LW := LWm (i := 834) (by decide +kernel) rfl
theorem tw_836 : Cond.instanceMethod yX1_leftBehind ∈ LW := LWm (i := 836) (by decide +kernel) rfl
set_option maxRecDepth 100000 in theorem tw_837 : Cond.code yX1_leftBehind cX1_leftBehind 3 (some .int) ∈ LW := LWm (i := 837) rfl rfl
theorem tw_838 : Cond.methodLink RX1 74 yX1_placeFrom ∈ LW := LWm (i := 838) (by decide +kernel) rfl
theorem tw_840 : Cond.instanceMethod yX1_placeFrom ∈ LW := LWm (i := 840) (by decide +kernel) rfl
set_option maxRecDepth 100000 in theorem tw_841 : Cond.code yX1_placeFrom cX1_placeFrom 4 (some .int) ∈ LW := LWm (i := 841) rfl rfl
theorem tw_843 : Cond.instanceMethod yX1_costAt ∈ LW := LWm (i := 843) (by decide +kernel) rfl
theorem tw_844 : Cond.selects RX1 yX1_costAt yX1_costAt ∈ LW := LWm (i := 844) (by decide +kernel) rfl
set_option maxRecDepth 100000 in theorem tw_845 : Cond.code yX1_costAt cX1_costAt 3 (some .int) ∈ LW := LWm (i := 845) rfl rfl
theorem tw_855 : Cond.instanceMethod yX1_isAtRest ∈ LW := LWm (i := 855) (by decide +kernel) rfl
theorem tw_856 : Cond.selects RX1 yX1_isAtRest yX1_isAtRest ∈ LW := LWm (i := 856) (by decide +kernel) rfl
set_option maxRecDepth 100000 in theorem tw_857 : Cond.code yX1_isAtRest cX1_isAtRest 4 (some .boolean) ∈ LW := LWm (i := 857) rfl rfl
theorem tw_858 : Cond.methodLink RX1 83 yX1_bestBar ∈ LW := LWm (i := 858) (by decide +kernel) rfl
theorem tw_860 : Cond.instanceMethod yX1_bestBar ∈ LW := LWm (i := 860) (by decide +kernel) rfl
set_option maxRecDepth 100000 in theorem tw_861 : Cond.code yX1_bestBar cX1_bestBar 8 (some .int) ∈ LW := LWm (i := 861) rfl rfl
theorem tw_862 : Cond.methodLink RX1 80 yX1_paidAt ∈ LW := LWm (i := 862) (by decide +kernel) rfl
theorem tw_864 : Cond.instanceMethod yX1_paidAt ∈ LW := LWm (i := 864) (by decide +kernel) rfl
set_option maxRecDepth 100000 in theorem tw_865 : Cond.code yX1_paidAt cX1_paidAt 4 (some .int) ∈ LW := LWm (i := 865) rfl rfl
theorem tw_866 : Cond.methodLink RX1 70 yX1_costAt ∈ LW := LWm (i := 866) (by decide +kernel) rfl
theorem tw_872 : Cond.instanceMethod yX1_goByTurns ∈ LW := LWm (i := 872) (by decide +kernel) rfl
theorem tw_873 : Cond.selects RX1 yX1_goByTurns yX1_goByTurns ∈ LW := LWm (i := 873) (by decide +kernel) rfl
set_option maxRecDepth 100000 in theorem tw_874 : Cond.code yX1_goByTurns cX1_goByTurns 2 (some .int) ∈ LW := LWm (i := 874) rfl rfl
theorem tw_875 : Cond.methodLink RX1 86 yX1_changeInTurn ∈ LW := LWm (i := 875) (by decide +kernel) rfl
theorem tw_877 : Cond.instanceMethod yX1_changeInTurn ∈ LW := LWm (i := 877) (by decide +kernel) rfl
set_option maxRecDepth 100000 in theorem tw_878 : Cond.code yX1_changeInTurn cX1_changeInTurn 5 (some .boolean) ∈ LW := LWm (i := 878) rfl rfl
theorem tw_892 : Cond.methodLink RX1 90 yX1_isAtRest ∈ LW := LWm (i := 892) (by decide +kernel) rfl
theorem tw_898 : Cond.instanceMethod yX1_costOfAll ∈ LW := LWm (i := 898) (by decide +kernel) rfl
theorem tw_899 : Cond.selects RX1 yX1_costOfAll yX1_costOfAll ∈ LW := LWm (i := 899) (by decide +kernel) rfl
set_option maxRecDepth 100000 in theorem tw_900 : Cond.code yX1_costOfAll cX1_costOfAll 4 (some .int) ∈ LW := LWm (i := 900) rfl rfl
theorem tw_905 : Cond.methodLink RX1 93 yX1_giveDoor ∈ LW := LWm (i := 905) (by decide +kernel) rfl
theorem tw_907 : Cond.instanceMethod yX1_giveDoor ∈ LW := LWm (i := 907) (by decide +kernel) rfl
set_option maxRecDepth 100000 in theorem tw_908 : Cond.code yX1_giveDoor cX1_giveDoor 6 none ∈ LW := LWm (i := 908) rfl rfl
theorem tw_909 : Cond.methodLink RX1 97 yJ9_min_7cf53 ∈ LW := LWm (i := 909) (by decide +kernel) rfl
theorem tw_918 : Cond.methodLink RX1 102 yX1_goByTurns ∈ LW := LWm (i := 918) (by decide +kernel) rfl
theorem tw_919 : Cond.methodLink RX1 105 yX1_costOfAll ∈ LW := LWm (i := 919) (by decide +kernel) rfl

theorem tw_16 : Cond.selects RX2 yX2_meanOfRound yX2_meanOfRound ∈ LW := LWm (i := 16) (by decide +kernel) rfl
theorem tw_83 : Cond.initialized RX2 ∈ LW := LWm1 (i := 5) (by decide +kernel) rfl
theorem tw_182 : Cond.fieldLink RX2 84 "LastPlace$Scene" "rowSize" "I" ∈ LW := LWm1 (i := 104) (by decide +kernel) rfl
theorem tw_210 : Cond.fieldLink RX2 9 "LastPlace$Reckoner" "afterFree" "[I" ∈ LW := LWm1 (i := 132) (by decide +kernel) rfl
theorem tw_211 : Cond.fieldLink RX2 15 "LastPlace$Reckoner" "afterTaken" "[I" ∈ LW := LWm1 (i := 133) (by decide +kernel) rfl
theorem tw_212 : Cond.fieldLink RX2 18 "LastPlace$Reckoner" "least" "[I" ∈ LW := LWm1 (i := 134) (by decide +kernel) rfl
theorem tw_213 : Cond.fieldLink RX2 21 "LastPlace$Reckoner" "waitTicks" "I" ∈ LW := LWm1 (i := 135) (by decide +kernel) rfl
theorem tw_215 : Cond.fieldLink RX2 25 "LastPlace$Reckoner" "waitCost" "I" ∈ LW := LWm1 (i := 137) (by decide +kernel) rfl
theorem tw_705 : Cond.methodLink RX2 28 yX3_roundsIn ∈ LW := LWm3 (i := 147) (by decide +kernel) rfl
theorem tw_706 : Cond.instanceMethod yX3_roundsIn ∈ LW := LWm3 (i := 148) (by decide +kernel) rfl
theorem tw_707 : Cond.selects RX3 yX3_roundsIn yX3_roundsIn ∈ LW := LWm3 (i := 149) (by decide +kernel) rfl
set_option maxRecDepth 100000 in theorem tw_708 : Cond.code yX3_roundsIn cX3_roundsIn 2 (some .int) ∈ LW := LWm3 (i := 150) rfl rfl
theorem tw_710 : Cond.methodLink RX2 34 yX2_garageShare ∈ LW := LWm3 (i := 152) (by decide +kernel) rfl
theorem tw_711 : Cond.static yX2_garageShare ∈ LW := LWm3 (i := 153) (by decide +kernel) rfl
set_option maxRecDepth 100000 in theorem tw_712 : Cond.code yX2_garageShare cX2_garageShare 3 (some .int) ∈ LW := LWm3 (i := 154) rfl rfl
theorem tw_713 : Cond.methodLink RX2 48 yX5_garageOf ∈ LW := LWm3 (i := 155) (by decide +kernel) rfl
theorem tw_714 : Cond.methodLink RX2 52 yX5_isLateIn ∈ LW := LWm3 (i := 156) (by decide +kernel) rfl
theorem tw_715 : Cond.instanceMethod yX5_isLateIn ∈ LW := LWm3 (i := 157) (by decide +kernel) rfl
theorem tw_716 : Cond.selects RX5 yX5_isLateIn yX5_isLateIn ∈ LW := LWm3 (i := 158) (by decide +kernel) rfl
set_option maxRecDepth 100000 in theorem tw_717 : Cond.code yX5_isLateIn cX5_isLateIn 2 (some .boolean) ∈ LW := LWm3 (i := 159) rfl rfl
theorem tw_718 : Cond.constant RX2 56 (1000000) ∈ LW := LWm3 (i := 160) (by decide +kernel) rfl
theorem tw_719 : Cond.methodLink RX2 38 yX2_meanOfRound ∈ LW := LWm3 (i := 161) (by decide +kernel) rfl
theorem tw_721 : Cond.instanceMethod yX2_meanOfRound ∈ LW := LWm3 (i := 163) (by decide +kernel) rfl
set_option maxRecDepth 100000 in theorem tw_722 : Cond.code yX2_meanOfRound cX2_meanOfRound 13 (some .int) ∈ LW := LWm3 (i := 164) rfl rfl
theorem tw_723 : Cond.methodLink RX2 61 yX5_doors ∈ LW := LWm3 (i := 165) (by decide +kernel) rfl
theorem tw_724 : Cond.methodLink RX2 64 yX5_passing ∈ LW := LWm3 (i := 166) (by decide +kernel) rfl
theorem tw_725 : Cond.methodLink RX2 67 yX2_doorShare ∈ LW := LWm3 (i := 167) (by decide +kernel) rfl
theorem tw_726 : Cond.static yX2_doorShare ∈ LW := LWm3 (i := 168) (by decide +kernel) rfl
set_option maxRecDepth 100000 in theorem tw_727 : Cond.code yX2_doorShare cX2_doorShare 4 (some .int) ∈ LW := LWm3 (i := 169) rfl rfl
theorem tw_728 : Cond.methodLink RX2 57 yX5_takingOf ∈ LW := LWm3 (i := 170) (by decide +kernel) rfl
theorem tw_729 : Cond.methodLink RX2 71 yX3_barAfter ∈ LW := LWm3 (i := 171) (by decide +kernel) rfl
theorem tw_730 : Cond.instanceMethod yX3_barAfter ∈ LW := LWm3 (i := 172) (by decide +kernel) rfl
theorem tw_731 : Cond.selects RX3 yX3_barAfter yX3_barAfter ∈ LW := LWm3 (i := 173) (by decide +kernel) rfl
set_option maxRecDepth 100000 in theorem tw_732 : Cond.code yX3_barAfter cX3_barAfter 3 (some .int) ∈ LW := LWm3 (i := 174) rfl rfl
theorem tw_733 : Cond.methodLink RX2 74 yX5_chanceOf ∈ LW := LWm3 (i := 175) (by decide +kernel) rfl
theorem tw_735 : Cond.methodLink RX2 42 yX5_roundDrive ∈ LW := LWm3 (i := 177) (by decide +kernel) rfl
theorem tw_769 : Cond.constantLong RX2 82 (500000) ∈ LW := LWm3 (i := 211) (by decide +kernel) rfl
theorem tw_770 : Cond.methodLink RX2 89 yJ9_min_7cf53 ∈ LW := LWm3 (i := 212) (by decide +kernel) rfl
theorem tw_771 : Cond.methodLink RX2 94 yX4_sawFree ∈ LW := LWm3 (i := 213) (by decide +kernel) rfl
theorem tw_772 : Cond.methodLink RX2 97 yX2_likelihood ∈ LW := LWm3 (i := 214) (by decide +kernel) rfl
theorem tw_773 : Cond.static yX2_likelihood ∈ LW := LWm3 (i := 215) (by decide +kernel) rfl
set_option maxRecDepth 100000 in theorem tw_774 : Cond.code yX2_likelihood cX2_likelihood 5 (some .int) ∈ LW := LWm3 (i := 216) rfl rfl
theorem tw_775 : Cond.constantLong RX2 101 (100) ∈ LW := LWm3 (i := 217) (by decide +kernel) rfl
theorem tw_776 : Cond.methodLink RX2 103 yJ9_max_f86c9 ∈ LW := LWm3 (i := 218) (by decide +kernel) rfl
theorem tw_777 : Cond.static yJ9_max_f86c9 ∈ LW := LWm3 (i := 219) (by decide +kernel) rfl
set_option maxRecDepth 100000 in theorem tw_778 : Cond.code yJ9_max_f86c9 cJ9_max_f86c9 4 (some .long) ∈ LW := LWm3 (i := 220) rfl rfl
theorem tw_779 : Cond.constantLong RX2 107 (1000000) ∈ LW := LWm3 (i := 221) (by decide +kernel) rfl
theorem tw_932 : Cond.methodLink RX2 109 yX4_draw ∈ LW := LWm4 (i := 134) (by decide +kernel) rfl
theorem tw_933 : Cond.instanceMethod yX4_draw ∈ LW := LWm4 (i := 135) (by decide +kernel) rfl
theorem tw_934 : Cond.selects RX4 yX4_draw yX4_draw ∈ LW := LWm4 (i := 136) (by decide +kernel) rfl
set_option maxRecDepth 100000 in theorem tw_935 : Cond.code yX4_draw cX4_draw 1 (some .int) ∈ LW := LWm4 (i := 137) rfl rfl

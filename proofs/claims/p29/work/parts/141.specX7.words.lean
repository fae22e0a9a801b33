theorem tw_8 : Cond.selects RX7 yX7_isStreet yX7_isStreet ∈ LW := LWm (i := 8) (by decide +kernel) rfl
theorem tw_9 : Cond.selects RX7 yX7_isDoor yX7_isDoor ∈ LW := LWm (i := 9) (by decide +kernel) rfl
theorem tw_10 : Cond.selects RX7 yX7_isRound yX7_isRound ∈ LW := LWm (i := 10) (by decide +kernel) rfl
theorem tw_11 : Cond.selects RX7 yX7_refuseSight yX7_refuseSight ∈ LW := LWm (i := 11) (by decide +kernel) rfl
theorem tw_18 : Cond.selects RX7 yX7_isSet yX7_isSet ∈ LW := LWm (i := 18) (by decide +kernel) rfl
theorem tw_94 : Cond.initialized RJ6 ∈ LW := LWm1 (i := 16) (by decide +kernel) rfl
theorem tw_111 : Cond.fieldLink RX7 81 "LastPlace$Text" "size" "I" ∈ LW := LWm1 (i := 33) (by decide +kernel) rfl
theorem tw_120 : Cond.fieldLink RX7 292 "LastPlace$Text" "faultNumber" "I" ∈ LW := LWm1 (i := 42) (by decide +kernel) rfl
theorem tw_122 : Cond.fieldLink RX7 289 "LastPlace$Text" "faultByte" "I" ∈ LW := LWm1 (i := 44) (by decide +kernel) rfl
theorem tw_149 : Cond.fieldLink RX7 116 "LastPlace$Street" "values" "[I" ∈ LW := LWm1 (i := 71) (by decide +kernel) rfl
theorem tw_151 : Cond.fieldLink RX7 124 "LastPlace$Street" "frees" "[I" ∈ LW := LWm1 (i := 73) (by decide +kernel) rfl
theorem tw_153 : Cond.fieldLink RX7 127 "LastPlace$Street" "prices" "[I" ∈ LW := LWm1 (i := 75) (by decide +kernel) rfl
theorem tw_180 : Cond.fieldLink RX7 214 "LastPlace$Scene" "carCount" "I" ∈ LW := LWm1 (i := 102) (by decide +kernel) rfl
theorem tw_184 : Cond.fieldLink RX7 176 "LastPlace$Scene" "rowSize" "I" ∈ LW := LWm1 (i := 106) (by decide +kernel) rfl
theorem tw_187 : Cond.fieldLink RX7 183 "LastPlace$Scene" "rowFree" "I" ∈ LW := LWm1 (i := 109) (by decide +kernel) rfl
theorem tw_269 : Cond.fieldLink RX7 155 "LastPlace$BestWay" "starts" "[I" ∈ LW := LWm1 (i := 191) (by decide +kernel) rfl
theorem tw_271 : Cond.fieldLink RX7 158 "LastPlace$BestWay" "ends" "[I" ∈ LW := LWm1 (i := 193) (by decide +kernel) rfl
theorem tw_305 : Cond.fieldLink RX7 12 "LastPlace" "text" "LLastPlace$Text;" ∈ LW := LWm1 (i := 227) (by decide +kernel) rfl
theorem tw_306 : Cond.fieldLink RX7 18 "LastPlace" "streets" "[LLastPlace$Street;" ∈ LW := LWm1 (i := 228) (by decide +kernel) rfl
theorem tw_307 : Cond.fieldLink RX7 24 "LastPlace" "ways" "[LLastPlace$BestWay;" ∈ LW := LWm1 (i := 229) (by decide +kernel) rfl
theorem tw_310 : Cond.fieldLink RX7 39 "LastPlace" "ruleCount" "I" ∈ LW := LWm1 (i := 232) (by decide +kernel) rfl
theorem tw_311 : Cond.fieldLink RX7 43 "LastPlace" "latestFault" "I" ∈ LW := LWm1 (i := 233) (by decide +kernel) rfl
theorem tw_312 : Cond.fieldLink RX7 49 "LastPlace" "now" "LLastPlace$Scene;" ∈ LW := LWm1 (i := 234) (by decide +kernel) rfl
theorem tw_315 : Cond.fieldLink RX7 64 "LastPlace" "reckoner" "LLastPlace$Reckoner;" ∈ LW := LWm1 (i := 237) (by decide +kernel) rfl
theorem tw_500 : Cond.methodLink RX7 286 yX6_failed ∈ LW := LWm2 (i := 182) (by decide +kernel) rfl
theorem tw_580 : Cond.methodLink RX7 105 yX5_doors ∈ LW := LWm3 (i := 22) (by decide +kernel) rfl
theorem tw_589 : Cond.methodLink RX7 108 yX7_isStreet ∈ LW := LWm3 (i := 31) (by decide +kernel) rfl
theorem tw_591 : Cond.instanceMethod yX7_isStreet ∈ LW := LWm3 (i := 33) (by decide +kernel) rfl
set_option maxRecDepth 100000 in theorem tw_592 : Cond.code yX7_isStreet cX7_isStreet 2 (some .boolean) ∈ LW := LWm3 (i := 34) rfl rfl
theorem tw_593 : Cond.methodLink RX7 112 yX7_isIn ∈ LW := LWm3 (i := 35) (by decide +kernel) rfl
theorem tw_594 : Cond.static yX7_isIn ∈ LW := LWm3 (i := 36) (by decide +kernel) rfl
set_option maxRecDepth 100000 in theorem tw_595 : Cond.code yX7_isIn cX7_isIn 3 (some .boolean) ∈ LW := LWm3 (i := 37) rfl rfl
theorem tw_600 : Cond.methodLink RX7 120 yX7_isDoor ∈ LW := LWm3 (i := 42) (by decide +kernel) rfl
theorem tw_602 : Cond.instanceMethod yX7_isDoor ∈ LW := LWm3 (i := 44) (by decide +kernel) rfl
set_option maxRecDepth 100000 in theorem tw_603 : Cond.code yX7_isDoor cX7_isDoor 3 (some .boolean) ∈ LW := LWm3 (i := 45) rfl rfl
theorem tw_608 : Cond.methodLink RX7 130 yX5_chanceOf ∈ LW := LWm3 (i := 50) (by decide +kernel) rfl
theorem tw_613 : Cond.methodLink RX7 134 yX7_isRound ∈ LW := LWm3 (i := 55) (by decide +kernel) rfl
theorem tw_615 : Cond.instanceMethod yX7_isRound ∈ LW := LWm3 (i := 57) (by decide +kernel) rfl
set_option maxRecDepth 100000 in theorem tw_616 : Cond.code yX7_isRound cX7_isRound 3 (some .boolean) ∈ LW := LWm3 (i := 58) rfl rfl
theorem tw_617 : Cond.methodLink RX7 137 yX5_takingOf ∈ LW := LWm3 (i := 59) (by decide +kernel) rfl
theorem tw_622 : Cond.methodLink RX7 141 yX7_refuseSight ∈ LW := LWm3 (i := 64) (by decide +kernel) rfl
theorem tw_624 : Cond.instanceMethod yX7_refuseSight ∈ LW := LWm3 (i := 66) (by decide +kernel) rfl
set_option maxRecDepth 100000 in theorem tw_625 : Cond.code yX7_refuseSight cX7_refuseSight 6 (some .int) ∈ LW := LWm3 (i := 67) rfl rfl
theorem tw_626 : Cond.methodLink RX7 283 yX5_sightsAt ∈ LW := LWm3 (i := 68) (by decide +kernel) rfl
theorem tw_627 : Cond.methodLink RX7 145 yX0_worthOf ∈ LW := LWm3 (i := 69) (by decide +kernel) rfl
theorem tw_632 : Cond.methodLink RX7 149 yX0_onwardOf ∈ LW := LWm3 (i := 74) (by decide +kernel) rfl
theorem tw_637 : Cond.methodLink RX7 152 yX0_isTaken ∈ LW := LWm3 (i := 79) (by decide +kernel) rfl
theorem tw_649 : Cond.methodLink RX7 161 yX5_garageOf ∈ LW := LWm3 (i := 91) (by decide +kernel) rfl
theorem tw_654 : Cond.methodLink RX7 165 yX0_barOf ∈ LW := LWm3 (i := 96) (by decide +kernel) rfl
theorem tw_655 : Cond.instanceMethod yX0_barOf ∈ LW := LWm3 (i := 97) (by decide +kernel) rfl
theorem tw_656 : Cond.selects RX0 yX0_barOf yX0_barOf ∈ LW := LWm3 (i := 98) (by decide +kernel) rfl
set_option maxRecDepth 100000 in theorem tw_657 : Cond.code yX0_barOf cX0_barOf 4 (some .int) ∈ LW := LWm3 (i := 99) rfl rfl
theorem tw_752 : Cond.methodLink RX7 186 yX4_sawFree ∈ LW := LWm3 (i := 194) (by decide +kernel) rfl
theorem tw_756 : Cond.methodLink RX7 189 yX0_firstWrong ∈ LW := LWm3 (i := 198) (by decide +kernel) rfl
theorem tw_757 : Cond.instanceMethod yX0_firstWrong ∈ LW := LWm3 (i := 199) (by decide +kernel) rfl
theorem tw_758 : Cond.selects RX0 yX0_firstWrong yX0_firstWrong ∈ LW := LWm3 (i := 200) (by decide +kernel) rfl
set_option maxRecDepth 100000 in theorem tw_759 : Cond.code yX0_firstWrong cX0_firstWrong 9 (some .int) ∈ LW := LWm3 (i := 201) rfl rfl
theorem tw_765 : Cond.methodLink RX7 193 yX2_thoughtOf ∈ LW := LWm3 (i := 207) (by decide +kernel) rfl
theorem tw_766 : Cond.instanceMethod yX2_thoughtOf ∈ LW := LWm3 (i := 208) (by decide +kernel) rfl
theorem tw_767 : Cond.selects RX2 yX2_thoughtOf yX2_thoughtOf ∈ LW := LWm3 (i := 209) (by decide +kernel) rfl
set_option maxRecDepth 100000 in theorem tw_768 : Cond.code yX2_thoughtOf cX2_thoughtOf 14 (some .int) ∈ LW := LWm3 (i := 210) rfl rfl
theorem tw_817 : Cond.methodLink RX7 226 yX7_isSet ∈ LW := LWm4 (i := 19) (by decide +kernel) rfl
theorem tw_819 : Cond.instanceMethod yX7_isSet ∈ LW := LWm4 (i := 21) (by decide +kernel) rfl
set_option maxRecDepth 100000 in theorem tw_820 : Cond.code yX7_isSet cX7_isSet 3 (some .boolean) ∈ LW := LWm4 (i := 22) rfl rfl
theorem tw_945 : Cond.methodLink RX7 275 yJ6_bitCount_0f7a4 ∈ LW := LWm4 (i := 147) (by decide +kernel) rfl
theorem tw_946 : Cond.static yJ6_bitCount_0f7a4 ∈ LW := LWm4 (i := 148) (by decide +kernel) rfl
set_option maxRecDepth 100000 in theorem tw_947 : Cond.code yJ6_bitCount_0f7a4 cJ6_bitCount_0f7a4 1 (some .int) ∈ LW := LWm4 (i := 149) rfl rfl

theorem tw_8 : Cond.selects RX7 yX7_isStreet yX7_isStreet ∈ LW := LWm (i := 8) (by decide +kernel) rfl
theorem tw_9 : Cond.selects RX7 yX7_isDoor yX7_isDoor ∈ LW := LWm (i := 9) (by decide +kernel) rfl
theorem tw_10 : Cond.selects RX7 yX7_isRound yX7_isRound ∈ LW := LWm (i := 10) (by decide +kernel) rfl
theorem tw_11 : Cond.selects RX7 yX7_refuseSight yX7_refuseSight ∈ LW := LWm (i := 11) (by decide +kernel) rfl
theorem tw_18 : Cond.selects RX7 yX7_isSet yX7_isSet ∈ LW := LWm (i := 18) (by decide +kernel) rfl
theorem tw_94 : Cond.initialized RJ6 ∈ LW := LWm (i := 94) (by decide +kernel) rfl
theorem tw_111 : Cond.fieldLink RX7 81 "LastPlace$Text" "size" "I" ∈ LW := LWm (i := 111) (by decide +kernel) rfl
theorem tw_120 : Cond.fieldLink RX7 292 "LastPlace$Text" "faultNumber" "I" ∈ LW := LWm (i := 120) (by decide +kernel) rfl
theorem tw_122 : Cond.fieldLink RX7 289 "LastPlace$Text" "faultByte" "I" ∈ LW := LWm (i := 122) (by decide +kernel) rfl
theorem tw_149 : Cond.fieldLink RX7 116 "LastPlace$Street" "values" "[I" ∈ LW := LWm (i := 149) (by decide +kernel) rfl
theorem tw_151 : Cond.fieldLink RX7 124 "LastPlace$Street" "frees" "[I" ∈ LW := LWm (i := 151) (by decide +kernel) rfl
theorem tw_153 : Cond.fieldLink RX7 127 "LastPlace$Street" "prices" "[I" ∈ LW := LWm (i := 153) (by decide +kernel) rfl
theorem tw_180 : Cond.fieldLink RX7 214 "LastPlace$Scene" "carCount" "I" ∈ LW := LWm (i := 180) (by decide +kernel) rfl
theorem tw_184 : Cond.fieldLink RX7 176 "LastPlace$Scene" "rowSize" "I" ∈ LW := LWm (i := 184) (by decide +kernel) rfl
theorem tw_187 : Cond.fieldLink RX7 183 "LastPlace$Scene" "rowFree" "I" ∈ LW := LWm (i := 187) (by decide +kernel) rfl
theorem tw_269 : Cond.fieldLink RX7 155 "LastPlace$BestWay" "starts" "[I" ∈ LW := LWm (i := 269) (by decide +kernel) rfl
theorem tw_271 : Cond.fieldLink RX7 158 "LastPlace$BestWay" "ends" "[I" ∈ LW := LWm (i := 271) (by decide +kernel) rfl
theorem tw_305 : Cond.fieldLink RX7 12 "LastPlace" "text" "LLastPlace$Text;" ∈ LW := LWm (i := 305) (by decide +kernel) rfl
theorem tw_306 : Cond.fieldLink RX7 18 "LastPlace" "streets" "[LLastPlace$Street;" ∈ LW := LWm (i := 306) (by decide +kernel) rfl
theorem tw_307 : Cond.fieldLink RX7 24 "LastPlace" "ways" "[LLastPlace$BestWay;" ∈ LW := LWm (i := 307) (by decide +kernel) rfl
theorem tw_310 : Cond.fieldLink RX7 39 "LastPlace" "ruleCount" "I" ∈ LW := LWm (i := 310) (by decide +kernel) rfl
theorem tw_311 : Cond.fieldLink RX7 43 "LastPlace" "latestFault" "I" ∈ LW := LWm (i := 311) (by decide +kernel) rfl
theorem tw_312 : Cond.fieldLink RX7 49 "LastPlace" "now" "LLastPlace$Scene;" ∈ LW := LWm (i := 312) (by decide +kernel) rfl
theorem tw_315 : Cond.fieldLink RX7 64 "LastPlace" "reckoner" "LLastPlace$Reckoner;" ∈ LW := LWm (i := 315) (by decide +kernel) rfl
theorem tw_500 : Cond.methodLink RX7 286 yX6_failed ∈ LW := LWm (i := 500) (by decide +kernel) rfl
theorem tw_580 : Cond.methodLink RX7 105 yX5_doors ∈ LW := LWm (i := 580) (by decide +kernel) rfl
theorem tw_589 : Cond.methodLink RX7 108 yX7_isStreet ∈ LW := LWm (i := 589) (by decide +kernel) rfl
theorem tw_591 : Cond.instanceMethod yX7_isStreet ∈ LW := LWm (i := 591) (by decide +kernel) rfl
set_option maxRecDepth 100000 in theorem tw_592 : Cond.code yX7_isStreet cX7_isStreet 2 (some .boolean) ∈ LW := LWm (i := 592) rfl rfl
theorem tw_593 : Cond.methodLink RX7 112 yX7_isIn ∈ LW := LWm (i := 593) (by decide +kernel) rfl
theorem tw_594 : Cond.static yX7_isIn ∈ LW := LWm (i := 594) (by decide +kernel) rfl
set_option maxRecDepth 100000 in theorem tw_595 : Cond.code yX7_isIn cX7_isIn 3 (some .boolean) ∈ LW := LWm (i := 595) rfl rfl
theorem tw_600 : Cond.methodLink RX7 120 yX7_isDoor ∈ LW := LWm (i := 600) (by decide +kernel) rfl
theorem tw_602 : Cond.instanceMethod yX7_isDoor ∈ LW := LWm (i := 602) (by decide +kernel) rfl
set_option maxRecDepth 100000 in theorem tw_603 : Cond.code yX7_isDoor cX7_isDoor 3 (some .boolean) ∈ LW := LWm (i := 603) rfl rfl
theorem tw_608 : Cond.methodLink RX7 130 yX5_chanceOf ∈ LW := LWm (i := 608) (by decide +kernel) rfl
theorem tw_613 : Cond.methodLink RX7 134 yX7_isRound ∈ LW := LWm (i := 613) (by decide +kernel) rfl
theorem tw_615 : Cond.instanceMethod yX7_isRound ∈ LW := LWm (i := 615) (by decide +kernel) rfl
set_option maxRecDepth 100000 in theorem tw_616 : Cond.code yX7_isRound cX7_isRound 3 (some .boolean) ∈ LW := LWm (i := 616) rfl rfl
theorem tw_617 : Cond.methodLink RX7 137 yX5_takingOf ∈ LW := LWm (i := 617) (by decide +kernel) rfl
theorem tw_622 : Cond.methodLink RX7 141 yX7_refuseSight ∈ LW := LWm (i := 622) (by decide +kernel) rfl
theorem tw_624 : Cond.instanceMethod yX7_refuseSight ∈ LW := LWm (i := 624) (by decide +kernel) rfl
set_option maxRecDepth 100000 in theorem tw_625 : Cond.code yX7_refuseSight cX7_refuseSight 6 (some .int) ∈ LW := LWm (i := 625) rfl rfl
theorem tw_626 : Cond.methodLink RX7 283 yX5_sightsAt ∈ LW := LWm (i := 626) (by decide +kernel) rfl
theorem tw_627 : Cond.methodLink RX7 145 yX0_worthOf ∈ LW := LWm (i := 627) (by decide +kernel) rfl
theorem tw_632 : Cond.methodLink RX7 149 yX0_onwardOf ∈ LW := LWm (i := 632) (by decide +kernel) rfl
theorem tw_637 : Cond.methodLink RX7 152 yX0_isTaken ∈ LW := LWm (i := 637) (by decide +kernel) rfl
theorem tw_649 : Cond.methodLink RX7 161 yX5_garageOf ∈ LW := LWm (i := 649) (by decide +kernel) rfl
theorem tw_654 : Cond.methodLink RX7 165 yX0_barOf ∈ LW := LWm (i := 654) (by decide +kernel) rfl
theorem tw_655 : Cond.instanceMethod yX0_barOf ∈ LW := LWm (i := 655) (by decide +kernel) rfl
theorem tw_656 : Cond.selects RX0 yX0_barOf yX0_barOf ∈ LW := LWm (i := 656) (by decide +kernel) rfl
set_option maxRecDepth 100000 in theorem tw_657 : Cond.code yX0_barOf cX0_barOf 4 (some .int) ∈ LW := LWm (i := 657) rfl rfl
theorem tw_752 : Cond.methodLink RX7 186 yX4_sawFree ∈ LW := LWm (i := 752) (by decide +kernel) rfl
theorem tw_756 : Cond.methodLink RX7 189 yX0_firstWrong ∈ LW := LWm (i := 756) (by decide +kernel) rfl
theorem tw_757 : Cond.instanceMethod yX0_firstWrong ∈ LW := LWm (i := 757) (by decide +kernel) rfl
theorem tw_758 : Cond.selects RX0 yX0_firstWrong yX0_firstWrong ∈ LW := LWm (i := 758) (by decide +kernel) rfl
set_option maxRecDepth 100000 in theorem tw_759 : Cond.code yX0_firstWrong cX0_firstWrong 9 (some .int) ∈ LW := LWm (i := 759) rfl rfl
theorem tw_765 : Cond.methodLink RX7 193 yX2_thoughtOf ∈ LW := LWm (i := 765) (by decide +kernel) rfl
theorem tw_766 : Cond.instanceMethod yX2_thoughtOf ∈ LW := LWm (i := 766) (by decide +kernel) rfl
theorem tw_767 : Cond.selects RX2 yX2_thoughtOf yX2_thoughtOf ∈ LW := LWm (i := 767) (by decide +kernel) rfl
set_option maxRecDepth 100000 in theorem tw_768 : Cond.code yX2_thoughtOf cX2_thoughtOf 14 (some .int) ∈ LW := LWm (i := 768) rfl rfl
theorem tw_817 : Cond.methodLink RX7 226 yX7_isSet ∈ LW := LWm (i := 817) (by decide +kernel) rfl
theorem tw_819 : Cond.instanceMethod yX7_isSet ∈ LW := LWm (i := 819) (by decide +kernel) rfl
set_option maxRecDepth 100000 in theorem tw_820 : Cond.code yX7_isSet cX7_isSet 3 (some .boolean) ∈ LW := LWm (i := 820) rfl rfl
theorem tw_945 : Cond.methodLink RX7 275 yJ6_bitCount_0f7a4 ∈ LW := LWm (i := 945) (by decide +kernel) rfl
theorem tw_946 : Cond.static yJ6_bitCount_0f7a4 ∈ LW := LWm (i := 946) (by decide +kernel) rfl
set_option maxRecDepth 100000 in theorem tw_947 : Cond.code yJ6_bitCount_0f7a4 cJ6_bitCount_0f7a4 1 (some .int) ∈ LW := LWm (i := 947) rfl rfl

theorem tw_2 : Cond.selects RX7 yX7_closeText yX7_closeText ∈ LW := LWm (i := 2) (by decide +kernel) rfl
theorem tw_15 : Cond.selects RX7 yX7_isRule yX7_isRule ∈ LW := LWm (i := 15) (by decide +kernel) rfl
theorem tw_17 : Cond.selects RX7 yX7_isCar yX7_isCar ∈ LW := LWm (i := 17) (by decide +kernel) rfl
theorem tw_21 : Cond.selects RX7 yX7_refuseSet yX7_refuseSet ∈ LW := LWm (i := 21) (by decide +kernel) rfl
theorem tw_177 : Cond.fieldLink RX7 223 "LastPlace$Scene" "bars" "[I" ∈ LW := LWm1 (i := 99) (by decide +kernel) rfl
theorem tw_189 : Cond.fieldLink RX7 266 "LastPlace$Scene" "seedNow" "I" ∈ LW := LWm1 (i := 111) (by decide +kernel) rfl
theorem tw_214 : Cond.fieldLink RX7 201 "LastPlace$Reckoner" "waitTicks" "I" ∈ LW := LWm1 (i := 136) (by decide +kernel) rfl
theorem tw_216 : Cond.fieldLink RX7 204 "LastPlace$Reckoner" "waitCost" "I" ∈ LW := LWm1 (i := 138) (by decide +kernel) rfl
theorem tw_237 : Cond.fieldLink RX7 249 "LastPlace$Parking" "bars" "[I" ∈ LW := LWm1 (i := 159) (by decide +kernel) rfl
theorem tw_308 : Cond.fieldLink RX7 29 "LastPlace" "draft" "LLastPlace$Street;" ∈ LW := LWm1 (i := 230) (by decide +kernel) rfl
theorem tw_309 : Cond.fieldLink RX7 35 "LastPlace" "rules" "[LLastPlace$Rule;" ∈ LW := LWm1 (i := 231) (by decide +kernel) rfl
theorem tw_313 : Cond.fieldLink RX7 53 "LastPlace" "images" "[LLastPlace$Scene;" ∈ LW := LWm1 (i := 235) (by decide +kernel) rfl
theorem tw_314 : Cond.fieldLink RX7 57 "LastPlace" "kept" "[Z" ∈ LW := LWm1 (i := 236) (by decide +kernel) rfl
theorem tw_316 : Cond.fieldLink RX7 73 "LastPlace" "parking" "LLastPlace$Parking;" ∈ LW := LWm1 (i := 238) (by decide +kernel) rfl
theorem tw_346 : Cond.methodLink RX7 84 yX6_append ∈ LW := LWm2 (i := 28) (by decide +kernel) rfl
theorem tw_347 : Cond.instanceMethod yX6_append ∈ LW := LWm2 (i := 29) (by decide +kernel) rfl
theorem tw_348 : Cond.selects RX6 yX6_append yX6_append ∈ LW := LWm2 (i := 30) (by decide +kernel) rfl
set_option maxRecDepth 100000 in theorem tw_349 : Cond.code yX6_append cX6_append 2 none ∈ LW := LWm2 (i := 31) rfl rfl
theorem tw_354 : Cond.methodLink RX7 88 yX6_rewind ∈ LW := LWm2 (i := 36) (by decide +kernel) rfl
theorem tw_355 : Cond.instanceMethod yX6_rewind ∈ LW := LWm2 (i := 37) (by decide +kernel) rfl
theorem tw_356 : Cond.selects RX6 yX6_rewind yX6_rewind ∈ LW := LWm2 (i := 38) (by decide +kernel) rfl
set_option maxRecDepth 100000 in theorem tw_357 : Cond.code yX6_rewind cX6_rewind 1 none ∈ LW := LWm2 (i := 39) rfl rfl
theorem tw_358 : Cond.methodLink RX7 91 yX5_readFrom ∈ LW := LWm2 (i := 40) (by decide +kernel) rfl
theorem tw_359 : Cond.instanceMethod yX5_readFrom ∈ LW := LWm2 (i := 41) (by decide +kernel) rfl
theorem tw_360 : Cond.selects RX5 yX5_readFrom yX5_readFrom ∈ LW := LWm2 (i := 42) (by decide +kernel) rfl
set_option maxRecDepth 100000 in theorem tw_361 : Cond.code yX5_readFrom cX5_readFrom 6 none ∈ LW := LWm2 (i := 43) rfl rfl
theorem tw_496 : Cond.methodLink RX7 95 yX7_closeText ∈ LW := LWm2 (i := 178) (by decide +kernel) rfl
theorem tw_498 : Cond.instanceMethod yX7_closeText ∈ LW := LWm2 (i := 180) (by decide +kernel) rfl
set_option maxRecDepth 100000 in theorem tw_499 : Cond.code yX7_closeText cX7_closeText 1 (some .int) ∈ LW := LWm2 (i := 181) rfl rfl
theorem tw_501 : Cond.methodLink RX7 99 yX5_become ∈ LW := LWm2 (i := 183) (by decide +kernel) rfl
theorem tw_502 : Cond.instanceMethod yX5_become ∈ LW := LWm2 (i := 184) (by decide +kernel) rfl
theorem tw_503 : Cond.selects RX5 yX5_become yX5_become ∈ LW := LWm2 (i := 185) (by decide +kernel) rfl
set_option maxRecDepth 100000 in theorem tw_504 : Cond.code yX5_become cX5_become 3 none ∈ LW := LWm2 (i := 186) rfl rfl
theorem tw_512 : Cond.methodLink RX7 102 yX0_reckon ∈ LW := LWm2 (i := 194) (by decide +kernel) rfl
theorem tw_513 : Cond.instanceMethod yX0_reckon ∈ LW := LWm2 (i := 195) (by decide +kernel) rfl
theorem tw_514 : Cond.selects RX0 yX0_reckon yX0_reckon ∈ LW := LWm2 (i := 196) (by decide +kernel) rfl
set_option maxRecDepth 100000 in theorem tw_515 : Cond.code yX0_reckon cX0_reckon 3 none ∈ LW := LWm2 (i := 197) rfl rfl
theorem tw_675 : Cond.methodLink RX7 168 yX3_readFrom ∈ LW := LWm3 (i := 117) (by decide +kernel) rfl
theorem tw_676 : Cond.instanceMethod yX3_readFrom ∈ LW := LWm3 (i := 118) (by decide +kernel) rfl
theorem tw_677 : Cond.selects RX3 yX3_readFrom yX3_readFrom ∈ LW := LWm3 (i := 119) (by decide +kernel) rfl
set_option maxRecDepth 100000 in theorem tw_678 : Cond.code yX3_readFrom cX3_readFrom 3 none ∈ LW := LWm3 (i := 120) rfl rfl
theorem tw_697 : Cond.methodLink RX7 169 yX7_isRule ∈ LW := LWm3 (i := 139) (by decide +kernel) rfl
theorem tw_699 : Cond.instanceMethod yX7_isRule ∈ LW := LWm3 (i := 141) (by decide +kernel) rfl
set_option maxRecDepth 100000 in theorem tw_700 : Cond.code yX7_isRule cX7_isRule 2 (some .boolean) ∈ LW := LWm3 (i := 142) rfl rfl
theorem tw_701 : Cond.methodLink RX7 172 yX2_meanOf ∈ LW := LWm3 (i := 143) (by decide +kernel) rfl
theorem tw_702 : Cond.instanceMethod yX2_meanOf ∈ LW := LWm3 (i := 144) (by decide +kernel) rfl
theorem tw_703 : Cond.selects RX2 yX2_meanOf yX2_meanOf ∈ LW := LWm3 (i := 145) (by decide +kernel) rfl
set_option maxRecDepth 100000 in theorem tw_704 : Cond.code yX2_meanOf cX2_meanOf 7 (some .int) ∈ LW := LWm3 (i := 146) rfl rfl
theorem tw_740 : Cond.methodLink RX7 179 yX4_see ∈ LW := LWm3 (i := 182) (by decide +kernel) rfl
theorem tw_741 : Cond.instanceMethod yX4_see ∈ LW := LWm3 (i := 183) (by decide +kernel) rfl
theorem tw_742 : Cond.selects RX4 yX4_see yX4_see ∈ LW := LWm3 (i := 184) (by decide +kernel) rfl
set_option maxRecDepth 100000 in theorem tw_743 : Cond.code yX4_see cX4_see 2 (some .int) ∈ LW := LWm3 (i := 185) rfl rfl
theorem tw_784 : Cond.methodLink RX7 197 yX2_reckonWait ∈ LW := LWm3 (i := 226) (by decide +kernel) rfl
theorem tw_785 : Cond.instanceMethod yX2_reckonWait ∈ LW := LWm3 (i := 227) (by decide +kernel) rfl
theorem tw_786 : Cond.selects RX2 yX2_reckonWait yX2_reckonWait ∈ LW := LWm3 (i := 228) (by decide +kernel) rfl
set_option maxRecDepth 100000 in theorem tw_787 : Cond.code yX2_reckonWait cX2_reckonWait 7 none ∈ LW := LWm3 (i := 229) rfl rfl
theorem tw_792 : Cond.methodLink RX7 207 yX2_boyOf ∈ LW := LWm3 (i := 234) (by decide +kernel) rfl
theorem tw_793 : Cond.instanceMethod yX2_boyOf ∈ LW := LWm3 (i := 235) (by decide +kernel) rfl
theorem tw_794 : Cond.selects RX2 yX2_boyOf yX2_boyOf ∈ LW := LWm3 (i := 236) (by decide +kernel) rfl
set_option maxRecDepth 100000 in theorem tw_795 : Cond.code yX2_boyOf cX2_boyOf 8 (some .int) ∈ LW := LWm3 (i := 237) rfl rfl
theorem tw_800 : Cond.fieldLink RX7 211 "LastPlace" "MOST" "[I" ∈ LW := LWm4 (i := 2) (by decide +kernel) rfl
theorem tw_801 : Cond.methodLink RX7 217 yX4_addCar ∈ LW := LWm4 (i := 3) (by decide +kernel) rfl
theorem tw_802 : Cond.instanceMethod yX4_addCar ∈ LW := LWm4 (i := 4) (by decide +kernel) rfl
theorem tw_803 : Cond.selects RX4 yX4_addCar yX4_addCar ∈ LW := LWm4 (i := 5) (by decide +kernel) rfl
set_option maxRecDepth 100000 in theorem tw_804 : Cond.code yX4_addCar cX4_addCar 4 (some .int) ∈ LW := LWm4 (i := 6) rfl rfl
theorem tw_809 : Cond.methodLink RX7 220 yX7_isCar ∈ LW := LWm4 (i := 11) (by decide +kernel) rfl
theorem tw_811 : Cond.instanceMethod yX7_isCar ∈ LW := LWm4 (i := 13) (by decide +kernel) rfl
set_option maxRecDepth 100000 in theorem tw_812 : Cond.code yX7_isCar cX7_isCar 2 (some .boolean) ∈ LW := LWm4 (i := 14) rfl rfl
theorem tw_821 : Cond.methodLink RX7 229 yX1_comeTo ∈ LW := LWm4 (i := 23) (by decide +kernel) rfl
theorem tw_822 : Cond.instanceMethod yX1_comeTo ∈ LW := LWm4 (i := 24) (by decide +kernel) rfl
theorem tw_823 : Cond.selects RX1 yX1_comeTo yX1_comeTo ∈ LW := LWm4 (i := 25) (by decide +kernel) rfl
set_option maxRecDepth 100000 in theorem tw_824 : Cond.code yX1_comeTo cX1_comeTo 5 none ∈ LW := LWm4 (i := 26) rfl rfl
theorem tw_830 : Cond.methodLink RX7 233 yX1_placeOf ∈ LW := LWm4 (i := 32) (by decide +kernel) rfl
theorem tw_831 : Cond.instanceMethod yX1_placeOf ∈ LW := LWm4 (i := 33) (by decide +kernel) rfl
theorem tw_832 : Cond.selects RX1 yX1_placeOf yX1_placeOf ∈ LW := LWm4 (i := 34) (by decide +kernel) rfl
set_option maxRecDepth 100000 in theorem tw_833 : Cond.code yX1_placeOf cX1_placeOf 4 (some .int) ∈ LW := LWm4 (i := 35) rfl rfl
theorem tw_842 : Cond.methodLink RX7 236 yX1_costAt ∈ LW := LWm4 (i := 44) (by decide +kernel) rfl
theorem tw_850 : Cond.methodLink RX7 239 yX7_refuseSet ∈ LW := LWm4 (i := 52) (by decide +kernel) rfl
theorem tw_852 : Cond.instanceMethod yX7_refuseSet ∈ LW := LWm4 (i := 54) (by decide +kernel) rfl
set_option maxRecDepth 100000 in theorem tw_853 : Cond.code yX7_refuseSet cX7_refuseSet 3 (some .int) ∈ LW := LWm4 (i := 55) rfl rfl
theorem tw_854 : Cond.methodLink RX7 242 yX1_isAtRest ∈ LW := LWm4 (i := 56) (by decide +kernel) rfl
theorem tw_871 : Cond.methodLink RX7 246 yX1_goByTurns ∈ LW := LWm4 (i := 73) (by decide +kernel) rfl
theorem tw_879 : Cond.methodLink RX7 250 yX4_takeBars ∈ LW := LWm4 (i := 81) (by decide +kernel) rfl
theorem tw_880 : Cond.instanceMethod yX4_takeBars ∈ LW := LWm4 (i := 82) (by decide +kernel) rfl
theorem tw_881 : Cond.selects RX4 yX4_takeBars yX4_takeBars ∈ LW := LWm4 (i := 83) (by decide +kernel) rfl
set_option maxRecDepth 100000 in theorem tw_882 : Cond.code yX4_takeBars cX4_takeBars 2 none ∈ LW := LWm4 (i := 84) rfl rfl
theorem tw_888 : Cond.methodLink RX7 254 yX1_countRests ∈ LW := LWm4 (i := 90) (by decide +kernel) rfl
theorem tw_889 : Cond.instanceMethod yX1_countRests ∈ LW := LWm4 (i := 91) (by decide +kernel) rfl
theorem tw_890 : Cond.selects RX1 yX1_countRests yX1_countRests ∈ LW := LWm4 (i := 92) (by decide +kernel) rfl
set_option maxRecDepth 100000 in theorem tw_891 : Cond.code yX1_countRests cX1_countRests 6 (some .int) ∈ LW := LWm4 (i := 93) rfl rfl
theorem tw_897 : Cond.methodLink RX7 257 yX1_costOfAll ∈ LW := LWm4 (i := 99) (by decide +kernel) rfl
theorem tw_901 : Cond.methodLink RX7 260 yX1_leastOfAll ∈ LW := LWm4 (i := 103) (by decide +kernel) rfl
theorem tw_902 : Cond.instanceMethod yX1_leastOfAll ∈ LW := LWm4 (i := 104) (by decide +kernel) rfl
theorem tw_903 : Cond.selects RX1 yX1_leastOfAll yX1_leastOfAll ∈ LW := LWm4 (i := 105) (by decide +kernel) rfl
set_option maxRecDepth 100000 in theorem tw_904 : Cond.code yX1_leastOfAll cX1_leastOfAll 4 (some .int) ∈ LW := LWm4 (i := 106) rfl rfl
theorem tw_914 : Cond.methodLink RX7 263 yX1_mendingPrice ∈ LW := LWm4 (i := 116) (by decide +kernel) rfl
theorem tw_915 : Cond.instanceMethod yX1_mendingPrice ∈ LW := LWm4 (i := 117) (by decide +kernel) rfl
theorem tw_916 : Cond.selects RX1 yX1_mendingPrice yX1_mendingPrice ∈ LW := LWm4 (i := 118) (by decide +kernel) rfl
set_option maxRecDepth 100000 in theorem tw_917 : Cond.code yX1_mendingPrice cX1_mendingPrice 6 (some .int) ∈ LW := LWm4 (i := 119) rfl rfl
theorem tw_928 : Cond.methodLink RX7 269 yX2_eveningOf ∈ LW := LWm4 (i := 130) (by decide +kernel) rfl
theorem tw_929 : Cond.instanceMethod yX2_eveningOf ∈ LW := LWm4 (i := 131) (by decide +kernel) rfl
theorem tw_930 : Cond.selects RX2 yX2_eveningOf yX2_eveningOf ∈ LW := LWm4 (i := 132) (by decide +kernel) rfl
set_option maxRecDepth 100000 in theorem tw_931 : Cond.code yX2_eveningOf cX2_eveningOf 11 (some .int) ∈ LW := LWm4 (i := 133) rfl rfl
theorem tw_940 : Cond.constantLong RX7 273 (1000) ∈ LW := LWm4 (i := 142) (by decide +kernel) rfl
theorem tw_955 : Cond.methodLink RX7 280 yX4_copyFrom ∈ LW := LWm4 (i := 157) (by decide +kernel) rfl
theorem tw_956 : Cond.instanceMethod yX4_copyFrom ∈ LW := LWm4 (i := 158) (by decide +kernel) rfl
theorem tw_957 : Cond.selects RX4 yX4_copyFrom yX4_copyFrom ∈ LW := LWm4 (i := 159) (by decide +kernel) rfl
set_option maxRecDepth 100000 in theorem tw_958 : Cond.code yX4_copyFrom cX4_copyFrom 2 none ∈ LW := LWm4 (i := 160) rfl rfl

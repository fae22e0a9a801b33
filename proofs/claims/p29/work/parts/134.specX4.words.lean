theorem tw_4 : Cond.selects RX0 yX0_reckonEnd yX0_reckonEnd ∈ LW := LWm (i := 4) (by decide +kernel) rfl
theorem tw_5 : Cond.selects RX0 yX0_reckonDoor yX0_reckonDoor ∈ LW := LWm (i := 5) (by decide +kernel) rfl
theorem tw_6 : Cond.selects RX0 yX0_reckonNext yX0_reckonNext ∈ LW := LWm (i := 6) (by decide +kernel) rfl
theorem tw_7 : Cond.selects RX0 yX0_reckonStart yX0_reckonStart ∈ LW := LWm (i := 7) (by decide +kernel) rfl
theorem tw_12 : Cond.selects RX0 yX0_isTakenByAll yX0_isTakenByAll ∈ LW := LWm (i := 12) (by decide +kernel) rfl
theorem tw_13 : Cond.selects RX0 yX0_isTakenByAny yX0_isTakenByAny ∈ LW := LWm (i := 13) (by decide +kernel) rfl
theorem tw_14 : Cond.selects RX3 yX3_readChange yX3_readChange ∈ LW := LWm (i := 14) (by decide +kernel) rfl
theorem tw_79 : Cond.initialized RX7 ∈ LW := LWm1 (i := 1) (by decide +kernel) rfl
theorem tw_82 : Cond.initialized RX4 ∈ LW := LWm1 (i := 4) (by decide +kernel) rfl
theorem tw_85 : Cond.initialized RX0 ∈ LW := LWm1 (i := 7) (by decide +kernel) rfl
theorem tw_86 : Cond.initialized RX3 ∈ LW := LWm1 (i := 8) (by decide +kernel) rfl
theorem tw_114 : Cond.fieldLink RX3 60 "LastPlace$Text" "at" "I" ∈ LW := LWm1 (i := 36) (by decide +kernel) rfl
theorem tw_117 : Cond.fieldLink RX3 67 "LastPlace$Text" "numberAt" "I" ∈ LW := LWm1 (i := 39) (by decide +kernel) rfl
theorem tw_147 : Cond.fieldLink RX0 28 "LastPlace$Street" "values" "[I" ∈ LW := LWm1 (i := 69) (by decide +kernel) rfl
theorem tw_148 : Cond.fieldLink RX3 70 "LastPlace$Street" "values" "[I" ∈ LW := LWm1 (i := 70) (by decide +kernel) rfl
theorem tw_173 : Cond.fieldLink RX4 9 "LastPlace$Scene" "walks" "[I" ∈ LW := LWm1 (i := 95) (by decide +kernel) rfl
theorem tw_175 : Cond.fieldLink RX4 15 "LastPlace$Scene" "bars" "[I" ∈ LW := LWm1 (i := 97) (by decide +kernel) rfl
theorem tw_178 : Cond.fieldLink RX4 18 "LastPlace$Scene" "carCount" "I" ∈ LW := LWm1 (i := 100) (by decide +kernel) rfl
theorem tw_181 : Cond.fieldLink RX4 22 "LastPlace$Scene" "rowSize" "I" ∈ LW := LWm1 (i := 103) (by decide +kernel) rfl
theorem tw_183 : Cond.fieldLink RX0 100 "LastPlace$Scene" "rowSize" "I" ∈ LW := LWm1 (i := 105) (by decide +kernel) rfl
theorem tw_185 : Cond.fieldLink RX4 25 "LastPlace$Scene" "rowFree" "I" ∈ LW := LWm1 (i := 107) (by decide +kernel) rfl
theorem tw_186 : Cond.fieldLink RX0 110 "LastPlace$Scene" "rowFree" "I" ∈ LW := LWm1 (i := 108) (by decide +kernel) rfl
theorem tw_188 : Cond.fieldLink RX4 28 "LastPlace$Scene" "seedNow" "I" ∈ LW := LWm1 (i := 110) (by decide +kernel) rfl
theorem tw_266 : Cond.fieldLink RX0 24 "LastPlace$BestWay" "street" "LLastPlace$Street;" ∈ LW := LWm1 (i := 188) (by decide +kernel) rfl
theorem tw_267 : Cond.fieldLink RX0 9 "LastPlace$BestWay" "onward" "[I" ∈ LW := LWm1 (i := 189) (by decide +kernel) rfl
theorem tw_268 : Cond.fieldLink RX0 15 "LastPlace$BestWay" "starts" "[I" ∈ LW := LWm1 (i := 190) (by decide +kernel) rfl
theorem tw_270 : Cond.fieldLink RX0 18 "LastPlace$BestWay" "ends" "[I" ∈ LW := LWm1 (i := 192) (by decide +kernel) rfl
theorem tw_272 : Cond.fieldLink RX0 21 "LastPlace$BestWay" "folded" "[I" ∈ LW := LWm1 (i := 194) (by decide +kernel) rfl
theorem tw_289 : Cond.fieldLink RX3 9 "LastPlace$Rule" "seen" "[I" ∈ LW := LWm1 (i := 211) (by decide +kernel) rfl
theorem tw_290 : Cond.fieldLink RX3 15 "LastPlace$Rule" "from" "[I" ∈ LW := LWm1 (i := 212) (by decide +kernel) rfl
theorem tw_291 : Cond.fieldLink RX3 18 "LastPlace$Rule" "firstFrom" "I" ∈ LW := LWm1 (i := 213) (by decide +kernel) rfl
theorem tw_292 : Cond.fieldLink RX3 22 "LastPlace$Rule" "changes" "I" ∈ LW := LWm1 (i := 214) (by decide +kernel) rfl
theorem tw_293 : Cond.fieldLink RX3 25 "LastPlace$Rule" "rounds" "I" ∈ LW := LWm1 (i := 215) (by decide +kernel) rfl
theorem tw_516 : Cond.methodLink RX0 33 yX0_reckonEnd ∈ LW := LWm2 (i := 198) (by decide +kernel) rfl
theorem tw_518 : Cond.instanceMethod yX0_reckonEnd ∈ LW := LWm2 (i := 200) (by decide +kernel) rfl
set_option maxRecDepth 100000 in theorem tw_519 : Cond.code yX0_reckonEnd cX0_reckonEnd 3 (some .int) ∈ LW := LWm2 (i := 201) rfl rfl
theorem tw_520 : Cond.methodLink RX0 48 yX5_garageOf ∈ LW := LWm2 (i := 202) (by decide +kernel) rfl
theorem tw_521 : Cond.instanceMethod yX5_garageOf ∈ LW := LWm2 (i := 203) (by decide +kernel) rfl
theorem tw_522 : Cond.selects RX5 yX5_garageOf yX5_garageOf ∈ LW := LWm2 (i := 204) (by decide +kernel) rfl
set_option maxRecDepth 100000 in theorem tw_523 : Cond.code yX5_garageOf cX5_garageOf 2 (some .int) ∈ LW := LWm2 (i := 205) rfl rfl
theorem tw_524 : Cond.methodLink RX0 51 yX5_roundDrive ∈ LW := LWm2 (i := 206) (by decide +kernel) rfl
theorem tw_525 : Cond.instanceMethod yX5_roundDrive ∈ LW := LWm2 (i := 207) (by decide +kernel) rfl
theorem tw_526 : Cond.selects RX5 yX5_roundDrive yX5_roundDrive ∈ LW := LWm2 (i := 208) (by decide +kernel) rfl
set_option maxRecDepth 100000 in theorem tw_527 : Cond.code yX5_roundDrive cX5_roundDrive 1 (some .int) ∈ LW := LWm2 (i := 209) rfl rfl
theorem tw_528 : Cond.methodLink RX0 54 yJ9_min_7cf53 ∈ LW := LWm2 (i := 210) (by decide +kernel) rfl
theorem tw_531 : Cond.methodLink RX0 37 yX5_doors ∈ LW := LWm2 (i := 213) (by decide +kernel) rfl
theorem tw_532 : Cond.methodLink RX0 41 yX0_reckonDoor ∈ LW := LWm2 (i := 214) (by decide +kernel) rfl
theorem tw_534 : Cond.instanceMethod yX0_reckonDoor ∈ LW := LWm2 (i := 216) (by decide +kernel) rfl
set_option maxRecDepth 100000 in theorem tw_535 : Cond.code yX0_reckonDoor cX0_reckonDoor 6 none ∈ LW := LWm2 (i := 217) rfl rfl
theorem tw_536 : Cond.methodLink RX0 60 yX5_sightsAt ∈ LW := LWm2 (i := 218) (by decide +kernel) rfl
theorem tw_537 : Cond.instanceMethod yX5_sightsAt ∈ LW := LWm2 (i := 219) (by decide +kernel) rfl
theorem tw_538 : Cond.selects RX5 yX5_sightsAt yX5_sightsAt ∈ LW := LWm2 (i := 220) (by decide +kernel) rfl
set_option maxRecDepth 100000 in theorem tw_539 : Cond.code yX5_sightsAt cX5_sightsAt 2 (some .int) ∈ LW := LWm2 (i := 221) rfl rfl
theorem tw_541 : Cond.methodLink RX0 63 yX0_reckonNext ∈ LW := LWm2 (i := 223) (by decide +kernel) rfl
theorem tw_543 : Cond.instanceMethod yX0_reckonNext ∈ LW := LWm2 (i := 225) (by decide +kernel) rfl
set_option maxRecDepth 100000 in theorem tw_544 : Cond.code yX0_reckonNext cX0_reckonNext 8 (some .int) ∈ LW := LWm2 (i := 226) rfl rfl
theorem tw_545 : Cond.methodLink RX0 73 yX0_worthOf ∈ LW := LWm2 (i := 227) (by decide +kernel) rfl
theorem tw_546 : Cond.instanceMethod yX0_worthOf ∈ LW := LWm2 (i := 228) (by decide +kernel) rfl
theorem tw_547 : Cond.selects RX0 yX0_worthOf yX0_worthOf ∈ LW := LWm2 (i := 229) (by decide +kernel) rfl
set_option maxRecDepth 100000 in theorem tw_548 : Cond.code yX0_worthOf cX0_worthOf 5 (some .int) ∈ LW := LWm2 (i := 230) rfl rfl
theorem tw_549 : Cond.methodLink RX0 86 yX0_onwardOf ∈ LW := LWm2 (i := 231) (by decide +kernel) rfl
theorem tw_550 : Cond.instanceMethod yX0_onwardOf ∈ LW := LWm2 (i := 232) (by decide +kernel) rfl
theorem tw_551 : Cond.selects RX0 yX0_onwardOf yX0_onwardOf ∈ LW := LWm2 (i := 233) (by decide +kernel) rfl
set_option maxRecDepth 100000 in theorem tw_552 : Cond.code yX0_onwardOf cX0_onwardOf 4 (some .int) ∈ LW := LWm2 (i := 234) rfl rfl
theorem tw_553 : Cond.methodLink RX0 67 yX0_slot ∈ LW := LWm2 (i := 235) (by decide +kernel) rfl
theorem tw_554 : Cond.static yX0_slot ∈ LW := LWm2 (i := 236) (by decide +kernel) rfl
set_option maxRecDepth 100000 in theorem tw_555 : Cond.code yX0_slot cX0_slot 3 (some .int) ∈ LW := LWm2 (i := 237) rfl rfl
theorem tw_556 : Cond.methodLink RX0 83 yX5_takingOf ∈ LW := LWm2 (i := 238) (by decide +kernel) rfl
theorem tw_557 : Cond.instanceMethod yX5_takingOf ∈ LW := LWm2 (i := 239) (by decide +kernel) rfl
theorem tw_558 : Cond.selects RX5 yX5_takingOf yX5_takingOf ∈ LW := LWm3 (i := 0) (by decide +kernel) rfl
set_option maxRecDepth 100000 in theorem tw_559 : Cond.code yX5_takingOf cX5_takingOf 3 (some .int) ∈ LW := LWm3 (i := 1) rfl rfl
theorem tw_564 : Cond.methodLink RX0 76 yX5_chanceOf ∈ LW := LWm3 (i := 6) (by decide +kernel) rfl
theorem tw_565 : Cond.instanceMethod yX5_chanceOf ∈ LW := LWm3 (i := 7) (by decide +kernel) rfl
theorem tw_566 : Cond.selects RX5 yX5_chanceOf yX5_chanceOf ∈ LW := LWm3 (i := 8) (by decide +kernel) rfl
set_option maxRecDepth 100000 in theorem tw_567 : Cond.code yX5_chanceOf cX5_chanceOf 4 (some .int) ∈ LW := LWm3 (i := 9) rfl rfl
theorem tw_569 : Cond.static yX7_mixed ∈ LW := LWm3 (i := 11) (by decide +kernel) rfl
set_option maxRecDepth 100000 in theorem tw_570 : Cond.code yX7_mixed cX7_mixed 3 (some .int) ∈ LW := LWm3 (i := 12) rfl rfl
theorem tw_571 : Cond.constantLong RX7 295 (100) ∈ LW := LWm3 (i := 13) (by decide +kernel) rfl
theorem tw_572 : Cond.methodLink RX0 70 yX5_passing ∈ LW := LWm3 (i := 14) (by decide +kernel) rfl
theorem tw_573 : Cond.instanceMethod yX5_passing ∈ LW := LWm3 (i := 15) (by decide +kernel) rfl
theorem tw_574 : Cond.selects RX5 yX5_passing yX5_passing ∈ LW := LWm3 (i := 16) (by decide +kernel) rfl
set_option maxRecDepth 100000 in theorem tw_575 : Cond.code yX5_passing cX5_passing 1 (some .int) ∈ LW := LWm3 (i := 17) rfl rfl
theorem tw_576 : Cond.methodLink RX0 45 yX0_reckonStart ∈ LW := LWm3 (i := 18) (by decide +kernel) rfl
theorem tw_578 : Cond.instanceMethod yX0_reckonStart ∈ LW := LWm3 (i := 20) (by decide +kernel) rfl
set_option maxRecDepth 100000 in theorem tw_579 : Cond.code yX0_reckonStart cX0_reckonStart 7 (some .int) ∈ LW := LWm3 (i := 21) rfl rfl
theorem tw_638 : Cond.instanceMethod yX0_isTaken ∈ LW := LWm3 (i := 80) (by decide +kernel) rfl
theorem tw_639 : Cond.selects RX0 yX0_isTaken yX0_isTaken ∈ LW := LWm3 (i := 81) (by decide +kernel) rfl
set_option maxRecDepth 100000 in theorem tw_640 : Cond.code yX0_isTaken cX0_isTaken 4 (some .boolean) ∈ LW := LWm3 (i := 82) rfl rfl
theorem tw_658 : Cond.methodLink RX0 89 yX0_isTakenByAll ∈ LW := LWm3 (i := 100) (by decide +kernel) rfl
theorem tw_660 : Cond.instanceMethod yX0_isTakenByAll ∈ LW := LWm3 (i := 102) (by decide +kernel) rfl
set_option maxRecDepth 100000 in theorem tw_661 : Cond.code yX0_isTakenByAll cX0_isTakenByAll 4 (some .boolean) ∈ LW := LWm3 (i := 103) rfl rfl
theorem tw_662 : Cond.methodLink RX0 96 yX0_isTaken ∈ LW := LWm3 (i := 104) (by decide +kernel) rfl
theorem tw_663 : Cond.methodLink RX0 93 yX0_isTakenByAny ∈ LW := LWm3 (i := 105) (by decide +kernel) rfl
theorem tw_665 : Cond.instanceMethod yX0_isTakenByAny ∈ LW := LWm3 (i := 107) (by decide +kernel) rfl
set_option maxRecDepth 100000 in theorem tw_666 : Cond.code yX0_isTakenByAny cX0_isTakenByAny 4 (some .boolean) ∈ LW := LWm3 (i := 108) rfl rfl
theorem tw_680 : Cond.methodLink RX3 29 yX6_needWord ∈ LW := LWm3 (i := 122) (by decide +kernel) rfl
theorem tw_681 : Cond.methodLink RX3 35 yX6_needNumber ∈ LW := LWm3 (i := 123) (by decide +kernel) rfl
theorem tw_682 : Cond.methodLink RX3 39 yX6_failed ∈ LW := LWm3 (i := 124) (by decide +kernel) rfl
theorem tw_684 : Cond.methodLink RX3 44 yX6_takeWord ∈ LW := LWm3 (i := 126) (by decide +kernel) rfl
theorem tw_685 : Cond.methodLink RX3 48 yX3_readChange ∈ LW := LWm3 (i := 127) (by decide +kernel) rfl
theorem tw_687 : Cond.instanceMethod yX3_readChange ∈ LW := LWm3 (i := 129) (by decide +kernel) rfl
set_option maxRecDepth 100000 in theorem tw_688 : Cond.code yX3_readChange cX3_readChange 4 none ∈ LW := LWm3 (i := 130) rfl rfl
theorem tw_689 : Cond.methodLink RX3 63 yX6_fail ∈ LW := LWm3 (i := 131) (by decide +kernel) rfl
theorem tw_692 : Cond.methodLink RX3 57 yX6_isAtEnd ∈ LW := LWm3 (i := 134) (by decide +kernel) rfl
theorem tw_709 : Cond.methodLink RX3 75 yJ9_min_7cf53 ∈ LW := LWm3 (i := 151) (by decide +kernel) rfl
theorem tw_753 : Cond.instanceMethod yX4_sawFree ∈ LW := LWm3 (i := 195) (by decide +kernel) rfl
theorem tw_754 : Cond.selects RX4 yX4_sawFree yX4_sawFree ∈ LW := LWm3 (i := 196) (by decide +kernel) rfl
set_option maxRecDepth 100000 in theorem tw_755 : Cond.code yX4_sawFree cX4_sawFree 2 (some .boolean) ∈ LW := LWm3 (i := 197) rfl rfl
theorem tw_760 : Cond.methodLink RX0 106 yX4_sawFree ∈ LW := LWm3 (i := 202) (by decide +kernel) rfl
theorem tw_883 : Cond.methodLink RX4 31 arraycopyName ∈ LW := LWm4 (i := 85) (by decide +kernel) rfl
theorem tw_936 : Cond.constantLong RX4 37 (1103515245) ∈ LW := LWm4 (i := 138) (by decide +kernel) rfl
theorem tw_937 : Cond.constantLong RX4 39 (12345) ∈ LW := LWm4 (i := 139) (by decide +kernel) rfl
theorem tw_938 : Cond.constantLong RX4 41 (2147483647) ∈ LW := LWm4 (i := 140) (by decide +kernel) rfl
theorem tw_939 : Cond.constant RX4 43 (65536) ∈ LW := LWm4 (i := 141) (by decide +kernel) rfl

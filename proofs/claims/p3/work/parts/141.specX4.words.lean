theorem tw_4 : Cond.selects RX0 yX0_reckonEnd yX0_reckonEnd ∈ LW := LWm (i := 4) (by decide +kernel) rfl
theorem tw_5 : Cond.selects RX0 yX0_reckonDoor yX0_reckonDoor ∈ LW := LWm (i := 5) (by decide +kernel) rfl
theorem tw_6 : Cond.selects RX0 yX0_reckonNext yX0_reckonNext ∈ LW := LWm (i := 6) (by decide +kernel) rfl
theorem tw_7 : Cond.selects RX0 yX0_reckonStart yX0_reckonStart ∈ LW := LWm (i := 7) (by decide +kernel) rfl
theorem tw_12 : Cond.selects RX0 yX0_isTakenByAll yX0_isTakenByAll ∈ LW := LWm (i := 12) (by decide +kernel) rfl
theorem tw_13 : Cond.selects RX0 yX0_isTakenByAny yX0_isTakenByAny ∈ LW := LWm (i := 13) (by decide +kernel) rfl
theorem tw_14 : Cond.selects RX3 yX3_readChange yX3_readChange ∈ LW := LWm (i := 14) (by decide +kernel) rfl
theorem tw_79 : Cond.initialized RX7 ∈ LW := LWm (i := 79) (by decide +kernel) rfl
theorem tw_82 : Cond.initialized RX4 ∈ LW := LWm (i := 82) (by decide +kernel) rfl
theorem tw_85 : Cond.initialized RX0 ∈ LW := LWm (i := 85) (by decide +kernel) rfl
theorem tw_86 : Cond.initialized RX3 ∈ LW := LWm (i := 86) (by decide +kernel) rfl
theorem tw_114 : Cond.fieldLink RX3 60 "LastPlace$Text" "at" "I" ∈ LW := LWm (i := 114) (by decide +kernel) rfl
theorem tw_117 : Cond.fieldLink RX3 67 "LastPlace$Text" "numberAt" "I" ∈ LW := LWm (i := 117) (by decide +kernel) rfl
theorem tw_147 : Cond.fieldLink RX0 28 "LastPlace$Street" "values" "[I" ∈ LW := LWm (i := 147) (by decide +kernel) rfl
theorem tw_148 : Cond.fieldLink RX3 70 "LastPlace$Street" "values" "[I" ∈ LW := LWm (i := 148) (by decide +kernel) rfl
theorem tw_173 : Cond.fieldLink RX4 9 "LastPlace$Scene" "walks" "[I" ∈ LW := LWm (i := 173) (by decide +kernel) rfl
theorem tw_175 : Cond.fieldLink RX4 15 "LastPlace$Scene" "bars" "[I" ∈ LW := LWm (i := 175) (by decide +kernel) rfl
theorem tw_178 : Cond.fieldLink RX4 18 "LastPlace$Scene" "carCount" "I" ∈ LW := LWm (i := 178) (by decide +kernel) rfl
theorem tw_181 : Cond.fieldLink RX4 22 "LastPlace$Scene" "rowSize" "I" ∈ LW := LWm (i := 181) (by decide +kernel) rfl
theorem tw_183 : Cond.fieldLink RX0 100 "LastPlace$Scene" "rowSize" "I" ∈ LW := LWm (i := 183) (by decide +kernel) rfl
theorem tw_185 : Cond.fieldLink RX4 25 "LastPlace$Scene" "rowFree" "I" ∈ LW := LWm (i := 185) (by decide +kernel) rfl
theorem tw_186 : Cond.fieldLink RX0 110 "LastPlace$Scene" "rowFree" "I" ∈ LW := LWm (i := 186) (by decide +kernel) rfl
theorem tw_188 : Cond.fieldLink RX4 28 "LastPlace$Scene" "seedNow" "I" ∈ LW := LWm (i := 188) (by decide +kernel) rfl
theorem tw_266 : Cond.fieldLink RX0 24 "LastPlace$BestWay" "street" "LLastPlace$Street;" ∈ LW := LWm (i := 266) (by decide +kernel) rfl
theorem tw_267 : Cond.fieldLink RX0 9 "LastPlace$BestWay" "onward" "[I" ∈ LW := LWm (i := 267) (by decide +kernel) rfl
theorem tw_268 : Cond.fieldLink RX0 15 "LastPlace$BestWay" "starts" "[I" ∈ LW := LWm (i := 268) (by decide +kernel) rfl
theorem tw_270 : Cond.fieldLink RX0 18 "LastPlace$BestWay" "ends" "[I" ∈ LW := LWm (i := 270) (by decide +kernel) rfl
theorem tw_272 : Cond.fieldLink RX0 21 "LastPlace$BestWay" "folded" "[I" ∈ LW := LWm (i := 272) (by decide +kernel) rfl
theorem tw_289 : Cond.fieldLink RX3 9 "LastPlace$Rule" "seen" "[I" ∈ LW := LWm (i := 289) (by decide +kernel) rfl
theorem tw_290 : Cond.fieldLink RX3 15 "LastPlace$Rule" "from" "[I" ∈ LW := LWm (i := 290) (by decide +kernel) rfl
theorem tw_291 : Cond.fieldLink RX3 18 "LastPlace$Rule" "firstFrom" "I" ∈ LW := LWm (i := 291) (by decide +kernel) rfl
theorem tw_292 : Cond.fieldLink RX3 22 "LastPlace$Rule" "changes" "I" ∈ LW := LWm (i := 292) (by decide +kernel) rfl
theorem tw_293 : Cond.fieldLink RX3 25 "LastPlace$Rule" "rounds" "I" ∈ LW := LWm (i := 293) (by decide +kernel) rfl
theorem tw_516 : Cond.methodLink RX0 33 yX0_reckonEnd ∈ LW := LWm (i := 516) (by decide +kernel) rfl
theorem tw_518 : Cond.instanceMethod yX0_reckonEnd ∈ LW := LWm (i := 518) (by decide +kernel) rfl
set_option maxRecDepth 100000 in theorem tw_519 : Cond.code yX0_reckonEnd cX0_reckonEnd 3 (some .int) ∈ LW := LWm (i := 519) rfl rfl
theorem tw_520 : Cond.methodLink RX0 48 yX5_garageOf ∈ LW := LWm (i := 520) (by decide +kernel) rfl
theorem tw_521 : Cond.instanceMethod yX5_garageOf ∈ LW := LWm (i := 521) (by decide +kernel) rfl
theorem tw_522 : Cond.selects RX5 yX5_garageOf yX5_garageOf ∈ LW := LWm (i := 522) (by decide +kernel) rfl
set_option maxRecDepth 100000 in theorem tw_523 : Cond.code yX5_garageOf cX5_garageOf 2 (some .int) ∈ LW := LWm (i := 523) rfl rfl
theorem tw_524 : Cond.methodLink RX0 51 yX5_roundDrive ∈ LW := LWm (i := 524) (by decide +kernel) rfl
theorem tw_525 : Cond.instanceMethod yX5_roundDrive ∈ LW := LWm (i := 525) (by decide +kernel) rfl
theorem tw_526 : Cond.selects RX5 yX5_roundDrive yX5_roundDrive ∈ LW := LWm (i := 526) (by decide +kernel) rfl
set_option maxRecDepth 100000 in theorem tw_527 : Cond.code yX5_roundDrive cX5_roundDrive 1 (some .int) ∈ LW := LWm (i := 527) rfl rfl
theorem tw_528 : Cond.methodLink RX0 54 yJ9_min_7cf53 ∈ LW := LWm (i := 528) (by decide +kernel) rfl
theorem tw_531 : Cond.methodLink RX0 37 yX5_doors ∈ LW := LWm (i := 531) (by decide +kernel) rfl
theorem tw_532 : Cond.methodLink RX0 41 yX0_reckonDoor ∈ LW := LWm (i := 532) (by decide +kernel) rfl
theorem tw_534 : Cond.instanceMethod yX0_reckonDoor ∈ LW := LWm (i := 534) (by decide +kernel) rfl
set_option maxRecDepth 100000 in theorem tw_535 : Cond.code yX0_reckonDoor cX0_reckonDoor 6 none ∈ LW := LWm (i := 535) rfl rfl
theorem tw_536 : Cond.methodLink RX0 60 yX5_sightsAt ∈ LW := LWm (i := 536) (by decide +kernel) rfl
theorem tw_537 : Cond.instanceMethod yX5_sightsAt ∈ LW := LWm (i := 537) (by decide +kernel) rfl
theorem tw_538 : Cond.selects RX5 yX5_sightsAt yX5_sightsAt ∈ LW := LWm (i := 538) (by decide +kernel) rfl
set_option maxRecDepth 100000 in theorem tw_539 : Cond.code yX5_sightsAt cX5_sightsAt 2 (some .int) ∈ LW := LWm (i := 539) rfl rfl
theorem tw_541 : Cond.methodLink RX0 63 yX0_reckonNext ∈ LW := LWm (i := 541) (by decide +kernel) rfl
theorem tw_543 : Cond.instanceMethod yX0_reckonNext ∈ LW := LWm (i := 543) (by decide +kernel) rfl
set_option maxRecDepth 100000 in theorem tw_544 : Cond.code yX0_reckonNext cX0_reckonNext 8 (some .int) ∈ LW := LWm (i := 544) rfl rfl
theorem tw_545 : Cond.methodLink RX0 73 yX0_worthOf ∈ LW := LWm (i := 545) (by decide +kernel) rfl
theorem tw_546 : Cond.instanceMethod yX0_worthOf ∈ LW := LWm (i := 546) (by decide +kernel) rfl
theorem tw_547 : Cond.selects RX0 yX0_worthOf yX0_worthOf ∈ LW := LWm (i := 547) (by decide +kernel) rfl
set_option maxRecDepth 100000 in theorem tw_548 : Cond.code yX0_worthOf cX0_worthOf 5 (some .int) ∈ LW := LWm (i := 548) rfl rfl
theorem tw_549 : Cond.methodLink RX0 86 yX0_onwardOf ∈ LW := LWm (i := 549) (by decide +kernel) rfl
theorem tw_550 : Cond.instanceMethod yX0_onwardOf ∈ LW := LWm (i := 550) (by decide +kernel) rfl
theorem tw_551 : Cond.selects RX0 yX0_onwardOf yX0_onwardOf ∈ LW := LWm (i := 551) (by decide +kernel) rfl
set_option maxRecDepth 100000 in theorem tw_552 : Cond.code yX0_onwardOf cX0_onwardOf 4 (some .int) ∈ LW := LWm (i := 552) rfl rfl
theorem tw_553 : Cond.methodLink RX0 67 yX0_slot ∈ LW := LWm (i := 553) (by decide +kernel) rfl
theorem tw_554 : Cond.static yX0_slot ∈ LW := LWm (i := 554) (by decide +kernel) rfl
set_option maxRecDepth 100000 in theorem tw_555 : Cond.code yX0_slot cX0_slot 3 (some .int) ∈ LW := LWm (i := 555) rfl rfl
theorem tw_556 : Cond.methodLink RX0 83 yX5_takingOf ∈ LW := LWm (i := 556) (by decide +kernel) rfl
theorem tw_557 : Cond.instanceMethod yX5_takingOf ∈ LW := LWm (i := 557) (by decide +kernel) rfl
theorem tw_558 : Cond.selects RX5 yX5_takingOf yX5_takingOf ∈ LW := LWm (i := 558) (by decide +kernel) rfl
set_option maxRecDepth 100000 in theorem tw_559 : Cond.code yX5_takingOf cX5_takingOf 3 (some .int) ∈ LW := LWm (i := 559) rfl rfl
theorem tw_564 : Cond.methodLink RX0 76 yX5_chanceOf ∈ LW := LWm (i := 564) (by decide +kernel) rfl
theorem tw_565 : Cond.instanceMethod yX5_chanceOf ∈ LW := LWm (i := 565) (by decide +kernel) rfl
theorem tw_566 : Cond.selects RX5 yX5_chanceOf yX5_chanceOf ∈ LW := LWm (i := 566) (by decide +kernel) rfl
set_option maxRecDepth 100000 in theorem tw_567 : Cond.code yX5_chanceOf cX5_chanceOf 4 (some .int) ∈ LW := LWm (i := 567) rfl rfl
theorem tw_569 : Cond.static yX7_mixed ∈ LW := LWm (i := 569) (by decide +kernel) rfl
set_option maxRecDepth 100000 in theorem tw_570 : Cond.code yX7_mixed cX7_mixed 3 (some .int) ∈ LW := LWm (i := 570) rfl rfl
theorem tw_571 : Cond.constantLong RX7 295 (100) ∈ LW := LWm (i := 571) (by decide +kernel) rfl
theorem tw_572 : Cond.methodLink RX0 70 yX5_passing ∈ LW := LWm (i := 572) (by decide +kernel) rfl
theorem tw_573 : Cond.instanceMethod yX5_passing ∈ LW := LWm (i := 573) (by decide +kernel) rfl
theorem tw_574 : Cond.selects RX5 yX5_passing yX5_passing ∈ LW := LWm (i := 574) (by decide +kernel) rfl
set_option maxRecDepth 100000 in theorem tw_575 : Cond.code yX5_passing cX5_passing 1 (some .int) ∈ LW := LWm (i := 575) rfl rfl
theorem tw_576 : Cond.methodLink RX0 45 yX0_reckonStart ∈ LW := LWm (i := 576) (by decide +kernel) rfl
theorem tw_578 : Cond.instanceMethod yX0_reckonStart ∈ LW := LWm (i := 578) (by decide +kernel) rfl
set_option maxRecDepth 100000 in theorem tw_579 : Cond.code yX0_reckonStart cX0_reckonStart 7 (some .int) ∈ LW := LWm (i := 579) rfl rfl
theorem tw_638 : Cond.instanceMethod yX0_isTaken ∈ LW := LWm (i := 638) (by decide +kernel) rfl
theorem tw_639 : Cond.selects RX0 yX0_isTaken yX0_isTaken ∈ LW := LWm (i := 639) (by decide +kernel) rfl
set_option maxRecDepth 100000 in theorem tw_640 : Cond.code yX0_isTaken cX0_isTaken 4 (some .boolean) ∈ LW := LWm (i := 640) rfl rfl
theorem tw_658 : Cond.methodLink RX0 89 yX0_isTakenByAll ∈ LW := LWm (i := 658) (by decide +kernel) rfl
theorem tw_660 : Cond.instanceMethod yX0_isTakenByAll ∈ LW := LWm (i := 660) (by decide +kernel) rfl
set_option maxRecDepth 100000 in theorem tw_661 : Cond.code yX0_isTakenByAll cX0_isTakenByAll 4 (some .boolean) ∈ LW := LWm (i := 661) rfl rfl
theorem tw_662 : Cond.methodLink RX0 96 yX0_isTaken ∈ LW := LWm (i := 662) (by decide +kernel) rfl
theorem tw_663 : Cond.methodLink RX0 93 yX0_isTakenByAny ∈ LW := LWm (i := 663) (by decide +kernel) rfl
theorem tw_665 : Cond.instanceMethod yX0_isTakenByAny ∈ LW := LWm (i := 665) (by decide +kernel) rfl
set_option maxRecDepth 100000 in theorem tw_666 : Cond.code yX0_isTakenByAny cX0_isTakenByAny 4 (some .boolean) ∈ LW := LWm (i := 666) rfl rfl
theorem tw_680 : Cond.methodLink RX3 29 yX6_needWord ∈ LW := LWm (i := 680) (by decide +kernel) rfl
theorem tw_681 : Cond.methodLink RX3 35 yX6_needNumber ∈ LW := LWm (i := 681) (by decide +kernel) rfl
theorem tw_682 : Cond.methodLink RX3 39 yX6_failed ∈ LW := LWm (i := 682) (by decide +kernel) rfl
theorem tw_684 : Cond.methodLink RX3 44 yX6_takeWord ∈ LW := LWm (i := 684) (by decide +kernel) rfl
theorem tw_685 : Cond.methodLink RX3 48 yX3_readChange ∈ LW := LWm (i := 685) (by decide +kernel) rfl
theorem tw_687 : Cond.instanceMethod yX3_readChange ∈ LW := LWm (i := 687) (by decide +kernel) rfl
set_option maxRecDepth 100000 in theorem tw_688 : Cond.code yX3_readChange cX3_readChange 4 none ∈ LW := LWm (i := 688) rfl rfl
theorem tw_689 : Cond.methodLink RX3 63 yX6_fail ∈ LW := LWm (i := 689) (by decide +kernel) rfl
theorem tw_692 : Cond.methodLink RX3 57 yX6_isAtEnd ∈ LW := LWm (i := 692) (by decide +kernel) rfl
theorem tw_709 : Cond.methodLink RX3 75 yJ9_min_7cf53 ∈ LW := LWm (i := 709) (by decide +kernel) rfl
theorem tw_753 : Cond.instanceMethod yX4_sawFree ∈ LW := LWm (i := 753) (by decide +kernel) rfl
theorem tw_754 : Cond.selects RX4 yX4_sawFree yX4_sawFree ∈ LW := LWm (i := 754) (by decide +kernel) rfl
set_option maxRecDepth 100000 in theorem tw_755 : Cond.code yX4_sawFree cX4_sawFree 2 (some .boolean) ∈ LW := LWm (i := 755) rfl rfl
theorem tw_760 : Cond.methodLink RX0 106 yX4_sawFree ∈ LW := LWm (i := 760) (by decide +kernel) rfl
theorem tw_883 : Cond.methodLink RX4 31 arraycopyName ∈ LW := LWm (i := 883) (by decide +kernel) rfl
theorem tw_936 : Cond.constantLong RX4 37 (1103515245) ∈ LW := LWm (i := 936) (by decide +kernel) rfl
theorem tw_937 : Cond.constantLong RX4 39 (12345) ∈ LW := LWm (i := 937) (by decide +kernel) rfl
theorem tw_938 : Cond.constantLong RX4 41 (2147483647) ∈ LW := LWm (i := 938) (by decide +kernel) rfl
theorem tw_939 : Cond.constant RX4 43 (65536) ∈ LW := LWm (i := 939) (by decide +kernel) rfl

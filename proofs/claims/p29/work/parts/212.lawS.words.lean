theorem tw_342 : Cond.methodLink R_law 15 yX7_feed ∈ LW := LWm2 (i := 24) (by decide +kernel) rfl
theorem tw_343 : Cond.instanceMethod yX7_feed ∈ LW := LWm2 (i := 25) (by decide +kernel) rfl
theorem tw_344 : Cond.selects RX7 yX7_feed yX7_feed ∈ LW := LWm2 (i := 26) (by decide +kernel) rfl
set_option maxRecDepth 100000 in theorem tw_345 : Cond.code yX7_feed cX7_feed 5 (some .int) ∈ LW := LWm2 (i := 27) rfl rfl
theorem tw_350 : Cond.methodLink R_law 20 yX7_street ∈ LW := LWm2 (i := 32) (by decide +kernel) rfl
theorem tw_351 : Cond.instanceMethod yX7_street ∈ LW := LWm2 (i := 33) (by decide +kernel) rfl
theorem tw_352 : Cond.selects RX7 yX7_street yX7_street ∈ LW := LWm2 (i := 34) (by decide +kernel) rfl
set_option maxRecDepth 100000 in theorem tw_353 : Cond.code yX7_street cX7_street 3 (some .int) ∈ LW := LWm2 (i := 35) rfl rfl
theorem tw_581 : Cond.methodLink R_law 25 yX7_fault ∈ LW := LWm3 (i := 23) (by decide +kernel) rfl
theorem tw_582 : Cond.instanceMethod yX7_fault ∈ LW := LWm3 (i := 24) (by decide +kernel) rfl
theorem tw_583 : Cond.selects RX7 yX7_fault yX7_fault ∈ LW := LWm3 (i := 25) (by decide +kernel) rfl
set_option maxRecDepth 100000 in theorem tw_584 : Cond.code yX7_fault cX7_fault 1 (some .int) ∈ LW := LWm3 (i := 26) rfl rfl
theorem tw_585 : Cond.methodLink R_law 30 yX7_told ∈ LW := LWm3 (i := 27) (by decide +kernel) rfl
theorem tw_586 : Cond.instanceMethod yX7_told ∈ LW := LWm3 (i := 28) (by decide +kernel) rfl
theorem tw_587 : Cond.selects RX7 yX7_told yX7_told ∈ LW := LWm3 (i := 29) (by decide +kernel) rfl
set_option maxRecDepth 100000 in theorem tw_588 : Cond.code yX7_told cX7_told 3 (some .int) ∈ LW := LWm3 (i := 30) rfl rfl
theorem tw_596 : Cond.methodLink R_law 35 yX7_door ∈ LW := LWm3 (i := 38) (by decide +kernel) rfl
theorem tw_597 : Cond.instanceMethod yX7_door ∈ LW := LWm3 (i := 39) (by decide +kernel) rfl
theorem tw_598 : Cond.selects RX7 yX7_door yX7_door ∈ LW := LWm3 (i := 40) (by decide +kernel) rfl
set_option maxRecDepth 100000 in theorem tw_599 : Cond.code yX7_door cX7_door 4 (some .int) ∈ LW := LWm3 (i := 41) rfl rfl
theorem tw_604 : Cond.methodLink R_law 40 yX7_chance ∈ LW := LWm3 (i := 46) (by decide +kernel) rfl
theorem tw_605 : Cond.instanceMethod yX7_chance ∈ LW := LWm3 (i := 47) (by decide +kernel) rfl
theorem tw_606 : Cond.selects RX7 yX7_chance yX7_chance ∈ LW := LWm3 (i := 48) (by decide +kernel) rfl
set_option maxRecDepth 100000 in theorem tw_607 : Cond.code yX7_chance cX7_chance 4 (some .int) ∈ LW := LWm3 (i := 49) rfl rfl
theorem tw_609 : Cond.methodLink R_law 45 yX7_taking ∈ LW := LWm3 (i := 51) (by decide +kernel) rfl
theorem tw_610 : Cond.instanceMethod yX7_taking ∈ LW := LWm3 (i := 52) (by decide +kernel) rfl
theorem tw_611 : Cond.selects RX7 yX7_taking yX7_taking ∈ LW := LWm3 (i := 53) (by decide +kernel) rfl
set_option maxRecDepth 100000 in theorem tw_612 : Cond.code yX7_taking cX7_taking 4 (some .int) ∈ LW := LWm3 (i := 54) rfl rfl
theorem tw_618 : Cond.methodLink R_law 49 yX7_worth ∈ LW := LWm3 (i := 60) (by decide +kernel) rfl
theorem tw_619 : Cond.instanceMethod yX7_worth ∈ LW := LWm3 (i := 61) (by decide +kernel) rfl
theorem tw_620 : Cond.selects RX7 yX7_worth yX7_worth ∈ LW := LWm3 (i := 62) (by decide +kernel) rfl
set_option maxRecDepth 100000 in theorem tw_621 : Cond.code yX7_worth cX7_worth 6 (some .int) ∈ LW := LWm3 (i := 63) rfl rfl
theorem tw_628 : Cond.methodLink R_law 54 yX7_goingOn ∈ LW := LWm3 (i := 70) (by decide +kernel) rfl
theorem tw_629 : Cond.instanceMethod yX7_goingOn ∈ LW := LWm3 (i := 71) (by decide +kernel) rfl
theorem tw_630 : Cond.selects RX7 yX7_goingOn yX7_goingOn ∈ LW := LWm3 (i := 72) (by decide +kernel) rfl
set_option maxRecDepth 100000 in theorem tw_631 : Cond.code yX7_goingOn cX7_goingOn 6 (some .int) ∈ LW := LWm3 (i := 73) rfl rfl
theorem tw_633 : Cond.methodLink R_law 58 yX7_takes ∈ LW := LWm3 (i := 75) (by decide +kernel) rfl
theorem tw_634 : Cond.instanceMethod yX7_takes ∈ LW := LWm3 (i := 76) (by decide +kernel) rfl
theorem tw_635 : Cond.selects RX7 yX7_takes yX7_takes ∈ LW := LWm3 (i := 77) (by decide +kernel) rfl
set_option maxRecDepth 100000 in theorem tw_636 : Cond.code yX7_takes cX7_takes 6 (some .int) ∈ LW := LWm3 (i := 78) rfl rfl
theorem tw_641 : Cond.methodLink R_law 62 yX7_start ∈ LW := LWm3 (i := 83) (by decide +kernel) rfl
theorem tw_642 : Cond.instanceMethod yX7_start ∈ LW := LWm3 (i := 84) (by decide +kernel) rfl
theorem tw_643 : Cond.selects RX7 yX7_start yX7_start ∈ LW := LWm3 (i := 85) (by decide +kernel) rfl
set_option maxRecDepth 100000 in theorem tw_644 : Cond.code yX7_start cX7_start 3 (some .int) ∈ LW := LWm3 (i := 86) rfl rfl
theorem tw_645 : Cond.methodLink R_law 66 yX7_end ∈ LW := LWm3 (i := 87) (by decide +kernel) rfl
theorem tw_646 : Cond.instanceMethod yX7_end ∈ LW := LWm3 (i := 88) (by decide +kernel) rfl
theorem tw_647 : Cond.selects RX7 yX7_end yX7_end ∈ LW := LWm3 (i := 89) (by decide +kernel) rfl
set_option maxRecDepth 100000 in theorem tw_648 : Cond.code yX7_end cX7_end 4 (some .int) ∈ LW := LWm3 (i := 90) rfl rfl
theorem tw_650 : Cond.methodLink R_law 70 yX7_bar ∈ LW := LWm3 (i := 92) (by decide +kernel) rfl
theorem tw_651 : Cond.instanceMethod yX7_bar ∈ LW := LWm3 (i := 93) (by decide +kernel) rfl
theorem tw_652 : Cond.selects RX7 yX7_bar yX7_bar ∈ LW := LWm3 (i := 94) (by decide +kernel) rfl
set_option maxRecDepth 100000 in theorem tw_653 : Cond.code yX7_bar cX7_bar 3 (some .int) ∈ LW := LWm3 (i := 95) rfl rfl
theorem tw_667 : Cond.methodLink R_law 74 yX7_which ∈ LW := LWm3 (i := 109) (by decide +kernel) rfl
theorem tw_668 : Cond.instanceMethod yX7_which ∈ LW := LWm3 (i := 110) (by decide +kernel) rfl
theorem tw_669 : Cond.selects RX7 yX7_which yX7_which ∈ LW := LWm3 (i := 111) (by decide +kernel) rfl
set_option maxRecDepth 100000 in theorem tw_670 : Cond.code yX7_which cX7_which 3 (some .int) ∈ LW := LWm3 (i := 112) rfl rfl
theorem tw_671 : Cond.methodLink R_law 78 yX7_rule ∈ LW := LWm3 (i := 113) (by decide +kernel) rfl
theorem tw_672 : Cond.instanceMethod yX7_rule ∈ LW := LWm3 (i := 114) (by decide +kernel) rfl
theorem tw_673 : Cond.selects RX7 yX7_rule yX7_rule ∈ LW := LWm3 (i := 115) (by decide +kernel) rfl
set_option maxRecDepth 100000 in theorem tw_674 : Cond.code yX7_rule cX7_rule 2 (some .int) ∈ LW := LWm3 (i := 116) rfl rfl
theorem tw_693 : Cond.methodLink R_law 82 yX7_mean ∈ LW := LWm3 (i := 135) (by decide +kernel) rfl
theorem tw_694 : Cond.instanceMethod yX7_mean ∈ LW := LWm3 (i := 136) (by decide +kernel) rfl
theorem tw_695 : Cond.selects RX7 yX7_mean yX7_mean ∈ LW := LWm3 (i := 137) (by decide +kernel) rfl
set_option maxRecDepth 100000 in theorem tw_696 : Cond.code yX7_mean cX7_mean 4 (some .int) ∈ LW := LWm3 (i := 138) rfl rfl
theorem tw_736 : Cond.methodLink R_law 86 yX7_saw ∈ LW := LWm3 (i := 178) (by decide +kernel) rfl
theorem tw_737 : Cond.instanceMethod yX7_saw ∈ LW := LWm3 (i := 179) (by decide +kernel) rfl
theorem tw_738 : Cond.selects RX7 yX7_saw yX7_saw ∈ LW := LWm3 (i := 180) (by decide +kernel) rfl
set_option maxRecDepth 100000 in theorem tw_739 : Cond.code yX7_saw cX7_saw 2 (some .int) ∈ LW := LWm3 (i := 181) rfl rfl
theorem tw_744 : Cond.methodLink R_law 91 yX7_clear ∈ LW := LWm3 (i := 186) (by decide +kernel) rfl
theorem tw_745 : Cond.instanceMethod yX7_clear ∈ LW := LWm3 (i := 187) (by decide +kernel) rfl
theorem tw_746 : Cond.selects RX7 yX7_clear yX7_clear ∈ LW := LWm3 (i := 188) (by decide +kernel) rfl
set_option maxRecDepth 100000 in theorem tw_747 : Cond.code yX7_clear cX7_clear 2 (some .int) ∈ LW := LWm3 (i := 189) rfl rfl
theorem tw_748 : Cond.methodLink R_law 95 yX7_judge ∈ LW := LWm3 (i := 190) (by decide +kernel) rfl
theorem tw_749 : Cond.instanceMethod yX7_judge ∈ LW := LWm3 (i := 191) (by decide +kernel) rfl
theorem tw_750 : Cond.selects RX7 yX7_judge yX7_judge ∈ LW := LWm3 (i := 192) (by decide +kernel) rfl
set_option maxRecDepth 100000 in theorem tw_751 : Cond.code yX7_judge cX7_judge 5 (some .int) ∈ LW := LWm3 (i := 193) rfl rfl
theorem tw_761 : Cond.methodLink R_law 99 yX7_thought ∈ LW := LWm3 (i := 203) (by decide +kernel) rfl
theorem tw_762 : Cond.instanceMethod yX7_thought ∈ LW := LWm3 (i := 204) (by decide +kernel) rfl
theorem tw_763 : Cond.selects RX7 yX7_thought yX7_thought ∈ LW := LWm3 (i := 205) (by decide +kernel) rfl
set_option maxRecDepth 100000 in theorem tw_764 : Cond.code yX7_thought cX7_thought 3 (some .int) ∈ LW := LWm3 (i := 206) rfl rfl
theorem tw_780 : Cond.methodLink R_law 103 yX7_waits ∈ LW := LWm3 (i := 222) (by decide +kernel) rfl
theorem tw_781 : Cond.instanceMethod yX7_waits ∈ LW := LWm3 (i := 223) (by decide +kernel) rfl
theorem tw_782 : Cond.selects RX7 yX7_waits yX7_waits ∈ LW := LWm3 (i := 224) (by decide +kernel) rfl
set_option maxRecDepth 100000 in theorem tw_783 : Cond.code yX7_waits cX7_waits 9 (some .int) ∈ LW := LWm3 (i := 225) rfl rfl
theorem tw_788 : Cond.methodLink R_law 108 yX7_boy ∈ LW := LWm3 (i := 230) (by decide +kernel) rfl
theorem tw_789 : Cond.instanceMethod yX7_boy ∈ LW := LWm3 (i := 231) (by decide +kernel) rfl
theorem tw_790 : Cond.selects RX7 yX7_boy yX7_boy ∈ LW := LWm3 (i := 232) (by decide +kernel) rfl
set_option maxRecDepth 100000 in theorem tw_791 : Cond.code yX7_boy cX7_boy 2 (some .int) ∈ LW := LWm3 (i := 233) rfl rfl
theorem tw_796 : Cond.methodLink R_law 112 yX7_car ∈ LW := LWm3 (i := 238) (by decide +kernel) rfl
theorem tw_797 : Cond.instanceMethod yX7_car ∈ LW := LWm3 (i := 239) (by decide +kernel) rfl
theorem tw_798 : Cond.selects RX7 yX7_car yX7_car ∈ LW := LWm4 (i := 0) (by decide +kernel) rfl
set_option maxRecDepth 100000 in theorem tw_799 : Cond.code yX7_car cX7_car 3 (some .int) ∈ LW := LWm4 (i := 1) rfl rfl
theorem tw_805 : Cond.methodLink R_law 116 yX7_steer ∈ LW := LWm4 (i := 7) (by decide +kernel) rfl
theorem tw_806 : Cond.instanceMethod yX7_steer ∈ LW := LWm4 (i := 8) (by decide +kernel) rfl
theorem tw_807 : Cond.selects RX7 yX7_steer yX7_steer ∈ LW := LWm4 (i := 9) (by decide +kernel) rfl
set_option maxRecDepth 100000 in theorem tw_808 : Cond.code yX7_steer cX7_steer 4 (some .int) ∈ LW := LWm4 (i := 10) rfl rfl
theorem tw_813 : Cond.methodLink R_law 120 yX7_parks ∈ LW := LWm4 (i := 15) (by decide +kernel) rfl
theorem tw_814 : Cond.instanceMethod yX7_parks ∈ LW := LWm4 (i := 16) (by decide +kernel) rfl
theorem tw_815 : Cond.selects RX7 yX7_parks yX7_parks ∈ LW := LWm4 (i := 17) (by decide +kernel) rfl
set_option maxRecDepth 100000 in theorem tw_816 : Cond.code yX7_parks cX7_parks 6 (some .int) ∈ LW := LWm4 (i := 18) rfl rfl
theorem tw_846 : Cond.methodLink R_law 124 yX7_rests ∈ LW := LWm4 (i := 48) (by decide +kernel) rfl
theorem tw_847 : Cond.instanceMethod yX7_rests ∈ LW := LWm4 (i := 49) (by decide +kernel) rfl
theorem tw_848 : Cond.selects RX7 yX7_rests yX7_rests ∈ LW := LWm4 (i := 50) (by decide +kernel) rfl
set_option maxRecDepth 100000 in theorem tw_849 : Cond.code yX7_rests cX7_rests 4 (some .int) ∈ LW := LWm4 (i := 51) rfl rfl
theorem tw_867 : Cond.methodLink R_law 128 yX7_turn ∈ LW := LWm4 (i := 69) (by decide +kernel) rfl
theorem tw_868 : Cond.instanceMethod yX7_turn ∈ LW := LWm4 (i := 70) (by decide +kernel) rfl
theorem tw_869 : Cond.selects RX7 yX7_turn yX7_turn ∈ LW := LWm4 (i := 71) (by decide +kernel) rfl
set_option maxRecDepth 100000 in theorem tw_870 : Cond.code yX7_turn cX7_turn 5 (some .int) ∈ LW := LWm4 (i := 72) rfl rfl
theorem tw_884 : Cond.methodLink R_law 132 yX7_allRests ∈ LW := LWm4 (i := 86) (by decide +kernel) rfl
theorem tw_885 : Cond.instanceMethod yX7_allRests ∈ LW := LWm4 (i := 87) (by decide +kernel) rfl
theorem tw_886 : Cond.selects RX7 yX7_allRests yX7_allRests ∈ LW := LWm4 (i := 88) (by decide +kernel) rfl
set_option maxRecDepth 100000 in theorem tw_887 : Cond.code yX7_allRests cX7_allRests 4 (some .int) ∈ LW := LWm4 (i := 89) rfl rfl
theorem tw_893 : Cond.methodLink R_law 136 yX7_lost ∈ LW := LWm4 (i := 95) (by decide +kernel) rfl
theorem tw_894 : Cond.instanceMethod yX7_lost ∈ LW := LWm4 (i := 96) (by decide +kernel) rfl
theorem tw_895 : Cond.selects RX7 yX7_lost yX7_lost ∈ LW := LWm4 (i := 97) (by decide +kernel) rfl
set_option maxRecDepth 100000 in theorem tw_896 : Cond.code yX7_lost cX7_lost 4 (some .int) ∈ LW := LWm4 (i := 98) rfl rfl
theorem tw_910 : Cond.methodLink R_law 140 yX7_mend ∈ LW := LWm4 (i := 112) (by decide +kernel) rfl
theorem tw_911 : Cond.instanceMethod yX7_mend ∈ LW := LWm4 (i := 113) (by decide +kernel) rfl
theorem tw_912 : Cond.selects RX7 yX7_mend yX7_mend ∈ LW := LWm4 (i := 114) (by decide +kernel) rfl
set_option maxRecDepth 100000 in theorem tw_913 : Cond.code yX7_mend cX7_mend 4 (some .int) ∈ LW := LWm4 (i := 115) rfl rfl
theorem tw_920 : Cond.methodLink R_law 144 yX7_seed ∈ LW := LWm4 (i := 122) (by decide +kernel) rfl
theorem tw_921 : Cond.instanceMethod yX7_seed ∈ LW := LWm4 (i := 123) (by decide +kernel) rfl
theorem tw_922 : Cond.selects RX7 yX7_seed yX7_seed ∈ LW := LWm4 (i := 124) (by decide +kernel) rfl
set_option maxRecDepth 100000 in theorem tw_923 : Cond.code yX7_seed cX7_seed 3 (some .int) ∈ LW := LWm4 (i := 125) rfl rfl
theorem tw_924 : Cond.methodLink R_law 148 yX7_evening ∈ LW := LWm4 (i := 126) (by decide +kernel) rfl
theorem tw_925 : Cond.instanceMethod yX7_evening ∈ LW := LWm4 (i := 127) (by decide +kernel) rfl
theorem tw_926 : Cond.selects RX7 yX7_evening yX7_evening ∈ LW := LWm4 (i := 128) (by decide +kernel) rfl
set_option maxRecDepth 100000 in theorem tw_927 : Cond.code yX7_evening cX7_evening 7 (some .int) ∈ LW := LWm4 (i := 129) rfl rfl
theorem tw_941 : Cond.methodLink R_law 152 yX7_count ∈ LW := LWm4 (i := 143) (by decide +kernel) rfl
theorem tw_942 : Cond.instanceMethod yX7_count ∈ LW := LWm4 (i := 144) (by decide +kernel) rfl
theorem tw_943 : Cond.selects RX7 yX7_count yX7_count ∈ LW := LWm4 (i := 145) (by decide +kernel) rfl
set_option maxRecDepth 100000 in theorem tw_944 : Cond.code yX7_count cX7_count 2 (some .int) ∈ LW := LWm4 (i := 146) rfl rfl
theorem tw_951 : Cond.methodLink R_law 156 yX7_keep ∈ LW := LWm4 (i := 153) (by decide +kernel) rfl
theorem tw_952 : Cond.instanceMethod yX7_keep ∈ LW := LWm4 (i := 154) (by decide +kernel) rfl
theorem tw_953 : Cond.selects RX7 yX7_keep yX7_keep ∈ LW := LWm4 (i := 155) (by decide +kernel) rfl
set_option maxRecDepth 100000 in theorem tw_954 : Cond.code yX7_keep cX7_keep 2 (some .int) ∈ LW := LWm4 (i := 156) rfl rfl
theorem tw_959 : Cond.methodLink R_law 160 yX7_goBack ∈ LW := LWm4 (i := 161) (by decide +kernel) rfl
theorem tw_960 : Cond.instanceMethod yX7_goBack ∈ LW := LWm4 (i := 162) (by decide +kernel) rfl
theorem tw_961 : Cond.selects RX7 yX7_goBack yX7_goBack ∈ LW := LWm4 (i := 163) (by decide +kernel) rfl
set_option maxRecDepth 100000 in theorem tw_962 : Cond.code yX7_goBack cX7_goBack 2 (some .int) ∈ LW := LWm4 (i := 164) rfl rfl
theorem tw_1106 : Cond.methodLink R_law 19 yX8_feed ∈ LW := LWm5 (i := 68) (by decide +kernel) rfl
theorem tw_1107 : Cond.instanceMethod yX8_feed ∈ LW := LWm5 (i := 69) (by decide +kernel) rfl
theorem tw_1108 : Cond.selects RX8 yX8_feed yX8_feed ∈ LW := LWm5 (i := 70) (by decide +kernel) rfl
set_option maxRecDepth 100000 in theorem tw_1109 : Cond.code yX8_feed cX8_feed 5 (some .int) ∈ LW := LWm5 (i := 71) rfl rfl
theorem tw_1115 : Cond.methodLink R_law 24 yX8_street ∈ LW := LWm5 (i := 77) (by decide +kernel) rfl
theorem tw_1116 : Cond.instanceMethod yX8_street ∈ LW := LWm5 (i := 78) (by decide +kernel) rfl
theorem tw_1117 : Cond.selects RX8 yX8_street yX8_street ∈ LW := LWm5 (i := 79) (by decide +kernel) rfl
set_option maxRecDepth 100000 in theorem tw_1118 : Cond.code yX8_street cX8_street 4 (some .int) ∈ LW := LWm5 (i := 80) rfl rfl
theorem tw_1181 : Cond.methodLink R_law 29 yX8_fault ∈ LW := LWm5 (i := 143) (by decide +kernel) rfl
theorem tw_1182 : Cond.instanceMethod yX8_fault ∈ LW := LWm5 (i := 144) (by decide +kernel) rfl
theorem tw_1183 : Cond.selects RX8 yX8_fault yX8_fault ∈ LW := LWm5 (i := 145) (by decide +kernel) rfl
set_option maxRecDepth 100000 in theorem tw_1184 : Cond.code yX8_fault cX8_fault 1 (some .int) ∈ LW := LWm5 (i := 146) rfl rfl
theorem tw_1185 : Cond.methodLink R_law 34 yX8_told ∈ LW := LWm5 (i := 147) (by decide +kernel) rfl
theorem tw_1186 : Cond.instanceMethod yX8_told ∈ LW := LWm5 (i := 148) (by decide +kernel) rfl
theorem tw_1187 : Cond.selects RX8 yX8_told yX8_told ∈ LW := LWm5 (i := 149) (by decide +kernel) rfl
set_option maxRecDepth 100000 in theorem tw_1188 : Cond.code yX8_told cX8_told 3 (some .int) ∈ LW := LWm5 (i := 150) rfl rfl
theorem tw_1198 : Cond.methodLink R_law 39 yX8_door ∈ LW := LWm5 (i := 160) (by decide +kernel) rfl
theorem tw_1199 : Cond.instanceMethod yX8_door ∈ LW := LWm5 (i := 161) (by decide +kernel) rfl
theorem tw_1200 : Cond.selects RX8 yX8_door yX8_door ∈ LW := LWm5 (i := 162) (by decide +kernel) rfl
set_option maxRecDepth 100000 in theorem tw_1201 : Cond.code yX8_door cX8_door 4 (some .int) ∈ LW := LWm5 (i := 163) rfl rfl
theorem tw_1206 : Cond.methodLink R_law 44 yX8_chance ∈ LW := LWm5 (i := 168) (by decide +kernel) rfl
theorem tw_1207 : Cond.instanceMethod yX8_chance ∈ LW := LWm5 (i := 169) (by decide +kernel) rfl
theorem tw_1208 : Cond.selects RX8 yX8_chance yX8_chance ∈ LW := LWm5 (i := 170) (by decide +kernel) rfl
set_option maxRecDepth 100000 in theorem tw_1209 : Cond.code yX8_chance cX8_chance 4 (some .int) ∈ LW := LWm5 (i := 171) rfl rfl
theorem tw_1214 : Cond.methodLink R_law 48 yX8_taking ∈ LW := LWm5 (i := 176) (by decide +kernel) rfl
theorem tw_1215 : Cond.instanceMethod yX8_taking ∈ LW := LWm5 (i := 177) (by decide +kernel) rfl
theorem tw_1216 : Cond.selects RX8 yX8_taking yX8_taking ∈ LW := LWm5 (i := 178) (by decide +kernel) rfl
set_option maxRecDepth 100000 in theorem tw_1217 : Cond.code yX8_taking cX8_taking 4 (some .int) ∈ LW := LWm5 (i := 179) rfl rfl
theorem tw_1238 : Cond.methodLink R_law 53 yX8_worth ∈ LW := LWm5 (i := 200) (by decide +kernel) rfl
theorem tw_1239 : Cond.instanceMethod yX8_worth ∈ LW := LWm5 (i := 201) (by decide +kernel) rfl
theorem tw_1240 : Cond.selects RX8 yX8_worth yX8_worth ∈ LW := LWm5 (i := 202) (by decide +kernel) rfl
set_option maxRecDepth 100000 in theorem tw_1241 : Cond.code yX8_worth cX8_worth 5 (some .int) ∈ LW := LWm5 (i := 203) rfl rfl
theorem tw_1277 : Cond.methodLink R_law 57 yX8_goingOn ∈ LW := LWm5 (i := 239) (by decide +kernel) rfl
theorem tw_1278 : Cond.instanceMethod yX8_goingOn ∈ LW := LWm6 (i := 0) (by decide +kernel) rfl
theorem tw_1279 : Cond.selects RX8 yX8_goingOn yX8_goingOn ∈ LW := LWm6 (i := 1) (by decide +kernel) rfl
set_option maxRecDepth 100000 in theorem tw_1280 : Cond.code yX8_goingOn cX8_goingOn 5 (some .int) ∈ LW := LWm6 (i := 2) rfl rfl
theorem tw_1281 : Cond.methodLink R_law 61 yX8_takes ∈ LW := LWm6 (i := 3) (by decide +kernel) rfl
theorem tw_1282 : Cond.instanceMethod yX8_takes ∈ LW := LWm6 (i := 4) (by decide +kernel) rfl
theorem tw_1283 : Cond.selects RX8 yX8_takes yX8_takes ∈ LW := LWm6 (i := 5) (by decide +kernel) rfl
set_option maxRecDepth 100000 in theorem tw_1284 : Cond.code yX8_takes cX8_takes 5 (some .int) ∈ LW := LWm6 (i := 6) rfl rfl
theorem tw_1289 : Cond.methodLink R_law 65 yX8_start ∈ LW := LWm6 (i := 11) (by decide +kernel) rfl
theorem tw_1290 : Cond.instanceMethod yX8_start ∈ LW := LWm6 (i := 12) (by decide +kernel) rfl
theorem tw_1291 : Cond.selects RX8 yX8_start yX8_start ∈ LW := LWm6 (i := 13) (by decide +kernel) rfl
set_option maxRecDepth 100000 in theorem tw_1292 : Cond.code yX8_start cX8_start 3 (some .int) ∈ LW := LWm6 (i := 14) rfl rfl
theorem tw_1293 : Cond.methodLink R_law 69 yX8_end ∈ LW := LWm6 (i := 15) (by decide +kernel) rfl
theorem tw_1294 : Cond.instanceMethod yX8_end ∈ LW := LWm6 (i := 16) (by decide +kernel) rfl
theorem tw_1295 : Cond.selects RX8 yX8_end yX8_end ∈ LW := LWm6 (i := 17) (by decide +kernel) rfl
set_option maxRecDepth 100000 in theorem tw_1296 : Cond.code yX8_end cX8_end 4 (some .int) ∈ LW := LWm6 (i := 18) rfl rfl
theorem tw_1297 : Cond.methodLink R_law 73 yX8_bar ∈ LW := LWm6 (i := 19) (by decide +kernel) rfl
theorem tw_1298 : Cond.instanceMethod yX8_bar ∈ LW := LWm6 (i := 20) (by decide +kernel) rfl
theorem tw_1299 : Cond.selects RX8 yX8_bar yX8_bar ∈ LW := LWm6 (i := 21) (by decide +kernel) rfl
set_option maxRecDepth 100000 in theorem tw_1300 : Cond.code yX8_bar cX8_bar 8 (some .int) ∈ LW := LWm6 (i := 22) rfl rfl
theorem tw_1301 : Cond.methodLink R_law 77 yX8_which ∈ LW := LWm6 (i := 23) (by decide +kernel) rfl
theorem tw_1302 : Cond.instanceMethod yX8_which ∈ LW := LWm6 (i := 24) (by decide +kernel) rfl
theorem tw_1303 : Cond.selects RX8 yX8_which yX8_which ∈ LW := LWm6 (i := 25) (by decide +kernel) rfl
set_option maxRecDepth 100000 in theorem tw_1304 : Cond.code yX8_which cX8_which 4 (some .int) ∈ LW := LWm6 (i := 26) rfl rfl
theorem tw_1305 : Cond.methodLink R_law 81 yX8_rule ∈ LW := LWm6 (i := 27) (by decide +kernel) rfl
theorem tw_1306 : Cond.instanceMethod yX8_rule ∈ LW := LWm6 (i := 28) (by decide +kernel) rfl
theorem tw_1307 : Cond.selects RX8 yX8_rule yX8_rule ∈ LW := LWm6 (i := 29) (by decide +kernel) rfl
set_option maxRecDepth 100000 in theorem tw_1308 : Cond.code yX8_rule cX8_rule 2 (some .int) ∈ LW := LWm6 (i := 30) rfl rfl
theorem tw_1317 : Cond.methodLink R_law 85 yX8_mean ∈ LW := LWm6 (i := 39) (by decide +kernel) rfl
theorem tw_1318 : Cond.instanceMethod yX8_mean ∈ LW := LWm6 (i := 40) (by decide +kernel) rfl
theorem tw_1319 : Cond.selects RX8 yX8_mean yX8_mean ∈ LW := LWm6 (i := 41) (by decide +kernel) rfl
set_option maxRecDepth 100000 in theorem tw_1320 : Cond.code yX8_mean cX8_mean 4 (some .int) ∈ LW := LWm6 (i := 42) rfl rfl
theorem tw_1346 : Cond.methodLink R_law 90 yX8_saw ∈ LW := LWm6 (i := 68) (by decide +kernel) rfl
theorem tw_1347 : Cond.instanceMethod yX8_saw ∈ LW := LWm6 (i := 69) (by decide +kernel) rfl
theorem tw_1348 : Cond.selects RX8 yX8_saw yX8_saw ∈ LW := LWm6 (i := 70) (by decide +kernel) rfl
set_option maxRecDepth 100000 in theorem tw_1349 : Cond.code yX8_saw cX8_saw 2 (some .int) ∈ LW := LWm6 (i := 71) rfl rfl
theorem tw_1350 : Cond.methodLink R_law 94 yX8_clear ∈ LW := LWm6 (i := 72) (by decide +kernel) rfl
theorem tw_1351 : Cond.instanceMethod yX8_clear ∈ LW := LWm6 (i := 73) (by decide +kernel) rfl
theorem tw_1352 : Cond.selects RX8 yX8_clear yX8_clear ∈ LW := LWm6 (i := 74) (by decide +kernel) rfl
set_option maxRecDepth 100000 in theorem tw_1353 : Cond.code yX8_clear cX8_clear 2 (some .int) ∈ LW := LWm6 (i := 75) rfl rfl
theorem tw_1354 : Cond.methodLink R_law 98 yX8_judge ∈ LW := LWm6 (i := 76) (by decide +kernel) rfl
theorem tw_1355 : Cond.instanceMethod yX8_judge ∈ LW := LWm6 (i := 77) (by decide +kernel) rfl
theorem tw_1356 : Cond.selects RX8 yX8_judge yX8_judge ∈ LW := LWm6 (i := 78) (by decide +kernel) rfl
set_option maxRecDepth 100000 in theorem tw_1357 : Cond.code yX8_judge cX8_judge 7 (some .int) ∈ LW := LWm6 (i := 79) rfl rfl
theorem tw_1358 : Cond.methodLink R_law 102 yX8_thought ∈ LW := LWm6 (i := 80) (by decide +kernel) rfl
theorem tw_1359 : Cond.instanceMethod yX8_thought ∈ LW := LWm6 (i := 81) (by decide +kernel) rfl
theorem tw_1360 : Cond.selects RX8 yX8_thought yX8_thought ∈ LW := LWm6 (i := 82) (by decide +kernel) rfl
set_option maxRecDepth 100000 in theorem tw_1361 : Cond.code yX8_thought cX8_thought 13 (some .int) ∈ LW := LWm6 (i := 83) rfl rfl
theorem tw_1364 : Cond.methodLink R_law 107 yX8_waits ∈ LW := LWm6 (i := 86) (by decide +kernel) rfl
theorem tw_1365 : Cond.instanceMethod yX8_waits ∈ LW := LWm6 (i := 87) (by decide +kernel) rfl
theorem tw_1366 : Cond.selects RX8 yX8_waits yX8_waits ∈ LW := LWm6 (i := 88) (by decide +kernel) rfl
set_option maxRecDepth 100000 in theorem tw_1367 : Cond.code yX8_waits cX8_waits 12 (some .int) ∈ LW := LWm6 (i := 89) rfl rfl
theorem tw_1369 : Cond.methodLink R_law 111 yX8_boy ∈ LW := LWm6 (i := 91) (by decide +kernel) rfl
theorem tw_1370 : Cond.instanceMethod yX8_boy ∈ LW := LWm6 (i := 92) (by decide +kernel) rfl
theorem tw_1371 : Cond.selects RX8 yX8_boy yX8_boy ∈ LW := LWm6 (i := 93) (by decide +kernel) rfl
set_option maxRecDepth 100000 in theorem tw_1372 : Cond.code yX8_boy cX8_boy 8 (some .int) ∈ LW := LWm6 (i := 94) rfl rfl
theorem tw_1373 : Cond.methodLink R_law 115 yX8_car ∈ LW := LWm6 (i := 95) (by decide +kernel) rfl
theorem tw_1374 : Cond.instanceMethod yX8_car ∈ LW := LWm6 (i := 96) (by decide +kernel) rfl
theorem tw_1375 : Cond.selects RX8 yX8_car yX8_car ∈ LW := LWm6 (i := 97) (by decide +kernel) rfl
set_option maxRecDepth 100000 in theorem tw_1376 : Cond.code yX8_car cX8_car 3 (some .int) ∈ LW := LWm6 (i := 98) rfl rfl
theorem tw_1378 : Cond.methodLink R_law 119 yX8_steer ∈ LW := LWm6 (i := 100) (by decide +kernel) rfl
theorem tw_1379 : Cond.instanceMethod yX8_steer ∈ LW := LWm6 (i := 101) (by decide +kernel) rfl
theorem tw_1380 : Cond.selects RX8 yX8_steer yX8_steer ∈ LW := LWm6 (i := 102) (by decide +kernel) rfl
set_option maxRecDepth 100000 in theorem tw_1381 : Cond.code yX8_steer cX8_steer 4 (some .int) ∈ LW := LWm6 (i := 103) rfl rfl
theorem tw_1386 : Cond.methodLink R_law 123 yX8_parks ∈ LW := LWm6 (i := 108) (by decide +kernel) rfl
theorem tw_1387 : Cond.instanceMethod yX8_parks ∈ LW := LWm6 (i := 109) (by decide +kernel) rfl
theorem tw_1388 : Cond.selects RX8 yX8_parks yX8_parks ∈ LW := LWm6 (i := 110) (by decide +kernel) rfl
set_option maxRecDepth 100000 in theorem tw_1389 : Cond.code yX8_parks cX8_parks 6 (some .int) ∈ LW := LWm6 (i := 111) rfl rfl
theorem tw_1406 : Cond.methodLink R_law 127 yX8_rests ∈ LW := LWm6 (i := 128) (by decide +kernel) rfl
theorem tw_1407 : Cond.instanceMethod yX8_rests ∈ LW := LWm6 (i := 129) (by decide +kernel) rfl
theorem tw_1408 : Cond.selects RX8 yX8_rests yX8_rests ∈ LW := LWm6 (i := 130) (by decide +kernel) rfl
set_option maxRecDepth 100000 in theorem tw_1409 : Cond.code yX8_rests cX8_rests 3 (some .int) ∈ LW := LWm6 (i := 131) rfl rfl
theorem tw_1418 : Cond.methodLink R_law 131 yX8_turn ∈ LW := LWm6 (i := 140) (by decide +kernel) rfl
theorem tw_1419 : Cond.instanceMethod yX8_turn ∈ LW := LWm6 (i := 141) (by decide +kernel) rfl
theorem tw_1420 : Cond.selects RX8 yX8_turn yX8_turn ∈ LW := LWm6 (i := 142) (by decide +kernel) rfl
set_option maxRecDepth 100000 in theorem tw_1421 : Cond.code yX8_turn cX8_turn 3 (some .int) ∈ LW := LWm6 (i := 143) rfl rfl
theorem tw_1426 : Cond.methodLink R_law 135 yX8_allRests ∈ LW := LWm6 (i := 148) (by decide +kernel) rfl
theorem tw_1427 : Cond.instanceMethod yX8_allRests ∈ LW := LWm6 (i := 149) (by decide +kernel) rfl
theorem tw_1428 : Cond.selects RX8 yX8_allRests yX8_allRests ∈ LW := LWm6 (i := 150) (by decide +kernel) rfl
set_option maxRecDepth 100000 in theorem tw_1429 : Cond.code yX8_allRests cX8_allRests 7 (some .int) ∈ LW := LWm6 (i := 151) rfl rfl
theorem tw_1438 : Cond.methodLink R_law 139 yX8_lost ∈ LW := LWm6 (i := 160) (by decide +kernel) rfl
theorem tw_1439 : Cond.instanceMethod yX8_lost ∈ LW := LWm6 (i := 161) (by decide +kernel) rfl
theorem tw_1440 : Cond.selects RX8 yX8_lost yX8_lost ∈ LW := LWm6 (i := 162) (by decide +kernel) rfl
set_option maxRecDepth 100000 in theorem tw_1441 : Cond.code yX8_lost cX8_lost 3 (some .int) ∈ LW := LWm6 (i := 163) rfl rfl
theorem tw_1463 : Cond.methodLink R_law 143 yX8_mend ∈ LW := LWm6 (i := 185) (by decide +kernel) rfl
theorem tw_1464 : Cond.instanceMethod yX8_mend ∈ LW := LWm6 (i := 186) (by decide +kernel) rfl
theorem tw_1465 : Cond.selects RX8 yX8_mend yX8_mend ∈ LW := LWm6 (i := 187) (by decide +kernel) rfl
set_option maxRecDepth 100000 in theorem tw_1466 : Cond.code yX8_mend cX8_mend 9 (some .int) ∈ LW := LWm6 (i := 188) rfl rfl
theorem tw_1467 : Cond.methodLink R_law 147 yX8_seed ∈ LW := LWm6 (i := 189) (by decide +kernel) rfl
theorem tw_1468 : Cond.instanceMethod yX8_seed ∈ LW := LWm6 (i := 190) (by decide +kernel) rfl
theorem tw_1469 : Cond.selects RX8 yX8_seed yX8_seed ∈ LW := LWm6 (i := 191) (by decide +kernel) rfl
set_option maxRecDepth 100000 in theorem tw_1470 : Cond.code yX8_seed cX8_seed 3 (some .int) ∈ LW := LWm6 (i := 192) rfl rfl
theorem tw_1471 : Cond.methodLink R_law 151 yX8_evening ∈ LW := LWm6 (i := 193) (by decide +kernel) rfl
theorem tw_1472 : Cond.instanceMethod yX8_evening ∈ LW := LWm6 (i := 194) (by decide +kernel) rfl
theorem tw_1473 : Cond.selects RX8 yX8_evening yX8_evening ∈ LW := LWm6 (i := 195) (by decide +kernel) rfl
set_option maxRecDepth 100000 in theorem tw_1474 : Cond.code yX8_evening cX8_evening 7 (some .int) ∈ LW := LWm6 (i := 196) rfl rfl
theorem tw_1489 : Cond.methodLink R_law 155 yX8_count ∈ LW := LWm6 (i := 211) (by decide +kernel) rfl
theorem tw_1490 : Cond.instanceMethod yX8_count ∈ LW := LWm6 (i := 212) (by decide +kernel) rfl
theorem tw_1491 : Cond.selects RX8 yX8_count yX8_count ∈ LW := LWm6 (i := 213) (by decide +kernel) rfl
set_option maxRecDepth 100000 in theorem tw_1492 : Cond.code yX8_count cX8_count 4 (some .int) ∈ LW := LWm6 (i := 214) rfl rfl
theorem tw_1493 : Cond.methodLink R_law 159 yX8_keep ∈ LW := LWm6 (i := 215) (by decide +kernel) rfl
theorem tw_1494 : Cond.instanceMethod yX8_keep ∈ LW := LWm6 (i := 216) (by decide +kernel) rfl
theorem tw_1495 : Cond.selects RX8 yX8_keep yX8_keep ∈ LW := LWm6 (i := 217) (by decide +kernel) rfl
set_option maxRecDepth 100000 in theorem tw_1496 : Cond.code yX8_keep cX8_keep 4 (some .int) ∈ LW := LWm6 (i := 218) rfl rfl
theorem tw_1497 : Cond.methodLink R_law 163 yX8_goBack ∈ LW := LWm6 (i := 219) (by decide +kernel) rfl
theorem tw_1498 : Cond.instanceMethod yX8_goBack ∈ LW := LWm6 (i := 220) (by decide +kernel) rfl
theorem tw_1499 : Cond.selects RX8 yX8_goBack yX8_goBack ∈ LW := LWm6 (i := 221) (by decide +kernel) rfl
set_option maxRecDepth 100000 in theorem tw_1500 : Cond.code yX8_goBack cX8_goBack 4 (some .int) ∈ LW := LWm6 (i := 222) rfl rfl
theorem tw_1501 : Cond.constantLong R_law 13 (4294967295) ∈ LW := LWm6 (i := 223) (by decide +kernel) rfl

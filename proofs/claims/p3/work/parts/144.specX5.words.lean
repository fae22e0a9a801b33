theorem tw_16 : Cond.selects RX2 yX2_meanOfRound yX2_meanOfRound ∈ LW := LWm (i := 16) (by decide +kernel) rfl
theorem tw_83 : Cond.initialized RX2 ∈ LW := LWm (i := 83) (by decide +kernel) rfl
theorem tw_182 : Cond.fieldLink RX2 84 "LastPlace$Scene" "rowSize" "I" ∈ LW := LWm (i := 182) (by decide +kernel) rfl
theorem tw_210 : Cond.fieldLink RX2 9 "LastPlace$Reckoner" "afterFree" "[I" ∈ LW := LWm (i := 210) (by decide +kernel) rfl
theorem tw_211 : Cond.fieldLink RX2 15 "LastPlace$Reckoner" "afterTaken" "[I" ∈ LW := LWm (i := 211) (by decide +kernel) rfl
theorem tw_212 : Cond.fieldLink RX2 18 "LastPlace$Reckoner" "least" "[I" ∈ LW := LWm (i := 212) (by decide +kernel) rfl
theorem tw_213 : Cond.fieldLink RX2 21 "LastPlace$Reckoner" "waitTicks" "I" ∈ LW := LWm (i := 213) (by decide +kernel) rfl
theorem tw_215 : Cond.fieldLink RX2 25 "LastPlace$Reckoner" "waitCost" "I" ∈ LW := LWm (i := 215) (by decide +kernel) rfl
theorem tw_705 : Cond.methodLink RX2 28 yX3_roundsIn ∈ LW := LWm (i := 705) (by decide +kernel) rfl
theorem tw_706 : Cond.instanceMethod yX3_roundsIn ∈ LW := LWm (i := 706) (by decide +kernel) rfl
theorem tw_707 : Cond.selects RX3 yX3_roundsIn yX3_roundsIn ∈ LW := LWm (i := 707) (by decide +kernel) rfl
set_option maxRecDepth 100000 in theorem tw_708 : Cond.code yX3_roundsIn cX3_roundsIn 2 (some .int) ∈ LW := LWm (i := 708) rfl rfl
theorem tw_710 : Cond.methodLink RX2 34 yX2_garageShare ∈ LW := LWm (i := 710) (by decide +kernel) rfl
theorem tw_711 : Cond.static yX2_garageShare ∈ LW := LWm (i := 711) (by decide +kernel) rfl
set_option maxRecDepth 100000 in theorem tw_712 : Cond.code yX2_garageShare cX2_garageShare 3 (some .int) ∈ LW := LWm (i := 712) rfl rfl
theorem tw_713 : Cond.methodLink RX2 48 yX5_garageOf ∈ LW := LWm (i := 713) (by decide +kernel) rfl
theorem tw_714 : Cond.methodLink RX2 52 yX5_isLateIn ∈ LW := LWm (i := 714) (by decide +kernel) rfl
theorem tw_715 : Cond.instanceMethod yX5_isLateIn ∈ LW := LWm (i := 715) (by decide +kernel) rfl
theorem tw_716 : Cond.selects RX5 yX5_isLateIn yX5_isLateIn ∈ LW := LWm (i := 716) (by decide +kernel) rfl
set_option maxRecDepth 100000 in theorem tw_717 : Cond.code yX5_isLateIn cX5_isLateIn 2 (some .boolean) ∈ LW := LWm (i := 717) rfl rfl
theorem tw_718 : Cond.constant RX2 56 (1000000) ∈ LW := LWm (i := 718) (by decide +kernel) rfl
theorem tw_719 : Cond.methodLink RX2 38 yX2_meanOfRound ∈ LW := LWm (i := 719) (by decide +kernel) rfl
theorem tw_721 : Cond.instanceMethod yX2_meanOfRound ∈ LW := LWm (i := 721) (by decide +kernel) rfl
set_option maxRecDepth 100000 in theorem tw_722 : Cond.code yX2_meanOfRound cX2_meanOfRound 13 (some .int) ∈ LW := LWm (i := 722) rfl rfl
theorem tw_723 : Cond.methodLink RX2 61 yX5_doors ∈ LW := LWm (i := 723) (by decide +kernel) rfl
theorem tw_724 : Cond.methodLink RX2 64 yX5_passing ∈ LW := LWm (i := 724) (by decide +kernel) rfl
theorem tw_725 : Cond.methodLink RX2 67 yX2_doorShare ∈ LW := LWm (i := 725) (by decide +kernel) rfl
theorem tw_726 : Cond.static yX2_doorShare ∈ LW := LWm (i := 726) (by decide +kernel) rfl
set_option maxRecDepth 100000 in theorem tw_727 : Cond.code yX2_doorShare cX2_doorShare 4 (some .int) ∈ LW := LWm (i := 727) rfl rfl
theorem tw_728 : Cond.methodLink RX2 57 yX5_takingOf ∈ LW := LWm (i := 728) (by decide +kernel) rfl
theorem tw_729 : Cond.methodLink RX2 71 yX3_barAfter ∈ LW := LWm (i := 729) (by decide +kernel) rfl
theorem tw_730 : Cond.instanceMethod yX3_barAfter ∈ LW := LWm (i := 730) (by decide +kernel) rfl
theorem tw_731 : Cond.selects RX3 yX3_barAfter yX3_barAfter ∈ LW := LWm (i := 731) (by decide +kernel) rfl
set_option maxRecDepth 100000 in theorem tw_732 : Cond.code yX3_barAfter cX3_barAfter 3 (some .int) ∈ LW := LWm (i := 732) rfl rfl
theorem tw_733 : Cond.methodLink RX2 74 yX5_chanceOf ∈ LW := LWm (i := 733) (by decide +kernel) rfl
theorem tw_735 : Cond.methodLink RX2 42 yX5_roundDrive ∈ LW := LWm (i := 735) (by decide +kernel) rfl
theorem tw_769 : Cond.constantLong RX2 82 (500000) ∈ LW := LWm (i := 769) (by decide +kernel) rfl
theorem tw_770 : Cond.methodLink RX2 89 yJ9_min_7cf53 ∈ LW := LWm (i := 770) (by decide +kernel) rfl
theorem tw_771 : Cond.methodLink RX2 94 yX4_sawFree ∈ LW := LWm (i := 771) (by decide +kernel) rfl
theorem tw_772 : Cond.methodLink RX2 97 yX2_likelihood ∈ LW := LWm (i := 772) (by decide +kernel) rfl
theorem tw_773 : Cond.static yX2_likelihood ∈ LW := LWm (i := 773) (by decide +kernel) rfl
set_option maxRecDepth 100000 in theorem tw_774 : Cond.code yX2_likelihood cX2_likelihood 5 (some .int) ∈ LW := LWm (i := 774) rfl rfl
theorem tw_775 : Cond.constantLong RX2 101 (100) ∈ LW := LWm (i := 775) (by decide +kernel) rfl
theorem tw_776 : Cond.methodLink RX2 103 yJ9_max_f86c9 ∈ LW := LWm (i := 776) (by decide +kernel) rfl
theorem tw_777 : Cond.static yJ9_max_f86c9 ∈ LW := LWm (i := 777) (by decide +kernel) rfl
set_option maxRecDepth 100000 in theorem tw_778 : Cond.code yJ9_max_f86c9 cJ9_max_f86c9 4 (some .long) ∈ LW := LWm (i := 778) rfl rfl
theorem tw_779 : Cond.constantLong RX2 107 (1000000) ∈ LW := LWm (i := 779) (by decide +kernel) rfl
theorem tw_932 : Cond.methodLink RX2 109 yX4_draw ∈ LW := LWm (i := 932) (by decide +kernel) rfl
theorem tw_933 : Cond.instanceMethod yX4_draw ∈ LW := LWm (i := 933) (by decide +kernel) rfl
theorem tw_934 : Cond.selects RX4 yX4_draw yX4_draw ∈ LW := LWm (i := 934) (by decide +kernel) rfl
set_option maxRecDepth 100000 in theorem tw_935 : Cond.code yX4_draw cX4_draw 1 (some .int) ∈ LW := LWm (i := 935) rfl rfl

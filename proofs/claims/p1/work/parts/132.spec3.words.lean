theorem tw_8 : Cond.selects RX7 yX7_isStreet yX7_isStreet ∈ LW := LWm (i := 8) (by decide +kernel) rfl
theorem tw_9 : Cond.selects RX7 yX7_isDoor yX7_isDoor ∈ LW := LWm (i := 9) (by decide +kernel) rfl
theorem tw_11 : Cond.selects RX7 yX7_refuseSight yX7_refuseSight ∈ LW := LWm (i := 11) (by decide +kernel) rfl
theorem tw_17 : Cond.selects RX7 yX7_isCar yX7_isCar ∈ LW := LWm (i := 17) (by decide +kernel) rfl
theorem tw_21 : Cond.selects RX7 yX7_refuseSet yX7_refuseSet ∈ LW := LWm (i := 21) (by decide +kernel) rfl
theorem tw_79 : Cond.initialized RX7 ∈ LW := LWm (i := 79) (by decide +kernel) rfl
theorem tw_180 : Cond.fieldLink RX7 214 "LastPlace$Scene" "carCount" "I" ∈ LW := LWm (i := 180) (by decide +kernel) rfl
theorem tw_306 : Cond.fieldLink RX7 18 "LastPlace" "streets" "[LLastPlace$Street;" ∈ LW := LWm (i := 306) (by decide +kernel) rfl
theorem tw_311 : Cond.fieldLink RX7 43 "LastPlace" "latestFault" "I" ∈ LW := LWm (i := 311) (by decide +kernel) rfl
theorem tw_312 : Cond.fieldLink RX7 49 "LastPlace" "now" "LLastPlace$Scene;" ∈ LW := LWm (i := 312) (by decide +kernel) rfl
theorem tw_580 : Cond.methodLink RX7 105 yX5_doors ∈ LW := LWm (i := 580) (by decide +kernel) rfl
theorem tw_589 : Cond.methodLink RX7 108 yX7_isStreet ∈ LW := LWm (i := 589) (by decide +kernel) rfl
theorem tw_591 : Cond.instanceMethod yX7_isStreet ∈ LW := LWm (i := 591) (by decide +kernel) rfl
theorem tw_592 : Cond.code yX7_isStreet cX7_isStreet 2 (some .boolean) ∈ LW := LWm (i := 592) (by decide +kernel) rfl
theorem tw_600 : Cond.methodLink RX7 120 yX7_isDoor ∈ LW := LWm (i := 600) (by decide +kernel) rfl
theorem tw_602 : Cond.instanceMethod yX7_isDoor ∈ LW := LWm (i := 602) (by decide +kernel) rfl
theorem tw_603 : Cond.code yX7_isDoor cX7_isDoor 3 (some .boolean) ∈ LW := LWm (i := 603) (by decide +kernel) rfl
theorem tw_622 : Cond.methodLink RX7 141 yX7_refuseSight ∈ LW := LWm (i := 622) (by decide +kernel) rfl
theorem tw_624 : Cond.instanceMethod yX7_refuseSight ∈ LW := LWm (i := 624) (by decide +kernel) rfl
theorem tw_625 : Cond.code yX7_refuseSight cX7_refuseSight 6 (some .int) ∈ LW := LWm (i := 625) (by decide +kernel) rfl
theorem tw_809 : Cond.methodLink RX7 220 yX7_isCar ∈ LW := LWm (i := 809) (by decide +kernel) rfl
theorem tw_811 : Cond.instanceMethod yX7_isCar ∈ LW := LWm (i := 811) (by decide +kernel) rfl
theorem tw_812 : Cond.code yX7_isCar cX7_isCar 2 (some .boolean) ∈ LW := LWm (i := 812) (by decide +kernel) rfl
theorem tw_850 : Cond.methodLink RX7 239 yX7_refuseSet ∈ LW := LWm (i := 850) (by decide +kernel) rfl
theorem tw_852 : Cond.instanceMethod yX7_refuseSet ∈ LW := LWm (i := 852) (by decide +kernel) rfl
theorem tw_853 : Cond.code yX7_refuseSet cX7_refuseSet 3 (some .int) ∈ LW := LWm (i := 853) (by decide +kernel) rfl

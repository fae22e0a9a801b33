theorem tw_39 : Cond.selects RX8 yX8_of yX8_of ∈ LW := LWm (i := 39) (by decide +kernel) rfl
theorem tw_44 : Cond.selects RX8 yX8_takingBy yX8_takingBy ∈ LW := LWm (i := 44) (by decide +kernel) rfl
theorem tw_45 : Cond.selects RX8 yX8_tick yX8_tick ∈ LW := LWm (i := 45) (by decide +kernel) rfl
theorem tw_46 : Cond.selects RX8 yX8_lateAt yX8_lateAt ∈ LW := LWm (i := 46) (by decide +kernel) rfl
theorem tw_87 : Cond.initialized RX8 ∈ LW := LWm1 (i := 9) (by decide +kernel) rfl
theorem tw_973 : Cond.fieldLink RX8 7 "LastPlaceModel" "doorMany" "[I" ∈ LW := LWm4 (i := 175) (by decide +kernel) rfl
theorem tw_974 : Cond.fieldLink RX8 13 "LastPlaceModel" "frees" "[I" ∈ LW := LWm4 (i := 176) (by decide +kernel) rfl
theorem tw_975 : Cond.fieldLink RX8 16 "LastPlaceModel" "prices" "[I" ∈ LW := LWm4 (i := 177) (by decide +kernel) rfl
theorem tw_976 : Cond.fieldLink RX8 19 "LastPlaceModel" "singles" "[I" ∈ LW := LWm4 (i := 178) (by decide +kernel) rfl
theorem tw_979 : Cond.fieldLink RX8 25 "LastPlaceModel" "faultPlace" "I" ∈ LW := LWm4 (i := 181) (by decide +kernel) rfl
theorem tw_1111 : Cond.methodLink RX8 107 yX8_in ∈ LW := LWm5 (i := 73) (by decide +kernel) rfl
theorem tw_1112 : Cond.static yX8_in ∈ LW := LWm5 (i := 74) (by decide +kernel) rfl
set_option maxRecDepth 100000 in theorem tw_1113 : Cond.code yX8_in cX8_in 6 (some .boolean) ∈ LW := LWm5 (i := 75) rfl rfl
theorem tw_1119 : Cond.constantLong RX8 105 (2) ∈ LW := LWm5 (i := 81) (by decide +kernel) rfl
theorem tw_1194 : Cond.methodLink RX8 212 yX8_of ∈ LW := LWm5 (i := 156) (by decide +kernel) rfl
theorem tw_1196 : Cond.instanceMethod yX8_of ∈ LW := LWm5 (i := 158) (by decide +kernel) rfl
set_option maxRecDepth 100000 in theorem tw_1197 : Cond.code yX8_of cX8_of 3 (some .int) ∈ LW := LWm5 (i := 159) rfl rfl
theorem tw_1226 : Cond.methodLink RX8 230 yX8_takingBy ∈ LW := LWm5 (i := 188) (by decide +kernel) rfl
theorem tw_1228 : Cond.instanceMethod yX8_takingBy ∈ LW := LWm5 (i := 190) (by decide +kernel) rfl
set_option maxRecDepth 100000 in theorem tw_1229 : Cond.code yX8_takingBy cX8_takingBy 6 (some .int) ∈ LW := LWm5 (i := 191) rfl rfl
theorem tw_1230 : Cond.methodLink RX8 223 yX8_tick ∈ LW := LWm5 (i := 192) (by decide +kernel) rfl
theorem tw_1232 : Cond.instanceMethod yX8_tick ∈ LW := LWm5 (i := 194) (by decide +kernel) rfl
set_option maxRecDepth 100000 in theorem tw_1233 : Cond.code yX8_tick cX8_tick 4 (some .int) ∈ LW := LWm5 (i := 195) rfl rfl
theorem tw_1234 : Cond.methodLink RX8 227 yX8_lateAt ∈ LW := LWm5 (i := 196) (by decide +kernel) rfl
theorem tw_1236 : Cond.instanceMethod yX8_lateAt ∈ LW := LWm5 (i := 198) (by decide +kernel) rfl
set_option maxRecDepth 100000 in theorem tw_1237 : Cond.code yX8_lateAt cX8_lateAt 4 (some .int) ∈ LW := LWm5 (i := 199) rfl rfl
theorem tw_1272 : Cond.constantLong RX8 240 (100) ∈ LW := LWm5 (i := 234) (by decide +kernel) rfl

theorem tw_39 : Cond.selects RX8 yX8_of yX8_of ∈ LW := LWm (i := 39) (by decide +kernel) rfl
theorem tw_44 : Cond.selects RX8 yX8_takingBy yX8_takingBy ∈ LW := LWm (i := 44) (by decide +kernel) rfl
theorem tw_45 : Cond.selects RX8 yX8_tick yX8_tick ∈ LW := LWm (i := 45) (by decide +kernel) rfl
theorem tw_46 : Cond.selects RX8 yX8_lateAt yX8_lateAt ∈ LW := LWm (i := 46) (by decide +kernel) rfl
theorem tw_87 : Cond.initialized RX8 ∈ LW := LWm (i := 87) (by decide +kernel) rfl
theorem tw_973 : Cond.fieldLink RX8 7 "LastPlaceModel" "doorMany" "[I" ∈ LW := LWm (i := 973) (by decide +kernel) rfl
theorem tw_974 : Cond.fieldLink RX8 13 "LastPlaceModel" "frees" "[I" ∈ LW := LWm (i := 974) (by decide +kernel) rfl
theorem tw_975 : Cond.fieldLink RX8 16 "LastPlaceModel" "prices" "[I" ∈ LW := LWm (i := 975) (by decide +kernel) rfl
theorem tw_976 : Cond.fieldLink RX8 19 "LastPlaceModel" "singles" "[I" ∈ LW := LWm (i := 976) (by decide +kernel) rfl
theorem tw_979 : Cond.fieldLink RX8 25 "LastPlaceModel" "faultPlace" "I" ∈ LW := LWm (i := 979) (by decide +kernel) rfl
theorem tw_1111 : Cond.methodLink RX8 107 yX8_in ∈ LW := LWm (i := 1111) (by decide +kernel) rfl
theorem tw_1112 : Cond.static yX8_in ∈ LW := LWm (i := 1112) (by decide +kernel) rfl
set_option maxRecDepth 100000 in theorem tw_1113 : Cond.code yX8_in cX8_in 6 (some .boolean) ∈ LW := LWm (i := 1113) rfl rfl
theorem tw_1119 : Cond.constantLong RX8 105 (2) ∈ LW := LWm (i := 1119) (by decide +kernel) rfl
theorem tw_1194 : Cond.methodLink RX8 212 yX8_of ∈ LW := LWm (i := 1194) (by decide +kernel) rfl
theorem tw_1196 : Cond.instanceMethod yX8_of ∈ LW := LWm (i := 1196) (by decide +kernel) rfl
set_option maxRecDepth 100000 in theorem tw_1197 : Cond.code yX8_of cX8_of 3 (some .int) ∈ LW := LWm (i := 1197) rfl rfl
theorem tw_1226 : Cond.methodLink RX8 230 yX8_takingBy ∈ LW := LWm (i := 1226) (by decide +kernel) rfl
theorem tw_1228 : Cond.instanceMethod yX8_takingBy ∈ LW := LWm (i := 1228) (by decide +kernel) rfl
set_option maxRecDepth 100000 in theorem tw_1229 : Cond.code yX8_takingBy cX8_takingBy 6 (some .int) ∈ LW := LWm (i := 1229) rfl rfl
theorem tw_1230 : Cond.methodLink RX8 223 yX8_tick ∈ LW := LWm (i := 1230) (by decide +kernel) rfl
theorem tw_1232 : Cond.instanceMethod yX8_tick ∈ LW := LWm (i := 1232) (by decide +kernel) rfl
set_option maxRecDepth 100000 in theorem tw_1233 : Cond.code yX8_tick cX8_tick 4 (some .int) ∈ LW := LWm (i := 1233) rfl rfl
theorem tw_1234 : Cond.methodLink RX8 227 yX8_lateAt ∈ LW := LWm (i := 1234) (by decide +kernel) rfl
theorem tw_1236 : Cond.instanceMethod yX8_lateAt ∈ LW := LWm (i := 1236) (by decide +kernel) rfl
set_option maxRecDepth 100000 in theorem tw_1237 : Cond.code yX8_lateAt cX8_lateAt 4 (some .int) ∈ LW := LWm (i := 1237) rfl rfl
theorem tw_1272 : Cond.constantLong RX8 240 (100) ∈ LW := LWm (i := 1272) (by decide +kernel) rfl

theorem tw_55 : Cond.selects RX8 yX8_takeRule yX8_takeRule ∈ LW := LWm (i := 55) (by decide +kernel) rfl
theorem tw_56 : Cond.selects RX8 yX8_takeSeen yX8_takeSeen ∈ LW := LWm (i := 56) (by decide +kernel) rfl
theorem tw_1015 : Cond.fieldLink RX8 96 "LastPlaceModel" "isKept" "[Z" ∈ LW := LWm (i := 1015) (by decide +kernel) rfl
theorem tw_1016 : Cond.fieldLink RX8 99 "LastPlaceModel" "images" "[I" ∈ LW := LWm (i := 1016) (by decide +kernel) rfl
theorem tw_1309 : Cond.methodLink RX8 282 yX8_takeRule ∈ LW := LWm (i := 1309) (by decide +kernel) rfl
theorem tw_1311 : Cond.instanceMethod yX8_takeRule ∈ LW := LWm (i := 1311) (by decide +kernel) rfl
set_option maxRecDepth 100000 in theorem tw_1312 : Cond.code yX8_takeRule cX8_takeRule 5 (some .int) ∈ LW := LWm (i := 1312) rfl rfl
theorem tw_1313 : Cond.methodLink RX8 279 yX8_takeSeen ∈ LW := LWm (i := 1313) (by decide +kernel) rfl
theorem tw_1315 : Cond.instanceMethod yX8_takeSeen ∈ LW := LWm (i := 1315) (by decide +kernel) rfl
set_option maxRecDepth 100000 in theorem tw_1316 : Cond.code yX8_takeSeen cX8_takeSeen 5 (some .int) ∈ LW := LWm (i := 1316) rfl rfl

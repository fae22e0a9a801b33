theorem tw_55 : Cond.selects RX8 yX8_takeRule yX8_takeRule ∈ LW := LWm (i := 55) (by decide +kernel) rfl
theorem tw_56 : Cond.selects RX8 yX8_takeSeen yX8_takeSeen ∈ LW := LWm (i := 56) (by decide +kernel) rfl
theorem tw_1015 : Cond.fieldLink RX8 96 "LastPlaceModel" "isKept" "[Z" ∈ LW := LWm4 (i := 217) (by decide +kernel) rfl
theorem tw_1016 : Cond.fieldLink RX8 99 "LastPlaceModel" "images" "[I" ∈ LW := LWm4 (i := 218) (by decide +kernel) rfl
theorem tw_1309 : Cond.methodLink RX8 282 yX8_takeRule ∈ LW := LWm6 (i := 31) (by decide +kernel) rfl
theorem tw_1311 : Cond.instanceMethod yX8_takeRule ∈ LW := LWm6 (i := 33) (by decide +kernel) rfl
set_option maxRecDepth 100000 in theorem tw_1312 : Cond.code yX8_takeRule cX8_takeRule 5 (some .int) ∈ LW := LWm6 (i := 34) rfl rfl
theorem tw_1313 : Cond.methodLink RX8 279 yX8_takeSeen ∈ LW := LWm6 (i := 35) (by decide +kernel) rfl
theorem tw_1315 : Cond.instanceMethod yX8_takeSeen ∈ LW := LWm6 (i := 37) (by decide +kernel) rfl
set_option maxRecDepth 100000 in theorem tw_1316 : Cond.code yX8_takeSeen cX8_takeSeen 5 (some .int) ∈ LW := LWm6 (i := 38) rfl rfl

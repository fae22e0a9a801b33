theorem tw_69 : Cond.selects RX8 yX8_bestBar yX8_bestBar ∈ LW := LWm (i := 69) (by decide +kernel) rfl
theorem tw_70 : Cond.selects RX8 yX8_turnAll yX8_turnAll ∈ LW := LWm (i := 70) (by decide +kernel) rfl
theorem tw_1013 : Cond.fieldLink RX8 93 "LastPlaceModel" "wasBars" "[I" ∈ LW := LWm4 (i := 215) (by decide +kernel) rfl
theorem tw_1414 : Cond.methodLink RX8 339 yX8_bestBar ∈ LW := LWm6 (i := 136) (by decide +kernel) rfl
theorem tw_1416 : Cond.instanceMethod yX8_bestBar ∈ LW := LWm6 (i := 138) (by decide +kernel) rfl
set_option maxRecDepth 100000 in theorem tw_1417 : Cond.code yX8_bestBar cX8_bestBar 9 (some .int) ∈ LW := LWm6 (i := 139) rfl rfl
theorem tw_1422 : Cond.methodLink RX8 345 yX8_turnAll ∈ LW := LWm6 (i := 144) (by decide +kernel) rfl
theorem tw_1424 : Cond.instanceMethod yX8_turnAll ∈ LW := LWm6 (i := 146) (by decide +kernel) rfl
set_option maxRecDepth 100000 in theorem tw_1425 : Cond.code yX8_turnAll cX8_turnAll 7 (some .int) ∈ LW := LWm6 (i := 147) rfl rfl

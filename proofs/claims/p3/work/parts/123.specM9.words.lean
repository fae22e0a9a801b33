theorem tw_63 : Cond.selects RX8 yX8_isCar yX8_isCar ∈ LW := LWm (i := 63) (by decide +kernel) rfl
theorem tw_64 : Cond.selects RX8 yX8_isSet yX8_isSet ∈ LW := LWm (i := 64) (by decide +kernel) rfl
theorem tw_65 : Cond.selects RX8 yX8_costOf yX8_costOf ∈ LW := LWm (i := 65) (by decide +kernel) rfl
theorem tw_66 : Cond.selects RX8 yX8_parkAll yX8_parkAll ∈ LW := LWm (i := 66) (by decide +kernel) rfl
theorem tw_67 : Cond.selects RX8 yX8_costAt yX8_costAt ∈ LW := LWm (i := 67) (by decide +kernel) rfl
theorem tw_1008 : Cond.fieldLink RX8 84 "LastPlaceModel" "walks" "[I" ∈ LW := LWm (i := 1008) (by decide +kernel) rfl
theorem tw_1009 : Cond.fieldLink RX8 87 "LastPlaceModel" "bars" "[I" ∈ LW := LWm (i := 1009) (by decide +kernel) rfl
theorem tw_1010 : Cond.fieldLink RX8 321 "LastPlaceModel" "dearFrom" "I" ∈ LW := LWm (i := 1010) (by decide +kernel) rfl
theorem tw_1011 : Cond.fieldLink RX8 324 "LastPlaceModel" "dearBy" "I" ∈ LW := LWm (i := 1011) (by decide +kernel) rfl
theorem tw_1012 : Cond.fieldLink RX8 90 "LastPlaceModel" "doorsOf" "[I" ∈ LW := LWm (i := 1012) (by decide +kernel) rfl
theorem tw_1377 : Cond.constantLong RX8 313 (24) ∈ LW := LWm (i := 1377) (by decide +kernel) rfl
theorem tw_1382 : Cond.methodLink RX8 318 yX8_isCar ∈ LW := LWm (i := 1382) (by decide +kernel) rfl
theorem tw_1384 : Cond.instanceMethod yX8_isCar ∈ LW := LWm (i := 1384) (by decide +kernel) rfl
set_option maxRecDepth 100000 in theorem tw_1385 : Cond.code yX8_isCar cX8_isCar 2 (some .boolean) ∈ LW := LWm (i := 1385) rfl rfl
theorem tw_1390 : Cond.methodLink RX8 333 yX8_isSet ∈ LW := LWm (i := 1390) (by decide +kernel) rfl
theorem tw_1392 : Cond.instanceMethod yX8_isSet ∈ LW := LWm (i := 1392) (by decide +kernel) rfl
set_option maxRecDepth 100000 in theorem tw_1393 : Cond.code yX8_isSet cX8_isSet 3 (some .boolean) ∈ LW := LWm (i := 1393) rfl rfl
theorem tw_1394 : Cond.methodLink RX8 336 yX8_costOf ∈ LW := LWm (i := 1394) (by decide +kernel) rfl
theorem tw_1396 : Cond.instanceMethod yX8_costOf ∈ LW := LWm (i := 1396) (by decide +kernel) rfl
set_option maxRecDepth 100000 in theorem tw_1397 : Cond.code yX8_costOf cX8_costOf 4 (some .int) ∈ LW := LWm (i := 1397) rfl rfl
theorem tw_1398 : Cond.methodLink RX8 327 yX8_parkAll ∈ LW := LWm (i := 1398) (by decide +kernel) rfl
theorem tw_1400 : Cond.instanceMethod yX8_parkAll ∈ LW := LWm (i := 1400) (by decide +kernel) rfl
set_option maxRecDepth 100000 in theorem tw_1401 : Cond.code yX8_parkAll cX8_parkAll 6 none ∈ LW := LWm (i := 1401) rfl rfl
theorem tw_1402 : Cond.methodLink RX8 330 yX8_costAt ∈ LW := LWm (i := 1402) (by decide +kernel) rfl
theorem tw_1404 : Cond.instanceMethod yX8_costAt ∈ LW := LWm (i := 1404) (by decide +kernel) rfl
set_option maxRecDepth 100000 in theorem tw_1405 : Cond.code yX8_costAt cX8_costAt 5 (some .int) ∈ LW := LWm (i := 1405) rfl rfl

theorem tw_63 : Cond.selects RX8 yX8_isCar yX8_isCar ∈ LW := LWm (i := 63) (by decide +kernel) rfl
theorem tw_64 : Cond.selects RX8 yX8_isSet yX8_isSet ∈ LW := LWm (i := 64) (by decide +kernel) rfl
theorem tw_65 : Cond.selects RX8 yX8_costOf yX8_costOf ∈ LW := LWm (i := 65) (by decide +kernel) rfl
theorem tw_66 : Cond.selects RX8 yX8_parkAll yX8_parkAll ∈ LW := LWm (i := 66) (by decide +kernel) rfl
theorem tw_67 : Cond.selects RX8 yX8_costAt yX8_costAt ∈ LW := LWm (i := 67) (by decide +kernel) rfl
theorem tw_1008 : Cond.fieldLink RX8 84 "LastPlaceModel" "walks" "[I" ∈ LW := LWm4 (i := 210) (by decide +kernel) rfl
theorem tw_1009 : Cond.fieldLink RX8 87 "LastPlaceModel" "bars" "[I" ∈ LW := LWm4 (i := 211) (by decide +kernel) rfl
theorem tw_1010 : Cond.fieldLink RX8 321 "LastPlaceModel" "dearFrom" "I" ∈ LW := LWm4 (i := 212) (by decide +kernel) rfl
theorem tw_1011 : Cond.fieldLink RX8 324 "LastPlaceModel" "dearBy" "I" ∈ LW := LWm4 (i := 213) (by decide +kernel) rfl
theorem tw_1012 : Cond.fieldLink RX8 90 "LastPlaceModel" "doorsOf" "[I" ∈ LW := LWm4 (i := 214) (by decide +kernel) rfl
theorem tw_1377 : Cond.constantLong RX8 313 (24) ∈ LW := LWm6 (i := 99) (by decide +kernel) rfl
theorem tw_1382 : Cond.methodLink RX8 318 yX8_isCar ∈ LW := LWm6 (i := 104) (by decide +kernel) rfl
theorem tw_1384 : Cond.instanceMethod yX8_isCar ∈ LW := LWm6 (i := 106) (by decide +kernel) rfl
set_option maxRecDepth 100000 in theorem tw_1385 : Cond.code yX8_isCar cX8_isCar 2 (some .boolean) ∈ LW := LWm6 (i := 107) rfl rfl
theorem tw_1390 : Cond.methodLink RX8 333 yX8_isSet ∈ LW := LWm6 (i := 112) (by decide +kernel) rfl
theorem tw_1392 : Cond.instanceMethod yX8_isSet ∈ LW := LWm6 (i := 114) (by decide +kernel) rfl
set_option maxRecDepth 100000 in theorem tw_1393 : Cond.code yX8_isSet cX8_isSet 3 (some .boolean) ∈ LW := LWm6 (i := 115) rfl rfl
theorem tw_1394 : Cond.methodLink RX8 336 yX8_costOf ∈ LW := LWm6 (i := 116) (by decide +kernel) rfl
theorem tw_1396 : Cond.instanceMethod yX8_costOf ∈ LW := LWm6 (i := 118) (by decide +kernel) rfl
set_option maxRecDepth 100000 in theorem tw_1397 : Cond.code yX8_costOf cX8_costOf 4 (some .int) ∈ LW := LWm6 (i := 119) rfl rfl
theorem tw_1398 : Cond.methodLink RX8 327 yX8_parkAll ∈ LW := LWm6 (i := 120) (by decide +kernel) rfl
theorem tw_1400 : Cond.instanceMethod yX8_parkAll ∈ LW := LWm6 (i := 122) (by decide +kernel) rfl
set_option maxRecDepth 100000 in theorem tw_1401 : Cond.code yX8_parkAll cX8_parkAll 6 none ∈ LW := LWm6 (i := 123) rfl rfl
theorem tw_1402 : Cond.methodLink RX8 330 yX8_costAt ∈ LW := LWm6 (i := 124) (by decide +kernel) rfl
theorem tw_1404 : Cond.instanceMethod yX8_costAt ∈ LW := LWm6 (i := 126) (by decide +kernel) rfl
set_option maxRecDepth 100000 in theorem tw_1405 : Cond.code yX8_costAt cX8_costAt 5 (some .int) ∈ LW := LWm6 (i := 127) rfl rfl

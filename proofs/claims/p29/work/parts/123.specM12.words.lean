theorem tw_74 : Cond.selects RX8 yX8_leastAll yX8_leastAll ∈ LW := LWm (i := 74) (by decide +kernel) rfl
theorem tw_75 : Cond.selects RX8 yX8_sumAll yX8_sumAll ∈ LW := LWm (i := 75) (by decide +kernel) rfl
theorem tw_1446 : Cond.methodLink RX8 371 yX8_leastAll ∈ LW := LWm6 (i := 168) (by decide +kernel) rfl
theorem tw_1448 : Cond.instanceMethod yX8_leastAll ∈ LW := LWm6 (i := 170) (by decide +kernel) rfl
set_option maxRecDepth 100000 in theorem tw_1449 : Cond.code yX8_leastAll cX8_leastAll 10 (some .int) ∈ LW := LWm6 (i := 171) rfl rfl
theorem tw_1450 : Cond.methodLink RX8 354 yX8_canAll ∈ LW := LWm6 (i := 172) (by decide +kernel) rfl
theorem tw_1451 : Cond.static yX8_canAll ∈ LW := LWm6 (i := 173) (by decide +kernel) rfl
set_option maxRecDepth 100000 in theorem tw_1452 : Cond.code yX8_canAll cX8_canAll 6 (some .boolean) ∈ LW := LWm6 (i := 174) rfl rfl
theorem tw_1453 : Cond.methodLink RX8 362 yX8_canOne ∈ LW := LWm6 (i := 175) (by decide +kernel) rfl
theorem tw_1454 : Cond.static yX8_canOne ∈ LW := LWm6 (i := 176) (by decide +kernel) rfl
set_option maxRecDepth 100000 in theorem tw_1455 : Cond.code yX8_canOne cX8_canOne 2 (some .boolean) ∈ LW := LWm6 (i := 177) rfl rfl
theorem tw_1456 : Cond.methodLink RX8 365 yX8_areApart ∈ LW := LWm6 (i := 178) (by decide +kernel) rfl
theorem tw_1457 : Cond.static yX8_areApart ∈ LW := LWm6 (i := 179) (by decide +kernel) rfl
set_option maxRecDepth 100000 in theorem tw_1458 : Cond.code yX8_areApart cX8_areApart 2 (some .boolean) ∈ LW := LWm6 (i := 180) rfl rfl
theorem tw_1459 : Cond.methodLink RX8 358 yX8_sumAll ∈ LW := LWm6 (i := 181) (by decide +kernel) rfl
theorem tw_1461 : Cond.instanceMethod yX8_sumAll ∈ LW := LWm6 (i := 183) (by decide +kernel) rfl
set_option maxRecDepth 100000 in theorem tw_1462 : Cond.code yX8_sumAll cX8_sumAll 7 (some .int) ∈ LW := LWm6 (i := 184) rfl rfl

theorem tw_74 : Cond.selects RX8 yX8_leastAll yX8_leastAll ∈ LW := LWm (i := 74) (by decide +kernel) rfl
theorem tw_75 : Cond.selects RX8 yX8_sumAll yX8_sumAll ∈ LW := LWm (i := 75) (by decide +kernel) rfl
theorem tw_1446 : Cond.methodLink RX8 371 yX8_leastAll ∈ LW := LWm (i := 1446) (by decide +kernel) rfl
theorem tw_1448 : Cond.instanceMethod yX8_leastAll ∈ LW := LWm (i := 1448) (by decide +kernel) rfl
set_option maxRecDepth 100000 in theorem tw_1449 : Cond.code yX8_leastAll cX8_leastAll 10 (some .int) ∈ LW := LWm (i := 1449) rfl rfl
theorem tw_1450 : Cond.methodLink RX8 354 yX8_canAll ∈ LW := LWm (i := 1450) (by decide +kernel) rfl
theorem tw_1451 : Cond.static yX8_canAll ∈ LW := LWm (i := 1451) (by decide +kernel) rfl
set_option maxRecDepth 100000 in theorem tw_1452 : Cond.code yX8_canAll cX8_canAll 6 (some .boolean) ∈ LW := LWm (i := 1452) rfl rfl
theorem tw_1453 : Cond.methodLink RX8 362 yX8_canOne ∈ LW := LWm (i := 1453) (by decide +kernel) rfl
theorem tw_1454 : Cond.static yX8_canOne ∈ LW := LWm (i := 1454) (by decide +kernel) rfl
set_option maxRecDepth 100000 in theorem tw_1455 : Cond.code yX8_canOne cX8_canOne 2 (some .boolean) ∈ LW := LWm (i := 1455) rfl rfl
theorem tw_1456 : Cond.methodLink RX8 365 yX8_areApart ∈ LW := LWm (i := 1456) (by decide +kernel) rfl
theorem tw_1457 : Cond.static yX8_areApart ∈ LW := LWm (i := 1457) (by decide +kernel) rfl
set_option maxRecDepth 100000 in theorem tw_1458 : Cond.code yX8_areApart cX8_areApart 2 (some .boolean) ∈ LW := LWm (i := 1458) rfl rfl
theorem tw_1459 : Cond.methodLink RX8 358 yX8_sumAll ∈ LW := LWm (i := 1459) (by decide +kernel) rfl
theorem tw_1461 : Cond.instanceMethod yX8_sumAll ∈ LW := LWm (i := 1461) (by decide +kernel) rfl
set_option maxRecDepth 100000 in theorem tw_1462 : Cond.code yX8_sumAll cX8_sumAll 7 (some .int) ∈ LW := LWm (i := 1462) rfl rfl

theorem tw_68 : Cond.selects RX8 yX8_isAtRest yX8_isAtRest ∈ LW := LWm (i := 68) (by decide +kernel) rfl
theorem tw_71 : Cond.selects RX8 yX8_holdBars yX8_holdBars ∈ LW := LWm (i := 71) (by decide +kernel) rfl
theorem tw_72 : Cond.selects RX8 yX8_putBars yX8_putBars ∈ LW := LWm (i := 72) (by decide +kernel) rfl
theorem tw_73 : Cond.selects RX8 yX8_allCosts yX8_allCosts ∈ LW := LWm (i := 73) (by decide +kernel) rfl
theorem tw_1410 : Cond.methodLink RX8 342 yX8_isAtRest ∈ LW := LWm6 (i := 132) (by decide +kernel) rfl
theorem tw_1412 : Cond.instanceMethod yX8_isAtRest ∈ LW := LWm6 (i := 134) (by decide +kernel) rfl
set_option maxRecDepth 100000 in theorem tw_1413 : Cond.code yX8_isAtRest cX8_isAtRest 5 (some .boolean) ∈ LW := LWm6 (i := 135) rfl rfl
theorem tw_1430 : Cond.methodLink RX8 348 yX8_holdBars ∈ LW := LWm6 (i := 152) (by decide +kernel) rfl
theorem tw_1432 : Cond.instanceMethod yX8_holdBars ∈ LW := LWm6 (i := 154) (by decide +kernel) rfl
set_option maxRecDepth 100000 in theorem tw_1433 : Cond.code yX8_holdBars cX8_holdBars 2 none ∈ LW := LWm6 (i := 155) rfl rfl
theorem tw_1434 : Cond.methodLink RX8 351 yX8_putBars ∈ LW := LWm6 (i := 156) (by decide +kernel) rfl
theorem tw_1436 : Cond.instanceMethod yX8_putBars ∈ LW := LWm6 (i := 158) (by decide +kernel) rfl
set_option maxRecDepth 100000 in theorem tw_1437 : Cond.code yX8_putBars cX8_putBars 2 none ∈ LW := LWm6 (i := 159) rfl rfl
theorem tw_1442 : Cond.methodLink RX8 368 yX8_allCosts ∈ LW := LWm6 (i := 164) (by decide +kernel) rfl
theorem tw_1444 : Cond.instanceMethod yX8_allCosts ∈ LW := LWm6 (i := 166) (by decide +kernel) rfl
set_option maxRecDepth 100000 in theorem tw_1445 : Cond.code yX8_allCosts cX8_allCosts 5 (some .int) ∈ LW := LWm6 (i := 167) rfl rfl

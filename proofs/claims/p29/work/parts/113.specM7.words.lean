theorem tw_996 : Cond.fieldLink RX8 276 "LastPlaceModel" "rules" "I" ∈ LW := LWm4 (i := 198) (by decide +kernel) rfl
theorem tw_1005 : Cond.fieldLink RX8 78 "LastPlaceModel" "boys" "[I" ∈ LW := LWm4 (i := 207) (by decide +kernel) rfl
theorem tw_1006 : Cond.fieldLink RX8 81 "LastPlaceModel" "boysNext" "[I" ∈ LW := LWm4 (i := 208) (by decide +kernel) rfl
theorem tw_1007 : Cond.fieldLink RX8 315 "LastPlaceModel" "cars" "I" ∈ LW := LWm4 (i := 209) (by decide +kernel) rfl
theorem tw_1110 : Cond.constantLong RX8 111 (8) ∈ LW := LWm5 (i := 72) (by decide +kernel) rfl
theorem tw_1114 : Cond.constantLong RX8 116 (255) ∈ LW := LWm5 (i := 76) (by decide +kernel) rfl
theorem tw_1362 : Cond.constantLong RX8 307 (500000) ∈ LW := LWm6 (i := 84) (by decide +kernel) rfl
theorem tw_1363 : Cond.constantLong RX8 309 (1000000) ∈ LW := LWm6 (i := 85) (by decide +kernel) rfl
theorem tw_1368 : Cond.constantLong RX8 311 (99) ∈ LW := LWm6 (i := 90) (by decide +kernel) rfl
theorem tw_1484 : Cond.constantLong RX8 377 (1103515245) ∈ LW := LWm6 (i := 206) (by decide +kernel) rfl
theorem tw_1485 : Cond.constantLong RX8 379 (12345) ∈ LW := LWm6 (i := 207) (by decide +kernel) rfl
theorem tw_1486 : Cond.constantLong RX8 381 (2147483648) ∈ LW := LWm6 (i := 208) (by decide +kernel) rfl
theorem tw_1487 : Cond.constant RX8 383 (65536) ∈ LW := LWm6 (i := 209) (by decide +kernel) rfl

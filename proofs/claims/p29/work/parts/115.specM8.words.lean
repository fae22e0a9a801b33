theorem tw_57 : Cond.selects RX8 yX8_isRule yX8_isRule ∈ LW := LWm (i := 57) (by decide +kernel) rfl
theorem tw_58 : Cond.selects RX8 yX8_meanOf yX8_meanOf ∈ LW := LWm (i := 58) (by decide +kernel) rfl
theorem tw_59 : Cond.selects RX8 yX8_isRoundBy yX8_isRoundBy ∈ LW := LWm (i := 59) (by decide +kernel) rfl
theorem tw_60 : Cond.selects RX8 yX8_byGarage yX8_byGarage ∈ LW := LWm (i := 60) (by decide +kernel) rfl
theorem tw_61 : Cond.selects RX8 yX8_isFor yX8_isFor ∈ LW := LWm (i := 61) (by decide +kernel) rfl
theorem tw_62 : Cond.selects RX8 yX8_byTaking yX8_byTaking ∈ LW := LWm (i := 62) (by decide +kernel) rfl
theorem tw_76 : Cond.selects RX8 yX8_drive yX8_drive ∈ LW := LWm (i := 76) (by decide +kernel) rfl
theorem tw_77 : Cond.selects RX8 yX8_draw yX8_draw ∈ LW := LWm (i := 77) (by decide +kernel) rfl
theorem tw_997 : Cond.fieldLink RX8 57 "LastPlaceModel" "barMany" "[I" ∈ LW := LWm4 (i := 199) (by decide +kernel) rfl
theorem tw_998 : Cond.fieldLink RX8 60 "LastPlaceModel" "barSeen" "[I" ∈ LW := LWm4 (i := 200) (by decide +kernel) rfl
theorem tw_999 : Cond.fieldLink RX8 63 "LastPlaceModel" "barFrom" "[I" ∈ LW := LWm4 (i := 201) (by decide +kernel) rfl
theorem tw_1000 : Cond.fieldLink RX8 66 "LastPlaceModel" "ruleRounds" "[I" ∈ LW := LWm4 (i := 202) (by decide +kernel) rfl
theorem tw_1001 : Cond.fieldLink RX8 69 "LastPlaceModel" "follows" "[I" ∈ LW := LWm4 (i := 203) (by decide +kernel) rfl
theorem tw_1002 : Cond.fieldLink RX8 72 "LastPlaceModel" "before" "[I" ∈ LW := LWm4 (i := 204) (by decide +kernel) rfl
theorem tw_1321 : Cond.methodLink RX8 298 yX8_isRule ∈ LW := LWm6 (i := 43) (by decide +kernel) rfl
theorem tw_1323 : Cond.instanceMethod yX8_isRule ∈ LW := LWm6 (i := 45) (by decide +kernel) rfl
set_option maxRecDepth 100000 in theorem tw_1324 : Cond.code yX8_isRule cX8_isRule 2 (some .boolean) ∈ LW := LWm6 (i := 46) rfl rfl
theorem tw_1325 : Cond.methodLink RX8 301 yX8_meanOf ∈ LW := LWm6 (i := 47) (by decide +kernel) rfl
theorem tw_1327 : Cond.instanceMethod yX8_meanOf ∈ LW := LWm6 (i := 49) (by decide +kernel) rfl
set_option maxRecDepth 100000 in theorem tw_1328 : Cond.code yX8_meanOf cX8_meanOf 14 (some .int) ∈ LW := LWm6 (i := 50) rfl rfl
theorem tw_1329 : Cond.methodLink RX8 286 yX8_isRoundBy ∈ LW := LWm6 (i := 51) (by decide +kernel) rfl
theorem tw_1331 : Cond.instanceMethod yX8_isRoundBy ∈ LW := LWm6 (i := 53) (by decide +kernel) rfl
set_option maxRecDepth 100000 in theorem tw_1332 : Cond.code yX8_isRoundBy cX8_isRoundBy 4 (some .boolean) ∈ LW := LWm6 (i := 54) rfl rfl
theorem tw_1333 : Cond.methodLink RX8 289 yX8_byGarage ∈ LW := LWm6 (i := 55) (by decide +kernel) rfl
theorem tw_1335 : Cond.instanceMethod yX8_byGarage ∈ LW := LWm6 (i := 57) (by decide +kernel) rfl
set_option maxRecDepth 100000 in theorem tw_1336 : Cond.code yX8_byGarage cX8_byGarage 5 (some .int) ∈ LW := LWm6 (i := 58) rfl rfl
theorem tw_1337 : Cond.constant RX8 285 (1000000) ∈ LW := LWm6 (i := 59) (by decide +kernel) rfl
theorem tw_1338 : Cond.methodLink RX8 292 yX8_isFor ∈ LW := LWm6 (i := 60) (by decide +kernel) rfl
theorem tw_1340 : Cond.instanceMethod yX8_isFor ∈ LW := LWm6 (i := 62) (by decide +kernel) rfl
set_option maxRecDepth 100000 in theorem tw_1341 : Cond.code yX8_isFor cX8_isFor 6 (some .boolean) ∈ LW := LWm6 (i := 63) rfl rfl
theorem tw_1342 : Cond.methodLink RX8 295 yX8_byTaking ∈ LW := LWm6 (i := 64) (by decide +kernel) rfl
theorem tw_1344 : Cond.instanceMethod yX8_byTaking ∈ LW := LWm6 (i := 66) (by decide +kernel) rfl
set_option maxRecDepth 100000 in theorem tw_1345 : Cond.code yX8_byTaking cX8_byTaking 6 (some .int) ∈ LW := LWm6 (i := 67) rfl rfl
theorem tw_1475 : Cond.constantLong RX8 387 (50) ∈ LW := LWm6 (i := 197) (by decide +kernel) rfl
theorem tw_1476 : Cond.methodLink RX8 389 yX8_drive ∈ LW := LWm6 (i := 198) (by decide +kernel) rfl
theorem tw_1478 : Cond.instanceMethod yX8_drive ∈ LW := LWm6 (i := 200) (by decide +kernel) rfl
set_option maxRecDepth 100000 in theorem tw_1479 : Cond.code yX8_drive cX8_drive 10 (some .int) ∈ LW := LWm6 (i := 201) rfl rfl
theorem tw_1480 : Cond.methodLink RX8 384 yX8_draw ∈ LW := LWm6 (i := 202) (by decide +kernel) rfl
theorem tw_1482 : Cond.instanceMethod yX8_draw ∈ LW := LWm6 (i := 204) (by decide +kernel) rfl
set_option maxRecDepth 100000 in theorem tw_1483 : Cond.code yX8_draw cX8_draw 1 (some .int) ∈ LW := LWm6 (i := 205) rfl rfl
theorem tw_1488 : Cond.constantLong RX8 392 (1000) ∈ LW := LWm6 (i := 210) (by decide +kernel) rfl

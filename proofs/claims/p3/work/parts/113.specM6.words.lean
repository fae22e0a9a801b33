theorem tw_38 : Cond.selects RX8 yX8_isStreet yX8_isStreet ∈ LW := LWm (i := 38) (by decide +kernel) rfl
theorem tw_40 : Cond.selects RX8 yX8_isDoor yX8_isDoor ∈ LW := LWm (i := 40) (by decide +kernel) rfl
theorem tw_42 : Cond.selects RX8 yX8_isRound yX8_isRound ∈ LW := LWm (i := 42) (by decide +kernel) rfl
theorem tw_47 : Cond.selects RX8 yX8_isSight yX8_isSight ∈ LW := LWm (i := 47) (by decide +kernel) rfl
theorem tw_49 : Cond.selects RX8 yX8_findWay yX8_findWay ∈ LW := LWm (i := 49) (by decide +kernel) rfl
theorem tw_54 : Cond.selects RX8 yX8_isTaking yX8_isTaking ∈ LW := LWm (i := 54) (by decide +kernel) rfl
theorem tw_1003 : Cond.fieldLink RX8 304 "LastPlaceModel" "rowMany" "I" ∈ LW := LWm (i := 1003) (by decide +kernel) rfl
theorem tw_1004 : Cond.fieldLink RX8 75 "LastPlaceModel" "row" "[Z" ∈ LW := LWm (i := 1004) (by decide +kernel) rfl
theorem tw_1014 : Cond.fieldLink RX8 374 "LastPlaceModel" "seed" "I" ∈ LW := LWm (i := 1014) (by decide +kernel) rfl
theorem tw_1189 : Cond.methodLink RX8 206 yX8_isStreet ∈ LW := LWm (i := 1189) (by decide +kernel) rfl
theorem tw_1191 : Cond.instanceMethod yX8_isStreet ∈ LW := LWm (i := 1191) (by decide +kernel) rfl
set_option maxRecDepth 100000 in theorem tw_1192 : Cond.code yX8_isStreet cX8_isStreet 2 (some .boolean) ∈ LW := LWm (i := 1192) rfl rfl
theorem tw_1193 : Cond.constantLong RX8 210 (9) ∈ LW := LWm (i := 1193) (by decide +kernel) rfl
theorem tw_1202 : Cond.methodLink RX8 215 yX8_isDoor ∈ LW := LWm (i := 1202) (by decide +kernel) rfl
theorem tw_1204 : Cond.instanceMethod yX8_isDoor ∈ LW := LWm (i := 1204) (by decide +kernel) rfl
set_option maxRecDepth 100000 in theorem tw_1205 : Cond.code yX8_isDoor cX8_isDoor 3 (some .boolean) ∈ LW := LWm (i := 1205) rfl rfl
theorem tw_1218 : Cond.methodLink RX8 234 yX8_isRound ∈ LW := LWm (i := 1218) (by decide +kernel) rfl
theorem tw_1220 : Cond.instanceMethod yX8_isRound ∈ LW := LWm (i := 1220) (by decide +kernel) rfl
set_option maxRecDepth 100000 in theorem tw_1221 : Cond.code yX8_isRound cX8_isRound 3 (some .boolean) ∈ LW := LWm (i := 1221) rfl rfl
theorem tw_1242 : Cond.methodLink RX8 264 yX8_isSight ∈ LW := LWm (i := 1242) (by decide +kernel) rfl
theorem tw_1244 : Cond.instanceMethod yX8_isSight ∈ LW := LWm (i := 1244) (by decide +kernel) rfl
set_option maxRecDepth 100000 in theorem tw_1245 : Cond.code yX8_isSight cX8_isSight 4 (some .boolean) ∈ LW := LWm (i := 1245) rfl rfl
theorem tw_1250 : Cond.methodLink RX8 268 yX8_findWay ∈ LW := LWm (i := 1250) (by decide +kernel) rfl
theorem tw_1252 : Cond.instanceMethod yX8_findWay ∈ LW := LWm (i := 1252) (by decide +kernel) rfl
set_option maxRecDepth 100000 in theorem tw_1253 : Cond.code yX8_findWay cX8_findWay 3 none ∈ LW := LWm (i := 1253) rfl rfl
theorem tw_1285 : Cond.methodLink RX8 272 yX8_isTaking ∈ LW := LWm (i := 1285) (by decide +kernel) rfl
theorem tw_1287 : Cond.instanceMethod yX8_isTaking ∈ LW := LWm (i := 1287) (by decide +kernel) rfl
set_option maxRecDepth 100000 in theorem tw_1288 : Cond.code yX8_isTaking cX8_isTaking 5 (some .boolean) ∈ LW := LWm (i := 1288) rfl rfl

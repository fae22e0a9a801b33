theorem tw_38 : Cond.selects RX8 yX8_isStreet yX8_isStreet ∈ LW := LWm (i := 38) (by decide +kernel) rfl
theorem tw_40 : Cond.selects RX8 yX8_isDoor yX8_isDoor ∈ LW := LWm (i := 40) (by decide +kernel) rfl
theorem tw_42 : Cond.selects RX8 yX8_isRound yX8_isRound ∈ LW := LWm (i := 42) (by decide +kernel) rfl
theorem tw_47 : Cond.selects RX8 yX8_isSight yX8_isSight ∈ LW := LWm (i := 47) (by decide +kernel) rfl
theorem tw_49 : Cond.selects RX8 yX8_findWay yX8_findWay ∈ LW := LWm (i := 49) (by decide +kernel) rfl
theorem tw_54 : Cond.selects RX8 yX8_isTaking yX8_isTaking ∈ LW := LWm (i := 54) (by decide +kernel) rfl
theorem tw_1003 : Cond.fieldLink RX8 304 "LastPlaceModel" "rowMany" "I" ∈ LW := LWm4 (i := 205) (by decide +kernel) rfl
theorem tw_1004 : Cond.fieldLink RX8 75 "LastPlaceModel" "row" "[Z" ∈ LW := LWm4 (i := 206) (by decide +kernel) rfl
theorem tw_1014 : Cond.fieldLink RX8 374 "LastPlaceModel" "seed" "I" ∈ LW := LWm4 (i := 216) (by decide +kernel) rfl
theorem tw_1189 : Cond.methodLink RX8 206 yX8_isStreet ∈ LW := LWm5 (i := 151) (by decide +kernel) rfl
theorem tw_1191 : Cond.instanceMethod yX8_isStreet ∈ LW := LWm5 (i := 153) (by decide +kernel) rfl
set_option maxRecDepth 100000 in theorem tw_1192 : Cond.code yX8_isStreet cX8_isStreet 2 (some .boolean) ∈ LW := LWm5 (i := 154) rfl rfl
theorem tw_1193 : Cond.constantLong RX8 210 (9) ∈ LW := LWm5 (i := 155) (by decide +kernel) rfl
theorem tw_1202 : Cond.methodLink RX8 215 yX8_isDoor ∈ LW := LWm5 (i := 164) (by decide +kernel) rfl
theorem tw_1204 : Cond.instanceMethod yX8_isDoor ∈ LW := LWm5 (i := 166) (by decide +kernel) rfl
set_option maxRecDepth 100000 in theorem tw_1205 : Cond.code yX8_isDoor cX8_isDoor 3 (some .boolean) ∈ LW := LWm5 (i := 167) rfl rfl
theorem tw_1218 : Cond.methodLink RX8 234 yX8_isRound ∈ LW := LWm5 (i := 180) (by decide +kernel) rfl
theorem tw_1220 : Cond.instanceMethod yX8_isRound ∈ LW := LWm5 (i := 182) (by decide +kernel) rfl
set_option maxRecDepth 100000 in theorem tw_1221 : Cond.code yX8_isRound cX8_isRound 3 (some .boolean) ∈ LW := LWm5 (i := 183) rfl rfl
theorem tw_1242 : Cond.methodLink RX8 264 yX8_isSight ∈ LW := LWm5 (i := 204) (by decide +kernel) rfl
theorem tw_1244 : Cond.instanceMethod yX8_isSight ∈ LW := LWm5 (i := 206) (by decide +kernel) rfl
set_option maxRecDepth 100000 in theorem tw_1245 : Cond.code yX8_isSight cX8_isSight 4 (some .boolean) ∈ LW := LWm5 (i := 207) rfl rfl
theorem tw_1250 : Cond.methodLink RX8 268 yX8_findWay ∈ LW := LWm5 (i := 212) (by decide +kernel) rfl
theorem tw_1252 : Cond.instanceMethod yX8_findWay ∈ LW := LWm5 (i := 214) (by decide +kernel) rfl
set_option maxRecDepth 100000 in theorem tw_1253 : Cond.code yX8_findWay cX8_findWay 3 none ∈ LW := LWm5 (i := 215) rfl rfl
theorem tw_1285 : Cond.methodLink RX8 272 yX8_isTaking ∈ LW := LWm6 (i := 7) (by decide +kernel) rfl
theorem tw_1287 : Cond.instanceMethod yX8_isTaking ∈ LW := LWm6 (i := 9) (by decide +kernel) rfl
set_option maxRecDepth 100000 in theorem tw_1288 : Cond.code yX8_isTaking cX8_isTaking 5 (some .boolean) ∈ LW := LWm6 (i := 10) rfl rfl

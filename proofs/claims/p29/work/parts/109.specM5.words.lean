theorem tw_41 : Cond.selects RX8 yX8_chanceOf yX8_chanceOf ∈ LW := LWm (i := 41) (by decide +kernel) rfl
theorem tw_43 : Cond.selects RX8 yX8_takingOf yX8_takingOf ∈ LW := LWm (i := 43) (by decide +kernel) rfl
theorem tw_48 : Cond.selects RX8 yX8_seen yX8_seen ∈ LW := LWm (i := 48) (by decide +kernel) rfl
theorem tw_50 : Cond.selects RX8 yX8_findRound yX8_findRound ∈ LW := LWm (i := 50) (by decide +kernel) rfl
theorem tw_51 : Cond.selects RX8 yX8_garageOf yX8_garageOf ∈ LW := LWm (i := 51) (by decide +kernel) rfl
theorem tw_52 : Cond.selects RX8 yX8_on yX8_on ∈ LW := LWm (i := 52) (by decide +kernel) rfl
theorem tw_53 : Cond.selects RX8 yX8_startOf yX8_startOf ∈ LW := LWm (i := 53) (by decide +kernel) rfl
theorem tw_990 : Cond.fieldLink RX8 38 "LastPlaceModel" "ons" "[I" ∈ LW := LWm4 (i := 192) (by decide +kernel) rfl
theorem tw_991 : Cond.fieldLink RX8 41 "LastPlaceModel" "worths" "[I" ∈ LW := LWm4 (i := 193) (by decide +kernel) rfl
theorem tw_992 : Cond.fieldLink RX8 44 "LastPlaceModel" "starts" "[I" ∈ LW := LWm4 (i := 194) (by decide +kernel) rfl
theorem tw_993 : Cond.fieldLink RX8 47 "LastPlaceModel" "ends" "[I" ∈ LW := LWm4 (i := 195) (by decide +kernel) rfl
theorem tw_994 : Cond.fieldLink RX8 50 "LastPlaceModel" "goesRound" "[Z" ∈ LW := LWm4 (i := 196) (by decide +kernel) rfl
theorem tw_995 : Cond.fieldLink RX8 54 "LastPlaceModel" "begin" "[I" ∈ LW := LWm4 (i := 197) (by decide +kernel) rfl
theorem tw_1210 : Cond.methodLink RX8 219 yX8_chanceOf ∈ LW := LWm5 (i := 172) (by decide +kernel) rfl
theorem tw_1212 : Cond.instanceMethod yX8_chanceOf ∈ LW := LWm5 (i := 174) (by decide +kernel) rfl
set_option maxRecDepth 100000 in theorem tw_1213 : Cond.code yX8_chanceOf cX8_chanceOf 6 (some .int) ∈ LW := LWm5 (i := 175) rfl rfl
theorem tw_1222 : Cond.methodLink RX8 237 yX8_takingOf ∈ LW := LWm5 (i := 184) (by decide +kernel) rfl
theorem tw_1224 : Cond.instanceMethod yX8_takingOf ∈ LW := LWm5 (i := 186) (by decide +kernel) rfl
set_option maxRecDepth 100000 in theorem tw_1225 : Cond.code yX8_takingOf cX8_takingOf 4 (some .int) ∈ LW := LWm5 (i := 187) rfl rfl
theorem tw_1246 : Cond.methodLink RX8 251 yX8_seen ∈ LW := LWm5 (i := 208) (by decide +kernel) rfl
theorem tw_1248 : Cond.instanceMethod yX8_seen ∈ LW := LWm5 (i := 210) (by decide +kernel) rfl
set_option maxRecDepth 100000 in theorem tw_1249 : Cond.code yX8_seen cX8_seen 4 (some .int) ∈ LW := LWm5 (i := 211) rfl rfl
theorem tw_1254 : Cond.methodLink RX8 260 yX8_findRound ∈ LW := LWm5 (i := 216) (by decide +kernel) rfl
theorem tw_1256 : Cond.instanceMethod yX8_findRound ∈ LW := LWm5 (i := 218) (by decide +kernel) rfl
set_option maxRecDepth 100000 in theorem tw_1257 : Cond.code yX8_findRound cX8_findRound 10 none ∈ LW := LWm5 (i := 219) rfl rfl
theorem tw_1258 : Cond.methodLink RX8 248 yX8_garageOf ∈ LW := LWm5 (i := 220) (by decide +kernel) rfl
theorem tw_1260 : Cond.instanceMethod yX8_garageOf ∈ LW := LWm5 (i := 222) (by decide +kernel) rfl
set_option maxRecDepth 100000 in theorem tw_1261 : Cond.code yX8_garageOf cX8_garageOf 3 (some .int) ∈ LW := LWm5 (i := 223) rfl rfl
theorem tw_1262 : Cond.methodLink RX8 254 yX8_on ∈ LW := LWm5 (i := 224) (by decide +kernel) rfl
theorem tw_1264 : Cond.instanceMethod yX8_on ∈ LW := LWm5 (i := 226) (by decide +kernel) rfl
set_option maxRecDepth 100000 in theorem tw_1265 : Cond.code yX8_on cX8_on 9 (some .int) ∈ LW := LWm5 (i := 227) rfl rfl
theorem tw_1266 : Cond.methodLink RX8 242 yX8_at ∈ LW := LWm5 (i := 228) (by decide +kernel) rfl
theorem tw_1267 : Cond.static yX8_at ∈ LW := LWm5 (i := 229) (by decide +kernel) rfl
set_option maxRecDepth 100000 in theorem tw_1268 : Cond.code yX8_at cX8_at 3 (some .int) ∈ LW := LWm5 (i := 230) rfl rfl
theorem tw_1269 : Cond.methodLink RX8 245 yX8_mixed ∈ LW := LWm5 (i := 231) (by decide +kernel) rfl
theorem tw_1270 : Cond.static yX8_mixed ∈ LW := LWm5 (i := 232) (by decide +kernel) rfl
set_option maxRecDepth 100000 in theorem tw_1271 : Cond.code yX8_mixed cX8_mixed 3 (some .int) ∈ LW := LWm5 (i := 233) rfl rfl
theorem tw_1273 : Cond.methodLink RX8 257 yX8_startOf ∈ LW := LWm5 (i := 235) (by decide +kernel) rfl
theorem tw_1275 : Cond.instanceMethod yX8_startOf ∈ LW := LWm5 (i := 237) (by decide +kernel) rfl
set_option maxRecDepth 100000 in theorem tw_1276 : Cond.code yX8_startOf cX8_startOf 7 (some .int) ∈ LW := LWm5 (i := 238) rfl rfl

theorem tw_27 : Cond.selects RX8 yX8_here yX8_here ∈ LW := LWm (i := 27) (by decide +kernel) rfl
theorem tw_29 : Cond.selects RX8 yX8_readWord yX8_readWord ∈ LW := LWm (i := 29) (by decide +kernel) rfl
theorem tw_31 : Cond.selects RX8 yX8_fails yX8_fails ∈ LW := LWm (i := 31) (by decide +kernel) rfl
theorem tw_33 : Cond.selects RX8 yX8_takeNumber yX8_takeNumber ∈ LW := LWm (i := 33) (by decide +kernel) rfl
theorem tw_34 : Cond.selects RX8 yX8_takeFigures yX8_takeFigures ∈ LW := LWm (i := 34) (by decide +kernel) rfl
theorem tw_35 : Cond.selects RX8 yX8_needs yX8_needs ∈ LW := LWm (i := 35) (by decide +kernel) rfl
theorem tw_977 : Cond.fieldLink RX8 22 "LastPlaceModel" "text" "[I" ∈ LW := LWm4 (i := 179) (by decide +kernel) rfl
theorem tw_978 : Cond.fieldLink RX8 113 "LastPlaceModel" "texted" "I" ∈ LW := LWm4 (i := 180) (by decide +kernel) rfl
theorem tw_980 : Cond.fieldLink RX8 118 "LastPlaceModel" "at0" "I" ∈ LW := LWm4 (i := 182) (by decide +kernel) rfl
theorem tw_981 : Cond.fieldLink RX8 125 "LastPlaceModel" "word" "J" ∈ LW := LWm4 (i := 183) (by decide +kernel) rfl
theorem tw_982 : Cond.fieldLink RX8 129 "LastPlaceModel" "wordEnd" "I" ∈ LW := LWm4 (i := 184) (by decide +kernel) rfl
theorem tw_983 : Cond.fieldLink RX8 163 "LastPlaceModel" "number" "I" ∈ LW := LWm4 (i := 185) (by decide +kernel) rfl
theorem tw_984 : Cond.fieldLink RX8 170 "LastPlaceModel" "numberAt" "I" ∈ LW := LWm4 (i := 186) (by decide +kernel) rfl
theorem tw_985 : Cond.fieldLink RX8 177 "LastPlaceModel" "readDoors" "I" ∈ LW := LWm4 (i := 187) (by decide +kernel) rfl
theorem tw_986 : Cond.fieldLink RX8 29 "LastPlaceModel" "readFree" "[I" ∈ LW := LWm4 (i := 188) (by decide +kernel) rfl
theorem tw_987 : Cond.fieldLink RX8 32 "LastPlaceModel" "readPrice" "[I" ∈ LW := LWm4 (i := 189) (by decide +kernel) rfl
theorem tw_988 : Cond.fieldLink RX8 35 "LastPlaceModel" "readSingle" "[I" ∈ LW := LWm4 (i := 190) (by decide +kernel) rfl
theorem tw_989 : Cond.fieldLink RX8 180 "LastPlaceModel" "toldSet" "I" ∈ LW := LWm4 (i := 191) (by decide +kernel) rfl
theorem tw_1120 : Cond.methodLink RX8 121 yX8_here ∈ LW := LWm5 (i := 82) (by decide +kernel) rfl
theorem tw_1122 : Cond.instanceMethod yX8_here ∈ LW := LWm5 (i := 84) (by decide +kernel) rfl
set_option maxRecDepth 100000 in theorem tw_1123 : Cond.code yX8_here cX8_here 1 (some .int) ∈ LW := LWm5 (i := 85) rfl rfl
theorem tw_1128 : Cond.methodLink RX8 156 yX8_readWord ∈ LW := LWm5 (i := 90) (by decide +kernel) rfl
theorem tw_1130 : Cond.instanceMethod yX8_readWord ∈ LW := LWm5 (i := 92) (by decide +kernel) rfl
set_option maxRecDepth 100000 in theorem tw_1131 : Cond.code yX8_readWord cX8_readWord 2 none ∈ LW := LWm5 (i := 93) rfl rfl
theorem tw_1132 : Cond.constantLong RX8 132 (97) ∈ LW := LWm5 (i := 94) (by decide +kernel) rfl
theorem tw_1133 : Cond.constantLong RX8 134 (122) ∈ LW := LWm5 (i := 95) (by decide +kernel) rfl
theorem tw_1134 : Cond.constantLong RX8 136 (1000000000000) ∈ LW := LWm5 (i := 96) (by decide +kernel) rfl
theorem tw_1135 : Cond.constantLong RX8 138 (2000000000000) ∈ LW := LWm5 (i := 97) (by decide +kernel) rfl
theorem tw_1136 : Cond.constantLong RX8 140 (27) ∈ LW := LWm5 (i := 98) (by decide +kernel) rfl
theorem tw_1137 : Cond.constantLong RX8 142 (96) ∈ LW := LWm5 (i := 99) (by decide +kernel) rfl
theorem tw_1142 : Cond.methodLink RX8 148 yX8_code ∈ LW := LWm5 (i := 104) (by decide +kernel) rfl
theorem tw_1143 : Cond.static yX8_code ∈ LW := LWm5 (i := 105) (by decide +kernel) rfl
set_option maxRecDepth 100000 in theorem tw_1144 : Cond.code yX8_code cX8_code 3 (some .long) ∈ LW := LWm5 (i := 106) rfl rfl
theorem tw_1145 : Cond.methodLink RX8 152 yX8_longest ∈ LW := LWm5 (i := 107) (by decide +kernel) rfl
theorem tw_1146 : Cond.static yX8_longest ∈ LW := LWm5 (i := 108) (by decide +kernel) rfl
set_option maxRecDepth 100000 in theorem tw_1147 : Cond.code yX8_longest cX8_longest 4 (some .long) ∈ LW := LWm5 (i := 109) rfl rfl
theorem tw_1148 : Cond.methodLink RX8 144 yX8_longer ∈ LW := LWm5 (i := 110) (by decide +kernel) rfl
theorem tw_1149 : Cond.static yX8_longer ∈ LW := LWm5 (i := 111) (by decide +kernel) rfl
set_option maxRecDepth 100000 in theorem tw_1150 : Cond.code yX8_longer cX8_longer 3 (some .long) ∈ LW := LWm5 (i := 112) rfl rfl
theorem tw_1151 : Cond.methodLink RX8 159 yX8_fails ∈ LW := LWm5 (i := 113) (by decide +kernel) rfl
theorem tw_1153 : Cond.instanceMethod yX8_fails ∈ LW := LWm5 (i := 115) (by decide +kernel) rfl
set_option maxRecDepth 100000 in theorem tw_1154 : Cond.code yX8_fails cX8_fails 3 (some .int) ∈ LW := LWm5 (i := 116) rfl rfl
theorem tw_1159 : Cond.methodLink RX8 183 yX8_takeNumber ∈ LW := LWm5 (i := 121) (by decide +kernel) rfl
theorem tw_1161 : Cond.instanceMethod yX8_takeNumber ∈ LW := LWm5 (i := 123) (by decide +kernel) rfl
set_option maxRecDepth 100000 in theorem tw_1162 : Cond.code yX8_takeNumber cX8_takeNumber 4 (some .int) ∈ LW := LWm5 (i := 124) rfl rfl
theorem tw_1163 : Cond.constantLong RX8 166 (48) ∈ LW := LWm5 (i := 125) (by decide +kernel) rfl
theorem tw_1164 : Cond.constantLong RX8 168 (57) ∈ LW := LWm5 (i := 126) (by decide +kernel) rfl
theorem tw_1165 : Cond.methodLink RX8 173 yX8_takeFigures ∈ LW := LWm5 (i := 127) (by decide +kernel) rfl
theorem tw_1167 : Cond.instanceMethod yX8_takeFigures ∈ LW := LWm5 (i := 129) (by decide +kernel) rfl
set_option maxRecDepth 100000 in theorem tw_1168 : Cond.code yX8_takeFigures cX8_takeFigures 7 (some .int) ∈ LW := LWm5 (i := 130) rfl rfl
theorem tw_1169 : Cond.methodLink RX8 186 yX8_needs ∈ LW := LWm5 (i := 131) (by decide +kernel) rfl
theorem tw_1171 : Cond.instanceMethod yX8_needs ∈ LW := LWm5 (i := 133) (by decide +kernel) rfl
set_option maxRecDepth 100000 in theorem tw_1172 : Cond.code yX8_needs cX8_needs 3 (some .int) ∈ LW := LWm5 (i := 134) rfl rfl

theorem tw_26 : Cond.selects RX8 yX8_bare yX8_bare ∈ LW := LWm (i := 26) (by decide +kernel) rfl
theorem tw_27 : Cond.selects RX8 yX8_here yX8_here ∈ LW := LWm (i := 27) (by decide +kernel) rfl
theorem tw_29 : Cond.selects RX8 yX8_readWord yX8_readWord ∈ LW := LWm (i := 29) (by decide +kernel) rfl
theorem tw_31 : Cond.selects RX8 yX8_fails yX8_fails ∈ LW := LWm (i := 31) (by decide +kernel) rfl
theorem tw_35 : Cond.selects RX8 yX8_needs yX8_needs ∈ LW := LWm (i := 35) (by decide +kernel) rfl
theorem tw_38 : Cond.selects RX8 yX8_isStreet yX8_isStreet ∈ LW := LWm (i := 38) (by decide +kernel) rfl
theorem tw_55 : Cond.selects RX8 yX8_takeRule yX8_takeRule ∈ LW := LWm (i := 55) (by decide +kernel) rfl
theorem tw_63 : Cond.selects RX8 yX8_isCar yX8_isCar ∈ LW := LWm (i := 63) (by decide +kernel) rfl
theorem tw_87 : Cond.initialized RX8 ∈ LW := LWm (i := 87) (by decide +kernel) rfl
theorem tw_968 : Cond.methodLink RX8 1 objectInit ∈ LW := LWm (i := 968) (by decide +kernel) rfl
theorem tw_969 : Cond.methodLink RX8 102 yX8_bare ∈ LW := LWm (i := 969) (by decide +kernel) rfl
theorem tw_971 : Cond.instanceMethod yX8_bare ∈ LW := LWm (i := 971) (by decide +kernel) rfl
theorem tw_972 : Cond.code yX8_bare cX8_bare 1 none ∈ LW := LWm (i := 972) (by decide +kernel) rfl
theorem tw_973 : Cond.fieldLink RX8 7 "LastPlaceModel" "doorMany" "[I" ∈ LW := LWm (i := 973) (by decide +kernel) rfl
theorem tw_974 : Cond.fieldLink RX8 13 "LastPlaceModel" "frees" "[I" ∈ LW := LWm (i := 974) (by decide +kernel) rfl
theorem tw_975 : Cond.fieldLink RX8 16 "LastPlaceModel" "prices" "[I" ∈ LW := LWm (i := 975) (by decide +kernel) rfl
theorem tw_976 : Cond.fieldLink RX8 19 "LastPlaceModel" "singles" "[I" ∈ LW := LWm (i := 976) (by decide +kernel) rfl
theorem tw_977 : Cond.fieldLink RX8 22 "LastPlaceModel" "text" "[I" ∈ LW := LWm (i := 977) (by decide +kernel) rfl
theorem tw_978 : Cond.fieldLink RX8 113 "LastPlaceModel" "texted" "I" ∈ LW := LWm (i := 978) (by decide +kernel) rfl
theorem tw_979 : Cond.fieldLink RX8 25 "LastPlaceModel" "faultPlace" "I" ∈ LW := LWm (i := 979) (by decide +kernel) rfl
theorem tw_980 : Cond.fieldLink RX8 118 "LastPlaceModel" "at0" "I" ∈ LW := LWm (i := 980) (by decide +kernel) rfl
theorem tw_981 : Cond.fieldLink RX8 125 "LastPlaceModel" "word" "J" ∈ LW := LWm (i := 981) (by decide +kernel) rfl
theorem tw_982 : Cond.fieldLink RX8 129 "LastPlaceModel" "wordEnd" "I" ∈ LW := LWm (i := 982) (by decide +kernel) rfl
theorem tw_983 : Cond.fieldLink RX8 163 "LastPlaceModel" "number" "I" ∈ LW := LWm (i := 983) (by decide +kernel) rfl
theorem tw_985 : Cond.fieldLink RX8 177 "LastPlaceModel" "readDoors" "I" ∈ LW := LWm (i := 985) (by decide +kernel) rfl
theorem tw_986 : Cond.fieldLink RX8 29 "LastPlaceModel" "readFree" "[I" ∈ LW := LWm (i := 986) (by decide +kernel) rfl
theorem tw_987 : Cond.fieldLink RX8 32 "LastPlaceModel" "readPrice" "[I" ∈ LW := LWm (i := 987) (by decide +kernel) rfl
theorem tw_988 : Cond.fieldLink RX8 35 "LastPlaceModel" "readSingle" "[I" ∈ LW := LWm (i := 988) (by decide +kernel) rfl
theorem tw_989 : Cond.fieldLink RX8 180 "LastPlaceModel" "toldSet" "I" ∈ LW := LWm (i := 989) (by decide +kernel) rfl
theorem tw_990 : Cond.fieldLink RX8 38 "LastPlaceModel" "ons" "[I" ∈ LW := LWm (i := 990) (by decide +kernel) rfl
theorem tw_991 : Cond.fieldLink RX8 41 "LastPlaceModel" "worths" "[I" ∈ LW := LWm (i := 991) (by decide +kernel) rfl
theorem tw_992 : Cond.fieldLink RX8 44 "LastPlaceModel" "starts" "[I" ∈ LW := LWm (i := 992) (by decide +kernel) rfl
theorem tw_993 : Cond.fieldLink RX8 47 "LastPlaceModel" "ends" "[I" ∈ LW := LWm (i := 993) (by decide +kernel) rfl
theorem tw_994 : Cond.fieldLink RX8 50 "LastPlaceModel" "goesRound" "[Z" ∈ LW := LWm (i := 994) (by decide +kernel) rfl
theorem tw_995 : Cond.fieldLink RX8 54 "LastPlaceModel" "begin" "[I" ∈ LW := LWm (i := 995) (by decide +kernel) rfl
theorem tw_996 : Cond.fieldLink RX8 276 "LastPlaceModel" "rules" "I" ∈ LW := LWm (i := 996) (by decide +kernel) rfl
theorem tw_997 : Cond.fieldLink RX8 57 "LastPlaceModel" "barMany" "[I" ∈ LW := LWm (i := 997) (by decide +kernel) rfl
theorem tw_998 : Cond.fieldLink RX8 60 "LastPlaceModel" "barSeen" "[I" ∈ LW := LWm (i := 998) (by decide +kernel) rfl
theorem tw_999 : Cond.fieldLink RX8 63 "LastPlaceModel" "barFrom" "[I" ∈ LW := LWm (i := 999) (by decide +kernel) rfl
theorem tw_1000 : Cond.fieldLink RX8 66 "LastPlaceModel" "ruleRounds" "[I" ∈ LW := LWm (i := 1000) (by decide +kernel) rfl
theorem tw_1001 : Cond.fieldLink RX8 69 "LastPlaceModel" "follows" "[I" ∈ LW := LWm (i := 1001) (by decide +kernel) rfl
theorem tw_1002 : Cond.fieldLink RX8 72 "LastPlaceModel" "before" "[I" ∈ LW := LWm (i := 1002) (by decide +kernel) rfl
theorem tw_1003 : Cond.fieldLink RX8 304 "LastPlaceModel" "rowMany" "I" ∈ LW := LWm (i := 1003) (by decide +kernel) rfl
theorem tw_1004 : Cond.fieldLink RX8 75 "LastPlaceModel" "row" "[Z" ∈ LW := LWm (i := 1004) (by decide +kernel) rfl
theorem tw_1005 : Cond.fieldLink RX8 78 "LastPlaceModel" "boys" "[I" ∈ LW := LWm (i := 1005) (by decide +kernel) rfl
theorem tw_1006 : Cond.fieldLink RX8 81 "LastPlaceModel" "boysNext" "[I" ∈ LW := LWm (i := 1006) (by decide +kernel) rfl
theorem tw_1007 : Cond.fieldLink RX8 315 "LastPlaceModel" "cars" "I" ∈ LW := LWm (i := 1007) (by decide +kernel) rfl
theorem tw_1008 : Cond.fieldLink RX8 84 "LastPlaceModel" "walks" "[I" ∈ LW := LWm (i := 1008) (by decide +kernel) rfl
theorem tw_1009 : Cond.fieldLink RX8 87 "LastPlaceModel" "bars" "[I" ∈ LW := LWm (i := 1009) (by decide +kernel) rfl
theorem tw_1012 : Cond.fieldLink RX8 90 "LastPlaceModel" "doorsOf" "[I" ∈ LW := LWm (i := 1012) (by decide +kernel) rfl
theorem tw_1013 : Cond.fieldLink RX8 93 "LastPlaceModel" "wasBars" "[I" ∈ LW := LWm (i := 1013) (by decide +kernel) rfl
theorem tw_1014 : Cond.fieldLink RX8 374 "LastPlaceModel" "seed" "I" ∈ LW := LWm (i := 1014) (by decide +kernel) rfl
theorem tw_1015 : Cond.fieldLink RX8 96 "LastPlaceModel" "isKept" "[Z" ∈ LW := LWm (i := 1015) (by decide +kernel) rfl
theorem tw_1016 : Cond.fieldLink RX8 99 "LastPlaceModel" "images" "[I" ∈ LW := LWm (i := 1016) (by decide +kernel) rfl
theorem tw_1110 : Cond.constantLong RX8 111 (8) ∈ LW := LWm (i := 1110) (by decide +kernel) rfl
theorem tw_1111 : Cond.methodLink RX8 107 yX8_in ∈ LW := LWm (i := 1111) (by decide +kernel) rfl
theorem tw_1112 : Cond.static yX8_in ∈ LW := LWm (i := 1112) (by decide +kernel) rfl
theorem tw_1113 : Cond.code yX8_in cX8_in 6 (some .boolean) ∈ LW := LWm (i := 1113) (by decide +kernel) rfl
theorem tw_1114 : Cond.constantLong RX8 116 (255) ∈ LW := LWm (i := 1114) (by decide +kernel) rfl
theorem tw_1119 : Cond.constantLong RX8 105 (2) ∈ LW := LWm (i := 1119) (by decide +kernel) rfl
theorem tw_1120 : Cond.methodLink RX8 121 yX8_here ∈ LW := LWm (i := 1120) (by decide +kernel) rfl
theorem tw_1122 : Cond.instanceMethod yX8_here ∈ LW := LWm (i := 1122) (by decide +kernel) rfl
theorem tw_1123 : Cond.code yX8_here cX8_here 1 (some .int) ∈ LW := LWm (i := 1123) (by decide +kernel) rfl
theorem tw_1128 : Cond.methodLink RX8 156 yX8_readWord ∈ LW := LWm (i := 1128) (by decide +kernel) rfl
theorem tw_1130 : Cond.instanceMethod yX8_readWord ∈ LW := LWm (i := 1130) (by decide +kernel) rfl
theorem tw_1131 : Cond.code yX8_readWord cX8_readWord 2 none ∈ LW := LWm (i := 1131) (by decide +kernel) rfl
theorem tw_1136 : Cond.constantLong RX8 140 (27) ∈ LW := LWm (i := 1136) (by decide +kernel) rfl
theorem tw_1137 : Cond.constantLong RX8 142 (96) ∈ LW := LWm (i := 1137) (by decide +kernel) rfl
theorem tw_1142 : Cond.methodLink RX8 148 yX8_code ∈ LW := LWm (i := 1142) (by decide +kernel) rfl
theorem tw_1143 : Cond.static yX8_code ∈ LW := LWm (i := 1143) (by decide +kernel) rfl
theorem tw_1144 : Cond.code yX8_code cX8_code 3 (some .long) ∈ LW := LWm (i := 1144) (by decide +kernel) rfl
theorem tw_1148 : Cond.methodLink RX8 144 yX8_longer ∈ LW := LWm (i := 1148) (by decide +kernel) rfl
theorem tw_1149 : Cond.static yX8_longer ∈ LW := LWm (i := 1149) (by decide +kernel) rfl
theorem tw_1150 : Cond.code yX8_longer cX8_longer 3 (some .long) ∈ LW := LWm (i := 1150) (by decide +kernel) rfl
theorem tw_1151 : Cond.methodLink RX8 159 yX8_fails ∈ LW := LWm (i := 1151) (by decide +kernel) rfl
theorem tw_1153 : Cond.instanceMethod yX8_fails ∈ LW := LWm (i := 1153) (by decide +kernel) rfl
theorem tw_1154 : Cond.code yX8_fails cX8_fails 3 (some .int) ∈ LW := LWm (i := 1154) (by decide +kernel) rfl
theorem tw_1169 : Cond.methodLink RX8 186 yX8_needs ∈ LW := LWm (i := 1169) (by decide +kernel) rfl
theorem tw_1171 : Cond.instanceMethod yX8_needs ∈ LW := LWm (i := 1171) (by decide +kernel) rfl
theorem tw_1172 : Cond.code yX8_needs cX8_needs 3 (some .int) ∈ LW := LWm (i := 1172) (by decide +kernel) rfl
theorem tw_1189 : Cond.methodLink RX8 206 yX8_isStreet ∈ LW := LWm (i := 1189) (by decide +kernel) rfl
theorem tw_1191 : Cond.instanceMethod yX8_isStreet ∈ LW := LWm (i := 1191) (by decide +kernel) rfl
theorem tw_1192 : Cond.code yX8_isStreet cX8_isStreet 2 (some .boolean) ∈ LW := LWm (i := 1192) (by decide +kernel) rfl
theorem tw_1309 : Cond.methodLink RX8 282 yX8_takeRule ∈ LW := LWm (i := 1309) (by decide +kernel) rfl
theorem tw_1311 : Cond.instanceMethod yX8_takeRule ∈ LW := LWm (i := 1311) (by decide +kernel) rfl
theorem tw_1312 : Cond.code yX8_takeRule cX8_takeRule 5 (some .int) ∈ LW := LWm (i := 1312) (by decide +kernel) rfl
theorem tw_1368 : Cond.constantLong RX8 311 (99) ∈ LW := LWm (i := 1368) (by decide +kernel) rfl
theorem tw_1377 : Cond.constantLong RX8 313 (24) ∈ LW := LWm (i := 1377) (by decide +kernel) rfl
theorem tw_1382 : Cond.methodLink RX8 318 yX8_isCar ∈ LW := LWm (i := 1382) (by decide +kernel) rfl
theorem tw_1384 : Cond.instanceMethod yX8_isCar ∈ LW := LWm (i := 1384) (by decide +kernel) rfl
theorem tw_1385 : Cond.code yX8_isCar cX8_isCar 2 (some .boolean) ∈ LW := LWm (i := 1385) (by decide +kernel) rfl

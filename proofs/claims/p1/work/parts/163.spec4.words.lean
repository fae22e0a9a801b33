theorem tw_2 : Cond.selects RX7 yX7_closeText yX7_closeText ∈ LW := LWm (i := 2) (by decide +kernel) rfl
theorem tw_82 : Cond.initialized RX4 ∈ LW := LWm (i := 82) (by decide +kernel) rfl
theorem tw_83 : Cond.initialized RX2 ∈ LW := LWm (i := 83) (by decide +kernel) rfl
theorem tw_84 : Cond.initialized RX1 ∈ LW := LWm (i := 84) (by decide +kernel) rfl
theorem tw_85 : Cond.initialized RX0 ∈ LW := LWm (i := 85) (by decide +kernel) rfl
theorem tw_86 : Cond.initialized RX3 ∈ LW := LWm (i := 86) (by decide +kernel) rfl
theorem tw_94 : Cond.initialized RJ6 ∈ LW := LWm (i := 94) (by decide +kernel) rfl
theorem tw_100 : Cond.methodLink RX7 3 objectInit ∈ LW := LWm (i := 100) (by decide +kernel) rfl
theorem tw_103 : Cond.classLink RX7 9 RX6 ∈ LW := LWm (i := 103) (by decide +kernel) rfl
theorem tw_104 : Cond.instantiable RX6 6 ∈ LW := LWm (i := 104) (by decide +kernel) rfl
theorem tw_106 : Cond.instanceMethod yX6_init ∈ LW := LWm (i := 106) (by decide +kernel) rfl
theorem tw_107 : Cond.code yX6_init cX6_init 1 none ∈ LW := LWm (i := 107) (by decide +kernel) rfl
theorem tw_111 : Cond.fieldLink RX7 81 "LastPlace$Text" "size" "I" ∈ LW := LWm (i := 111) (by decide +kernel) rfl
theorem tw_120 : Cond.fieldLink RX7 292 "LastPlace$Text" "faultNumber" "I" ∈ LW := LWm (i := 120) (by decide +kernel) rfl
theorem tw_122 : Cond.fieldLink RX7 289 "LastPlace$Text" "faultByte" "I" ∈ LW := LWm (i := 122) (by decide +kernel) rfl
theorem tw_137 : Cond.classLink RX7 16 RX5 ∈ LW := LWm (i := 137) (by decide +kernel) rfl
theorem tw_139 : Cond.classLink RX7 22 RX0 ∈ LW := LWm (i := 139) (by decide +kernel) rfl
theorem tw_141 : Cond.instantiable RX5 4 ∈ LW := LWm (i := 141) (by decide +kernel) rfl
theorem tw_143 : Cond.instanceMethod yX5_init ∈ LW := LWm (i := 143) (by decide +kernel) rfl
theorem tw_144 : Cond.code yX5_init cX5_init 1 none ∈ LW := LWm (i := 144) (by decide +kernel) rfl
theorem tw_165 : Cond.classLink RX7 33 RX3 ∈ LW := LWm (i := 165) (by decide +kernel) rfl
theorem tw_167 : Cond.classLink RX7 46 RX4 ∈ LW := LWm (i := 167) (by decide +kernel) rfl
theorem tw_168 : Cond.instantiable RX4 6 ∈ LW := LWm (i := 168) (by decide +kernel) rfl
theorem tw_170 : Cond.instanceMethod yX4_init ∈ LW := LWm (i := 170) (by decide +kernel) rfl
theorem tw_171 : Cond.code yX4_init cX4_init 1 none ∈ LW := LWm (i := 171) (by decide +kernel) rfl
theorem tw_184 : Cond.fieldLink RX7 176 "LastPlace$Scene" "rowSize" "I" ∈ LW := LWm (i := 184) (by decide +kernel) rfl
theorem tw_187 : Cond.fieldLink RX7 183 "LastPlace$Scene" "rowFree" "I" ∈ LW := LWm (i := 187) (by decide +kernel) rfl
theorem tw_189 : Cond.fieldLink RX7 266 "LastPlace$Scene" "seedNow" "I" ∈ LW := LWm (i := 189) (by decide +kernel) rfl
theorem tw_204 : Cond.classLink RX7 61 RX2 ∈ LW := LWm (i := 204) (by decide +kernel) rfl
theorem tw_205 : Cond.instantiable RX2 5 ∈ LW := LWm (i := 205) (by decide +kernel) rfl
theorem tw_207 : Cond.instanceMethod yX2_init ∈ LW := LWm (i := 207) (by decide +kernel) rfl
theorem tw_208 : Cond.code yX2_init cX2_init 1 none ∈ LW := LWm (i := 208) (by decide +kernel) rfl
theorem tw_228 : Cond.arrayClass .boolean ∈ LW := LWm (i := 228) (by decide +kernel) rfl
theorem tw_229 : Cond.classLink RX7 68 RX1 ∈ LW := LWm (i := 229) (by decide +kernel) rfl
theorem tw_230 : Cond.instantiable RX1 8 ∈ LW := LWm (i := 230) (by decide +kernel) rfl
theorem tw_231 : Cond.methodLink RX7 70 yX1_init ∈ LW := LWm (i := 231) (by decide +kernel) rfl
theorem tw_232 : Cond.instanceMethod yX1_init ∈ LW := LWm (i := 232) (by decide +kernel) rfl
theorem tw_233 : Cond.code yX1_init cX1_init 2 none ∈ LW := LWm (i := 233) (by decide +kernel) rfl
theorem tw_261 : Cond.instantiable RX0 5 ∈ LW := LWm (i := 261) (by decide +kernel) rfl
theorem tw_262 : Cond.methodLink RX7 77 yX0_init ∈ LW := LWm (i := 262) (by decide +kernel) rfl
theorem tw_263 : Cond.instanceMethod yX0_init ∈ LW := LWm (i := 263) (by decide +kernel) rfl
theorem tw_264 : Cond.code yX0_init cX0_init 2 none ∈ LW := LWm (i := 264) (by decide +kernel) rfl
theorem tw_284 : Cond.instantiable RX3 5 ∈ LW := LWm (i := 284) (by decide +kernel) rfl
theorem tw_286 : Cond.instanceMethod yX3_init ∈ LW := LWm (i := 286) (by decide +kernel) rfl
theorem tw_287 : Cond.code yX3_init cX3_init 1 none ∈ LW := LWm (i := 287) (by decide +kernel) rfl
theorem tw_305 : Cond.fieldLink RX7 12 "LastPlace" "text" "LLastPlace$Text;" ∈ LW := LWm (i := 305) (by decide +kernel) rfl
theorem tw_307 : Cond.fieldLink RX7 24 "LastPlace" "ways" "[LLastPlace$BestWay;" ∈ LW := LWm (i := 307) (by decide +kernel) rfl
theorem tw_308 : Cond.fieldLink RX7 29 "LastPlace" "draft" "LLastPlace$Street;" ∈ LW := LWm (i := 308) (by decide +kernel) rfl
theorem tw_309 : Cond.fieldLink RX7 35 "LastPlace" "rules" "[LLastPlace$Rule;" ∈ LW := LWm (i := 309) (by decide +kernel) rfl
theorem tw_310 : Cond.fieldLink RX7 39 "LastPlace" "ruleCount" "I" ∈ LW := LWm (i := 310) (by decide +kernel) rfl
theorem tw_313 : Cond.fieldLink RX7 53 "LastPlace" "images" "[LLastPlace$Scene;" ∈ LW := LWm (i := 313) (by decide +kernel) rfl
theorem tw_314 : Cond.fieldLink RX7 57 "LastPlace" "kept" "[Z" ∈ LW := LWm (i := 314) (by decide +kernel) rfl
theorem tw_315 : Cond.fieldLink RX7 64 "LastPlace" "reckoner" "LLastPlace$Reckoner;" ∈ LW := LWm (i := 315) (by decide +kernel) rfl
theorem tw_316 : Cond.fieldLink RX7 73 "LastPlace" "parking" "LLastPlace$Parking;" ∈ LW := LWm (i := 316) (by decide +kernel) rfl
theorem tw_346 : Cond.methodLink RX7 84 yX6_append ∈ LW := LWm (i := 346) (by decide +kernel) rfl
theorem tw_347 : Cond.instanceMethod yX6_append ∈ LW := LWm (i := 347) (by decide +kernel) rfl
theorem tw_348 : Cond.selects RX6 yX6_append yX6_append ∈ LW := LWm (i := 348) (by decide +kernel) rfl
theorem tw_349 : Cond.code yX6_append cX6_append 2 none ∈ LW := LWm (i := 349) (by decide +kernel) rfl
theorem tw_354 : Cond.methodLink RX7 88 yX6_rewind ∈ LW := LWm (i := 354) (by decide +kernel) rfl
theorem tw_355 : Cond.instanceMethod yX6_rewind ∈ LW := LWm (i := 355) (by decide +kernel) rfl
theorem tw_356 : Cond.selects RX6 yX6_rewind yX6_rewind ∈ LW := LWm (i := 356) (by decide +kernel) rfl
theorem tw_357 : Cond.code yX6_rewind cX6_rewind 1 none ∈ LW := LWm (i := 357) (by decide +kernel) rfl
theorem tw_358 : Cond.methodLink RX7 91 yX5_readFrom ∈ LW := LWm (i := 358) (by decide +kernel) rfl
theorem tw_359 : Cond.instanceMethod yX5_readFrom ∈ LW := LWm (i := 359) (by decide +kernel) rfl
theorem tw_360 : Cond.selects RX5 yX5_readFrom yX5_readFrom ∈ LW := LWm (i := 360) (by decide +kernel) rfl
theorem tw_361 : Cond.code yX5_readFrom cX5_readFrom 6 none ∈ LW := LWm (i := 361) (by decide +kernel) rfl
theorem tw_496 : Cond.methodLink RX7 95 yX7_closeText ∈ LW := LWm (i := 496) (by decide +kernel) rfl
theorem tw_498 : Cond.instanceMethod yX7_closeText ∈ LW := LWm (i := 498) (by decide +kernel) rfl
theorem tw_499 : Cond.code yX7_closeText cX7_closeText 1 (some .int) ∈ LW := LWm (i := 499) (by decide +kernel) rfl
theorem tw_500 : Cond.methodLink RX7 286 yX6_failed ∈ LW := LWm (i := 500) (by decide +kernel) rfl
theorem tw_593 : Cond.methodLink RX7 112 yX7_isIn ∈ LW := LWm (i := 593) (by decide +kernel) rfl
theorem tw_594 : Cond.static yX7_isIn ∈ LW := LWm (i := 594) (by decide +kernel) rfl
theorem tw_595 : Cond.code yX7_isIn cX7_isIn 3 (some .boolean) ∈ LW := LWm (i := 595) (by decide +kernel) rfl
theorem tw_675 : Cond.methodLink RX7 168 yX3_readFrom ∈ LW := LWm (i := 675) (by decide +kernel) rfl
theorem tw_676 : Cond.instanceMethod yX3_readFrom ∈ LW := LWm (i := 676) (by decide +kernel) rfl
theorem tw_677 : Cond.selects RX3 yX3_readFrom yX3_readFrom ∈ LW := LWm (i := 677) (by decide +kernel) rfl
theorem tw_678 : Cond.code yX3_readFrom cX3_readFrom 3 none ∈ LW := LWm (i := 678) (by decide +kernel) rfl
theorem tw_740 : Cond.methodLink RX7 179 yX4_see ∈ LW := LWm (i := 740) (by decide +kernel) rfl
theorem tw_741 : Cond.instanceMethod yX4_see ∈ LW := LWm (i := 741) (by decide +kernel) rfl
theorem tw_742 : Cond.selects RX4 yX4_see yX4_see ∈ LW := LWm (i := 742) (by decide +kernel) rfl
theorem tw_743 : Cond.code yX4_see cX4_see 2 (some .int) ∈ LW := LWm (i := 743) (by decide +kernel) rfl
theorem tw_800 : Cond.fieldLink RX7 211 "LastPlace" "MOST" "[I" ∈ LW := LWm (i := 800) (by decide +kernel) rfl
theorem tw_801 : Cond.methodLink RX7 217 yX4_addCar ∈ LW := LWm (i := 801) (by decide +kernel) rfl
theorem tw_802 : Cond.instanceMethod yX4_addCar ∈ LW := LWm (i := 802) (by decide +kernel) rfl
theorem tw_803 : Cond.selects RX4 yX4_addCar yX4_addCar ∈ LW := LWm (i := 803) (by decide +kernel) rfl
theorem tw_804 : Cond.code yX4_addCar cX4_addCar 4 (some .int) ∈ LW := LWm (i := 804) (by decide +kernel) rfl
theorem tw_883 : Cond.methodLink RX4 31 arraycopyName ∈ LW := LWm (i := 883) (by decide +kernel) rfl
theorem tw_945 : Cond.methodLink RX7 275 yJ6_bitCount_0f7a4 ∈ LW := LWm (i := 945) (by decide +kernel) rfl
theorem tw_946 : Cond.static yJ6_bitCount_0f7a4 ∈ LW := LWm (i := 946) (by decide +kernel) rfl
theorem tw_947 : Cond.code yJ6_bitCount_0f7a4 cJ6_bitCount_0f7a4 1 (some .int) ∈ LW := LWm (i := 947) (by decide +kernel) rfl
theorem tw_948 : Cond.constant RJ6 265 (1431655765) ∈ LW := LWm (i := 948) (by decide +kernel) rfl
theorem tw_949 : Cond.constant RJ6 266 (858993459) ∈ LW := LWm (i := 949) (by decide +kernel) rfl
theorem tw_950 : Cond.constant RJ6 267 (252645135) ∈ LW := LWm (i := 950) (by decide +kernel) rfl
theorem tw_955 : Cond.methodLink RX7 280 yX4_copyFrom ∈ LW := LWm (i := 955) (by decide +kernel) rfl
theorem tw_956 : Cond.instanceMethod yX4_copyFrom ∈ LW := LWm (i := 956) (by decide +kernel) rfl
theorem tw_957 : Cond.selects RX4 yX4_copyFrom yX4_copyFrom ∈ LW := LWm (i := 957) (by decide +kernel) rfl
theorem tw_958 : Cond.code yX4_copyFrom cX4_copyFrom 2 none ∈ LW := LWm (i := 958) (by decide +kernel) rfl

theorem tw_89 : Cond.initialized RJ0 ∈ LW := LWm1 (i := 11) (by decide +kernel) rfl
theorem tw_90 : Cond.initialized RJ1 ∈ LW := LWm1 (i := 12) (by decide +kernel) rfl
theorem tw_91 : Cond.initialized RJ3 ∈ LW := LWm1 (i := 13) (by decide +kernel) rfl
theorem tw_407 : Cond.methodLink RJ0 335 yJ0_coder_7d493 ∈ LW := LWm2 (i := 89) (by decide +kernel) rfl
theorem tw_408 : Cond.instanceMethod yJ0_coder_7d493 ∈ LW := LWm2 (i := 90) (by decide +kernel) rfl
theorem tw_409 : Cond.selects RJ0 yJ0_coder_7d493 yJ0_coder_7d493 ∈ LW := LWm2 (i := 91) (by decide +kernel) rfl
set_option maxRecDepth 100000 in theorem tw_410 : Cond.code yJ0_coder_7d493 cJ0_coder_7d493 1 (some .byte) ∈ LW := LWm2 (i := 92) rfl rfl
theorem tw_411 : Cond.fieldLink RJ0 38 "java/lang/String" "COMPACT_STRINGS" "Z" ∈ LW := LWm2 (i := 93) (by decide +kernel) rfl
theorem tw_417 : Cond.methodLink RJ0 492 yJ0_isLatin1_aae02 ∈ LW := LWm2 (i := 99) (by decide +kernel) rfl
theorem tw_418 : Cond.instanceMethod yJ0_isLatin1_aae02 ∈ LW := LWm2 (i := 100) (by decide +kernel) rfl
theorem tw_419 : Cond.selects RJ0 yJ0_isLatin1_aae02 yJ0_isLatin1_aae02 ∈ LW := LWm2 (i := 101) (by decide +kernel) rfl
set_option maxRecDepth 100000 in theorem tw_420 : Cond.code yJ0_isLatin1_aae02 cJ0_isLatin1_aae02 1 (some .boolean) ∈ LW := LWm2 (i := 102) rfl rfl
theorem tw_421 : Cond.methodLink RJ0 495 yJ1_charAt_3b067 ∈ LW := LWm2 (i := 103) (by decide +kernel) rfl
theorem tw_422 : Cond.static yJ1_charAt_3b067 ∈ LW := LWm2 (i := 104) (by decide +kernel) rfl
set_option maxRecDepth 100000 in theorem tw_423 : Cond.code yJ1_charAt_3b067 cJ1_charAt_3b067 2 (some .char) ∈ LW := LWm2 (i := 105) rfl rfl
theorem tw_424 : Cond.methodLink RJ1 9 yJ0_checkIndex_df160 ∈ LW := LWm2 (i := 106) (by decide +kernel) rfl
theorem tw_425 : Cond.static yJ0_checkIndex_df160 ∈ LW := LWm2 (i := 107) (by decide +kernel) rfl
set_option maxRecDepth 100000 in theorem tw_426 : Cond.code yJ0_checkIndex_df160 cJ0_checkIndex_df160 2 none ∈ LW := LWm2 (i := 108) rfl rfl
theorem tw_427 : Cond.fieldLink RJ0 1053 "jdk/internal/util/Preconditions" "SIOOBE_FORMATTER" "Ljava/util/function/BiFunction;" ∈ LW := LWm2 (i := 109) (by decide +kernel) rfl
theorem tw_429 : Cond.methodLink RJ0 1059 yJ3_checkIndex_8e157 ∈ LW := LWm2 (i := 111) (by decide +kernel) rfl
theorem tw_430 : Cond.static yJ3_checkIndex_8e157 ∈ LW := LWm2 (i := 112) (by decide +kernel) rfl
set_option maxRecDepth 100000 in theorem tw_431 : Cond.code yJ3_checkIndex_8e157 cJ3_checkIndex_8e157 3 (some .int) ∈ LW := LWm2 (i := 113) rfl rfl
theorem tw_948 : Cond.constant RJ6 265 (1431655765) ∈ LW := LWm4 (i := 150) (by decide +kernel) rfl
theorem tw_949 : Cond.constant RJ6 266 (858993459) ∈ LW := LWm4 (i := 151) (by decide +kernel) rfl
theorem tw_950 : Cond.constant RJ6 267 (252645135) ∈ LW := LWm4 (i := 152) (by decide +kernel) rfl
theorem tw_1502 : Cond.fieldLink RJ0 9 "java/lang/String" "value" "[B" ∈ LW := LWm6 (i := 224) (by decide +kernel) rfl
theorem tw_1503 : Cond.fieldLink RJ0 15 "java/lang/String" "coder" "B" ∈ LW := LWm6 (i := 225) (by decide +kernel) rfl

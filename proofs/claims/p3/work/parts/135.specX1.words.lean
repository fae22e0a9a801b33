theorem tw_89 : Cond.initialized RJ0 ∈ LW := LWm (i := 89) (by decide +kernel) rfl
theorem tw_90 : Cond.initialized RJ1 ∈ LW := LWm (i := 90) (by decide +kernel) rfl
theorem tw_91 : Cond.initialized RJ3 ∈ LW := LWm (i := 91) (by decide +kernel) rfl
theorem tw_407 : Cond.methodLink RJ0 335 yJ0_coder_7d493 ∈ LW := LWm (i := 407) (by decide +kernel) rfl
theorem tw_408 : Cond.instanceMethod yJ0_coder_7d493 ∈ LW := LWm (i := 408) (by decide +kernel) rfl
theorem tw_409 : Cond.selects RJ0 yJ0_coder_7d493 yJ0_coder_7d493 ∈ LW := LWm (i := 409) (by decide +kernel) rfl
set_option maxRecDepth 100000 in theorem tw_410 : Cond.code yJ0_coder_7d493 cJ0_coder_7d493 1 (some .byte) ∈ LW := LWm (i := 410) rfl rfl
theorem tw_411 : Cond.fieldLink RJ0 38 "java/lang/String" "COMPACT_STRINGS" "Z" ∈ LW := LWm (i := 411) (by decide +kernel) rfl
theorem tw_417 : Cond.methodLink RJ0 492 yJ0_isLatin1_aae02 ∈ LW := LWm (i := 417) (by decide +kernel) rfl
theorem tw_418 : Cond.instanceMethod yJ0_isLatin1_aae02 ∈ LW := LWm (i := 418) (by decide +kernel) rfl
theorem tw_419 : Cond.selects RJ0 yJ0_isLatin1_aae02 yJ0_isLatin1_aae02 ∈ LW := LWm (i := 419) (by decide +kernel) rfl
set_option maxRecDepth 100000 in theorem tw_420 : Cond.code yJ0_isLatin1_aae02 cJ0_isLatin1_aae02 1 (some .boolean) ∈ LW := LWm (i := 420) rfl rfl
theorem tw_421 : Cond.methodLink RJ0 495 yJ1_charAt_3b067 ∈ LW := LWm (i := 421) (by decide +kernel) rfl
theorem tw_422 : Cond.static yJ1_charAt_3b067 ∈ LW := LWm (i := 422) (by decide +kernel) rfl
set_option maxRecDepth 100000 in theorem tw_423 : Cond.code yJ1_charAt_3b067 cJ1_charAt_3b067 2 (some .char) ∈ LW := LWm (i := 423) rfl rfl
theorem tw_424 : Cond.methodLink RJ1 9 yJ0_checkIndex_df160 ∈ LW := LWm (i := 424) (by decide +kernel) rfl
theorem tw_425 : Cond.static yJ0_checkIndex_df160 ∈ LW := LWm (i := 425) (by decide +kernel) rfl
set_option maxRecDepth 100000 in theorem tw_426 : Cond.code yJ0_checkIndex_df160 cJ0_checkIndex_df160 2 none ∈ LW := LWm (i := 426) rfl rfl
theorem tw_427 : Cond.fieldLink RJ0 1053 "jdk/internal/util/Preconditions" "SIOOBE_FORMATTER" "Ljava/util/function/BiFunction;" ∈ LW := LWm (i := 427) (by decide +kernel) rfl
theorem tw_429 : Cond.methodLink RJ0 1059 yJ3_checkIndex_8e157 ∈ LW := LWm (i := 429) (by decide +kernel) rfl
theorem tw_430 : Cond.static yJ3_checkIndex_8e157 ∈ LW := LWm (i := 430) (by decide +kernel) rfl
set_option maxRecDepth 100000 in theorem tw_431 : Cond.code yJ3_checkIndex_8e157 cJ3_checkIndex_8e157 3 (some .int) ∈ LW := LWm (i := 431) rfl rfl
theorem tw_948 : Cond.constant RJ6 265 (1431655765) ∈ LW := LWm (i := 948) (by decide +kernel) rfl
theorem tw_949 : Cond.constant RJ6 266 (858993459) ∈ LW := LWm (i := 949) (by decide +kernel) rfl
theorem tw_950 : Cond.constant RJ6 267 (252645135) ∈ LW := LWm (i := 950) (by decide +kernel) rfl
theorem tw_1502 : Cond.fieldLink RJ0 9 "java/lang/String" "value" "[B" ∈ LW := LWm (i := 1502) (by decide +kernel) rfl
theorem tw_1503 : Cond.fieldLink RJ0 15 "java/lang/String" "coder" "B" ∈ LW := LWm (i := 1503) (by decide +kernel) rfl

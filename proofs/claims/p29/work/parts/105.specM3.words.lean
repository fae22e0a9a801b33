theorem tw_30 : Cond.selects RX8 yX8_clauseOf yX8_clauseOf ∈ LW := LWm (i := 30) (by decide +kernel) rfl
theorem tw_32 : Cond.selects RX8 yX8_takeDoors yX8_takeDoors ∈ LW := LWm (i := 32) (by decide +kernel) rfl
theorem tw_36 : Cond.selects RX8 yX8_takeSingle yX8_takeSingle ∈ LW := LWm (i := 36) (by decide +kernel) rfl
theorem tw_37 : Cond.selects RX8 yX8_takeSigned yX8_takeSigned ∈ LW := LWm (i := 37) (by decide +kernel) rfl
theorem tw_1138 : Cond.methodLink RX8 194 yX8_clauseOf ∈ LW := LWm5 (i := 100) (by decide +kernel) rfl
theorem tw_1140 : Cond.instanceMethod yX8_clauseOf ∈ LW := LWm5 (i := 102) (by decide +kernel) rfl
set_option maxRecDepth 100000 in theorem tw_1141 : Cond.code yX8_clauseOf cX8_clauseOf 7 (some .int) ∈ LW := LWm5 (i := 103) rfl rfl
theorem tw_1155 : Cond.methodLink RX8 197 yX8_takeDoors ∈ LW := LWm5 (i := 117) (by decide +kernel) rfl
theorem tw_1157 : Cond.instanceMethod yX8_takeDoors ∈ LW := LWm5 (i := 119) (by decide +kernel) rfl
set_option maxRecDepth 100000 in theorem tw_1158 : Cond.code yX8_takeDoors cX8_takeDoors 5 (some .int) ∈ LW := LWm5 (i := 120) rfl rfl
theorem tw_1173 : Cond.methodLink RX8 200 yX8_takeSingle ∈ LW := LWm5 (i := 135) (by decide +kernel) rfl
theorem tw_1175 : Cond.instanceMethod yX8_takeSingle ∈ LW := LWm5 (i := 137) (by decide +kernel) rfl
set_option maxRecDepth 100000 in theorem tw_1176 : Cond.code yX8_takeSingle cX8_takeSingle 4 (some .int) ∈ LW := LWm5 (i := 138) rfl rfl
theorem tw_1177 : Cond.methodLink RX8 190 yX8_takeSigned ∈ LW := LWm5 (i := 139) (by decide +kernel) rfl
theorem tw_1179 : Cond.instanceMethod yX8_takeSigned ∈ LW := LWm5 (i := 141) (by decide +kernel) rfl
set_option maxRecDepth 100000 in theorem tw_1180 : Cond.code yX8_takeSigned cX8_takeSigned 4 (some .int) ∈ LW := LWm5 (i := 142) rfl rfl

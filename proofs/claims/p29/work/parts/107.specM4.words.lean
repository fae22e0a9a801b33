theorem tw_26 : Cond.selects RX8 yX8_bare yX8_bare ∈ LW := LWm (i := 26) (by decide +kernel) rfl
theorem tw_28 : Cond.selects RX8 yX8_takeClause yX8_takeClause ∈ LW := LWm (i := 28) (by decide +kernel) rfl
theorem tw_969 : Cond.methodLink RX8 102 yX8_bare ∈ LW := LWm4 (i := 171) (by decide +kernel) rfl
theorem tw_971 : Cond.instanceMethod yX8_bare ∈ LW := LWm4 (i := 173) (by decide +kernel) rfl
set_option maxRecDepth 100000 in theorem tw_972 : Cond.code yX8_bare cX8_bare 1 none ∈ LW := LWm4 (i := 174) rfl rfl
theorem tw_1124 : Cond.methodLink RX8 203 yX8_takeClause ∈ LW := LWm5 (i := 86) (by decide +kernel) rfl
theorem tw_1126 : Cond.instanceMethod yX8_takeClause ∈ LW := LWm5 (i := 88) (by decide +kernel) rfl
set_option maxRecDepth 100000 in theorem tw_1127 : Cond.code yX8_takeClause cX8_takeClause 4 (some .int) ∈ LW := LWm5 (i := 89) rfl rfl

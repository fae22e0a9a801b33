theorem tw_95 : Cond.classLink R_law 7 RX7 ∈ LW := LWm (i := 95) (by decide +kernel) rfl
theorem tw_96 : Cond.instantiable RX7 12 ∈ LW := LWm (i := 96) (by decide +kernel) rfl
theorem tw_97 : Cond.methodLink R_law 9 yX7_init ∈ LW := LWm (i := 97) (by decide +kernel) rfl
theorem tw_98 : Cond.instanceMethod yX7_init ∈ LW := LWm (i := 98) (by decide +kernel) rfl
set_option maxRecDepth 100000 in theorem tw_99 : Cond.code yX7_init cX7_init 2 none ∈ LW := LWm (i := 99) rfl rfl
theorem tw_963 : Cond.classLink R_law 10 RX8 ∈ LW := LWm (i := 963) (by decide +kernel) rfl
theorem tw_964 : Cond.instantiable RX8 44 ∈ LW := LWm (i := 964) (by decide +kernel) rfl
theorem tw_965 : Cond.methodLink R_law 12 yX8_init ∈ LW := LWm (i := 965) (by decide +kernel) rfl
theorem tw_966 : Cond.instanceMethod yX8_init ∈ LW := LWm (i := 966) (by decide +kernel) rfl
set_option maxRecDepth 100000 in theorem tw_967 : Cond.code yX8_init cX8_init 1 none ∈ LW := LWm (i := 967) rfl rfl

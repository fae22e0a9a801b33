theorem tw_95 : Cond.classLink R_law 7 RX7 ∈ LW := LWm1 (i := 17) (by decide +kernel) rfl
theorem tw_96 : Cond.instantiable RX7 12 ∈ LW := LWm1 (i := 18) (by decide +kernel) rfl
theorem tw_97 : Cond.methodLink R_law 9 yX7_init ∈ LW := LWm1 (i := 19) (by decide +kernel) rfl
theorem tw_98 : Cond.instanceMethod yX7_init ∈ LW := LWm1 (i := 20) (by decide +kernel) rfl
set_option maxRecDepth 100000 in theorem tw_99 : Cond.code yX7_init cX7_init 2 none ∈ LW := LWm1 (i := 21) rfl rfl
theorem tw_963 : Cond.classLink R_law 10 RX8 ∈ LW := LWm4 (i := 165) (by decide +kernel) rfl
theorem tw_964 : Cond.instantiable RX8 44 ∈ LW := LWm4 (i := 166) (by decide +kernel) rfl
theorem tw_965 : Cond.methodLink R_law 12 yX8_init ∈ LW := LWm4 (i := 167) (by decide +kernel) rfl
theorem tw_966 : Cond.instanceMethod yX8_init ∈ LW := LWm4 (i := 168) (by decide +kernel) rfl
set_option maxRecDepth 100000 in theorem tw_967 : Cond.code yX8_init cX8_init 1 none ∈ LW := LWm4 (i := 169) rfl rfl

theorem tw_100 : Cond.methodLink RX7 3 objectInit ∈ LW := LWm1 (i := 22) (by decide +kernel) rfl
theorem tw_101 : Cond.instanceMethod objectInit ∈ LW := LWm1 (i := 23) (by decide +kernel) rfl
set_option maxRecDepth 100000 in theorem tw_102 : Cond.code objectInit ⟨#[0xb1]⟩ 1 none ∈ LW := LWm1 (i := 24) rfl rfl
theorem tw_103 : Cond.classLink RX7 9 RX6 ∈ LW := LWm1 (i := 25) (by decide +kernel) rfl
theorem tw_104 : Cond.instantiable RX6 6 ∈ LW := LWm1 (i := 26) (by decide +kernel) rfl
theorem tw_106 : Cond.instanceMethod yX6_init ∈ LW := LWm1 (i := 28) (by decide +kernel) rfl
set_option maxRecDepth 100000 in theorem tw_107 : Cond.code yX6_init cX6_init 1 none ∈ LW := LWm1 (i := 29) rfl rfl
theorem tw_108 : Cond.methodLink RX6 3 objectInit ∈ LW := LWm1 (i := 30) (by decide +kernel) rfl
theorem tw_136 : Cond.arrayClass .byte ∈ LW := LWm1 (i := 58) (by decide +kernel) rfl
theorem tw_137 : Cond.classLink RX7 16 RX5 ∈ LW := LWm1 (i := 59) (by decide +kernel) rfl
theorem tw_139 : Cond.classLink RX7 22 RX0 ∈ LW := LWm1 (i := 61) (by decide +kernel) rfl
theorem tw_141 : Cond.instantiable RX5 4 ∈ LW := LWm1 (i := 63) (by decide +kernel) rfl
theorem tw_143 : Cond.instanceMethod yX5_init ∈ LW := LWm1 (i := 65) (by decide +kernel) rfl
set_option maxRecDepth 100000 in theorem tw_144 : Cond.code yX5_init cX5_init 1 none ∈ LW := LWm1 (i := 66) rfl rfl
theorem tw_145 : Cond.methodLink RX5 3 objectInit ∈ LW := LWm1 (i := 67) (by decide +kernel) rfl
theorem tw_164 : Cond.arrayClass .int ∈ LW := LWm1 (i := 86) (by decide +kernel) rfl
theorem tw_165 : Cond.classLink RX7 33 RX3 ∈ LW := LWm1 (i := 87) (by decide +kernel) rfl
theorem tw_167 : Cond.classLink RX7 46 RX4 ∈ LW := LWm1 (i := 89) (by decide +kernel) rfl
theorem tw_168 : Cond.instantiable RX4 6 ∈ LW := LWm1 (i := 90) (by decide +kernel) rfl
theorem tw_170 : Cond.instanceMethod yX4_init ∈ LW := LWm1 (i := 92) (by decide +kernel) rfl
set_option maxRecDepth 100000 in theorem tw_171 : Cond.code yX4_init cX4_init 1 none ∈ LW := LWm1 (i := 93) rfl rfl
theorem tw_172 : Cond.methodLink RX4 3 objectInit ∈ LW := LWm1 (i := 94) (by decide +kernel) rfl
theorem tw_204 : Cond.classLink RX7 61 RX2 ∈ LW := LWm1 (i := 126) (by decide +kernel) rfl
theorem tw_205 : Cond.instantiable RX2 5 ∈ LW := LWm1 (i := 127) (by decide +kernel) rfl
theorem tw_207 : Cond.instanceMethod yX2_init ∈ LW := LWm1 (i := 129) (by decide +kernel) rfl
set_option maxRecDepth 100000 in theorem tw_208 : Cond.code yX2_init cX2_init 1 none ∈ LW := LWm1 (i := 130) rfl rfl
theorem tw_209 : Cond.methodLink RX2 3 objectInit ∈ LW := LWm1 (i := 131) (by decide +kernel) rfl
theorem tw_228 : Cond.arrayClass .boolean ∈ LW := LWm1 (i := 150) (by decide +kernel) rfl
theorem tw_229 : Cond.classLink RX7 68 RX1 ∈ LW := LWm1 (i := 151) (by decide +kernel) rfl
theorem tw_230 : Cond.instantiable RX1 8 ∈ LW := LWm1 (i := 152) (by decide +kernel) rfl
theorem tw_231 : Cond.methodLink RX7 70 yX1_init ∈ LW := LWm1 (i := 153) (by decide +kernel) rfl
theorem tw_232 : Cond.instanceMethod yX1_init ∈ LW := LWm1 (i := 154) (by decide +kernel) rfl
set_option maxRecDepth 100000 in theorem tw_233 : Cond.code yX1_init cX1_init 2 none ∈ LW := LWm1 (i := 155) rfl rfl
theorem tw_234 : Cond.methodLink RX1 3 objectInit ∈ LW := LWm1 (i := 156) (by decide +kernel) rfl
theorem tw_261 : Cond.instantiable RX0 5 ∈ LW := LWm1 (i := 183) (by decide +kernel) rfl
theorem tw_262 : Cond.methodLink RX7 77 yX0_init ∈ LW := LWm1 (i := 184) (by decide +kernel) rfl
theorem tw_263 : Cond.instanceMethod yX0_init ∈ LW := LWm1 (i := 185) (by decide +kernel) rfl
set_option maxRecDepth 100000 in theorem tw_264 : Cond.code yX0_init cX0_init 2 none ∈ LW := LWm1 (i := 186) rfl rfl
theorem tw_265 : Cond.methodLink RX0 3 objectInit ∈ LW := LWm1 (i := 187) (by decide +kernel) rfl
theorem tw_284 : Cond.instantiable RX3 5 ∈ LW := LWm1 (i := 206) (by decide +kernel) rfl
theorem tw_286 : Cond.instanceMethod yX3_init ∈ LW := LWm1 (i := 208) (by decide +kernel) rfl
set_option maxRecDepth 100000 in theorem tw_287 : Cond.code yX3_init cX3_init 1 none ∈ LW := LWm1 (i := 209) rfl rfl
theorem tw_288 : Cond.methodLink RX3 3 objectInit ∈ LW := LWm1 (i := 210) (by decide +kernel) rfl

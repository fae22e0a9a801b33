theorem tw_100 : Cond.methodLink RX7 3 objectInit ∈ LW := LWm (i := 100) (by decide +kernel) rfl
theorem tw_101 : Cond.instanceMethod objectInit ∈ LW := LWm (i := 101) (by decide +kernel) rfl
set_option maxRecDepth 100000 in theorem tw_102 : Cond.code objectInit ⟨#[0xb1]⟩ 1 none ∈ LW := LWm (i := 102) rfl rfl
theorem tw_103 : Cond.classLink RX7 9 RX6 ∈ LW := LWm (i := 103) (by decide +kernel) rfl
theorem tw_104 : Cond.instantiable RX6 6 ∈ LW := LWm (i := 104) (by decide +kernel) rfl
theorem tw_106 : Cond.instanceMethod yX6_init ∈ LW := LWm (i := 106) (by decide +kernel) rfl
set_option maxRecDepth 100000 in theorem tw_107 : Cond.code yX6_init cX6_init 1 none ∈ LW := LWm (i := 107) rfl rfl
theorem tw_108 : Cond.methodLink RX6 3 objectInit ∈ LW := LWm (i := 108) (by decide +kernel) rfl
theorem tw_136 : Cond.arrayClass .byte ∈ LW := LWm (i := 136) (by decide +kernel) rfl
theorem tw_137 : Cond.classLink RX7 16 RX5 ∈ LW := LWm (i := 137) (by decide +kernel) rfl
theorem tw_139 : Cond.classLink RX7 22 RX0 ∈ LW := LWm (i := 139) (by decide +kernel) rfl
theorem tw_141 : Cond.instantiable RX5 4 ∈ LW := LWm (i := 141) (by decide +kernel) rfl
theorem tw_143 : Cond.instanceMethod yX5_init ∈ LW := LWm (i := 143) (by decide +kernel) rfl
set_option maxRecDepth 100000 in theorem tw_144 : Cond.code yX5_init cX5_init 1 none ∈ LW := LWm (i := 144) rfl rfl
theorem tw_145 : Cond.methodLink RX5 3 objectInit ∈ LW := LWm (i := 145) (by decide +kernel) rfl
theorem tw_164 : Cond.arrayClass .int ∈ LW := LWm (i := 164) (by decide +kernel) rfl
theorem tw_165 : Cond.classLink RX7 33 RX3 ∈ LW := LWm (i := 165) (by decide +kernel) rfl
theorem tw_167 : Cond.classLink RX7 46 RX4 ∈ LW := LWm (i := 167) (by decide +kernel) rfl
theorem tw_168 : Cond.instantiable RX4 6 ∈ LW := LWm (i := 168) (by decide +kernel) rfl
theorem tw_170 : Cond.instanceMethod yX4_init ∈ LW := LWm (i := 170) (by decide +kernel) rfl
set_option maxRecDepth 100000 in theorem tw_171 : Cond.code yX4_init cX4_init 1 none ∈ LW := LWm (i := 171) rfl rfl
theorem tw_172 : Cond.methodLink RX4 3 objectInit ∈ LW := LWm (i := 172) (by decide +kernel) rfl
theorem tw_204 : Cond.classLink RX7 61 RX2 ∈ LW := LWm (i := 204) (by decide +kernel) rfl
theorem tw_205 : Cond.instantiable RX2 5 ∈ LW := LWm (i := 205) (by decide +kernel) rfl
theorem tw_207 : Cond.instanceMethod yX2_init ∈ LW := LWm (i := 207) (by decide +kernel) rfl
set_option maxRecDepth 100000 in theorem tw_208 : Cond.code yX2_init cX2_init 1 none ∈ LW := LWm (i := 208) rfl rfl
theorem tw_209 : Cond.methodLink RX2 3 objectInit ∈ LW := LWm (i := 209) (by decide +kernel) rfl
theorem tw_228 : Cond.arrayClass .boolean ∈ LW := LWm (i := 228) (by decide +kernel) rfl
theorem tw_229 : Cond.classLink RX7 68 RX1 ∈ LW := LWm (i := 229) (by decide +kernel) rfl
theorem tw_230 : Cond.instantiable RX1 8 ∈ LW := LWm (i := 230) (by decide +kernel) rfl
theorem tw_231 : Cond.methodLink RX7 70 yX1_init ∈ LW := LWm (i := 231) (by decide +kernel) rfl
theorem tw_232 : Cond.instanceMethod yX1_init ∈ LW := LWm (i := 232) (by decide +kernel) rfl
set_option maxRecDepth 100000 in theorem tw_233 : Cond.code yX1_init cX1_init 2 none ∈ LW := LWm (i := 233) rfl rfl
theorem tw_234 : Cond.methodLink RX1 3 objectInit ∈ LW := LWm (i := 234) (by decide +kernel) rfl
theorem tw_261 : Cond.instantiable RX0 5 ∈ LW := LWm (i := 261) (by decide +kernel) rfl
theorem tw_262 : Cond.methodLink RX7 77 yX0_init ∈ LW := LWm (i := 262) (by decide +kernel) rfl
theorem tw_263 : Cond.instanceMethod yX0_init ∈ LW := LWm (i := 263) (by decide +kernel) rfl
set_option maxRecDepth 100000 in theorem tw_264 : Cond.code yX0_init cX0_init 2 none ∈ LW := LWm (i := 264) rfl rfl
theorem tw_265 : Cond.methodLink RX0 3 objectInit ∈ LW := LWm (i := 265) (by decide +kernel) rfl
theorem tw_284 : Cond.instantiable RX3 5 ∈ LW := LWm (i := 284) (by decide +kernel) rfl
theorem tw_286 : Cond.instanceMethod yX3_init ∈ LW := LWm (i := 286) (by decide +kernel) rfl
set_option maxRecDepth 100000 in theorem tw_287 : Cond.code yX3_init cX3_init 1 none ∈ LW := LWm (i := 287) rfl rfl
theorem tw_288 : Cond.methodLink RX3 3 objectInit ∈ LW := LWm (i := 288) (by decide +kernel) rfl

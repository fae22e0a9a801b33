theorem dX8_clauseOf_0 : decode cX8_clauseOf 0 = .ok (.bipush 99, 2) := by decide +kernel
theorem dX8_clauseOf_2 : decode cX8_clauseOf 2 = .ok (.bipush 117, 2) := by decide +kernel
theorem dX8_clauseOf_4 : decode cX8_clauseOf 4 = .ok (.bipush 114, 2) := by decide +kernel
theorem dX8_clauseOf_6 : decode cX8_clauseOf 6 = .ok (.invokestatic 148, 3) := by decide +kernel
theorem dX8_clauseOf_9 : decode cX8_clauseOf 9 = .ok (.bipush 116, 2) := by decide +kernel
theorem dX8_clauseOf_11 : decode cX8_clauseOf 11 = .ok (.bipush 97, 2) := by decide +kernel
theorem dX8_clauseOf_13 : decode cX8_clauseOf 13 = .ok (.invokestatic 152, 3) := by decide +kernel
theorem dX8_clauseOf_16 : decode cX8_clauseOf 16 = .ok (.bipush 105, 2) := by decide +kernel
theorem dX8_clauseOf_18 : decode cX8_clauseOf 18 = .ok (.bipush 110, 2) := by decide +kernel
theorem dX8_clauseOf_20 : decode cX8_clauseOf 20 = .ok (.invokestatic 152, 3) := by decide +kernel
theorem dX8_clauseOf_23 : decode cX8_clauseOf 23 = .ok (.lstore_n 1, 1) := by decide +kernel
theorem dX8_clauseOf_24 : decode cX8_clauseOf 24 = .ok (.bipush 103, 2) := by decide +kernel
theorem dX8_clauseOf_26 : decode cX8_clauseOf 26 = .ok (.bipush 97, 2) := by decide +kernel
theorem dX8_clauseOf_28 : decode cX8_clauseOf 28 = .ok (.bipush 114, 2) := by decide +kernel
theorem dX8_clauseOf_30 : decode cX8_clauseOf 30 = .ok (.invokestatic 148, 3) := by decide +kernel
theorem dX8_clauseOf_33 : decode cX8_clauseOf 33 = .ok (.bipush 97, 2) := by decide +kernel
theorem dX8_clauseOf_35 : decode cX8_clauseOf 35 = .ok (.bipush 103, 2) := by decide +kernel
theorem dX8_clauseOf_37 : decode cX8_clauseOf 37 = .ok (.invokestatic 152, 3) := by decide +kernel
theorem dX8_clauseOf_40 : decode cX8_clauseOf 40 = .ok (.bipush 101, 2) := by decide +kernel
theorem dX8_clauseOf_42 : decode cX8_clauseOf 42 = .ok (.invokestatic 144, 3) := by decide +kernel
theorem dX8_clauseOf_45 : decode cX8_clauseOf 45 = .ok (.lstore_n 3, 1) := by decide +kernel
theorem dX8_clauseOf_46 : decode cX8_clauseOf 46 = .ok (.aload_n 0, 1) := by decide +kernel
theorem dX8_clauseOf_47 : decode cX8_clauseOf 47 = .ok (.getfield 125, 3) := by decide +kernel
theorem dX8_clauseOf_50 : decode cX8_clauseOf 50 = .ok (.bipush 100, 2) := by decide +kernel
theorem dX8_clauseOf_52 : decode cX8_clauseOf 52 = .ok (.bipush 111, 2) := by decide +kernel
theorem dX8_clauseOf_54 : decode cX8_clauseOf 54 = .ok (.bipush 111, 2) := by decide +kernel
theorem dX8_clauseOf_56 : decode cX8_clauseOf 56 = .ok (.invokestatic 148, 3) := by decide +kernel
theorem dX8_clauseOf_59 : decode cX8_clauseOf 59 = .ok (.bipush 114, 2) := by decide +kernel
theorem dX8_clauseOf_61 : decode cX8_clauseOf 61 = .ok (.bipush 115, 2) := by decide +kernel
theorem dX8_clauseOf_63 : decode cX8_clauseOf 63 = .ok (.invokestatic 152, 3) := by decide +kernel
theorem dX8_clauseOf_66 : decode cX8_clauseOf 66 = .ok (.lcmp, 1) := by decide +kernel
theorem dX8_clauseOf_67 : decode cX8_clauseOf 67 = .ok (.ifCond .ne 8, 3) := by decide +kernel
theorem dX8_clauseOf_70 : decode cX8_clauseOf 70 = .ok (.bipush 9, 2) := by decide +kernel
theorem dX8_clauseOf_72 : decode cX8_clauseOf 72 = .ok (.goto 86, 3) := by decide +kernel
theorem dX8_clauseOf_75 : decode cX8_clauseOf 75 = .ok (.aload_n 0, 1) := by decide +kernel
theorem dX8_clauseOf_76 : decode cX8_clauseOf 76 = .ok (.getfield 125, 3) := by decide +kernel
theorem dX8_clauseOf_79 : decode cX8_clauseOf 79 = .ok (.bipush 97, 2) := by decide +kernel
theorem dX8_clauseOf_81 : decode cX8_clauseOf 81 = .ok (.bipush 108, 2) := by decide +kernel
theorem dX8_clauseOf_83 : decode cX8_clauseOf 83 = .ok (.bipush 105, 2) := by decide +kernel
theorem dX8_clauseOf_85 : decode cX8_clauseOf 85 = .ok (.invokestatic 148, 3) := by decide +kernel
theorem dX8_clauseOf_88 : decode cX8_clauseOf 88 = .ok (.bipush 107, 2) := by decide +kernel
theorem dX8_clauseOf_90 : decode cX8_clauseOf 90 = .ok (.bipush 101, 2) := by decide +kernel
theorem dX8_clauseOf_92 : decode cX8_clauseOf 92 = .ok (.invokestatic 152, 3) := by decide +kernel
theorem dX8_clauseOf_95 : decode cX8_clauseOf 95 = .ok (.lcmp, 1) := by decide +kernel
theorem dX8_clauseOf_96 : decode cX8_clauseOf 96 = .ok (.ifCond .ne 7, 3) := by decide +kernel
theorem dX8_clauseOf_99 : decode cX8_clauseOf 99 = .ok (.iconst 0, 1) := by decide +kernel
theorem dX8_clauseOf_100 : decode cX8_clauseOf 100 = .ok (.goto 58, 3) := by decide +kernel
theorem dX8_clauseOf_103 : decode cX8_clauseOf 103 = .ok (.aload_n 0, 1) := by decide +kernel
theorem dX8_clauseOf_104 : decode cX8_clauseOf 104 = .ok (.getfield 125, 3) := by decide +kernel
theorem dX8_clauseOf_107 : decode cX8_clauseOf 107 = .ok (.bipush 119, 2) := by decide +kernel
theorem dX8_clauseOf_109 : decode cX8_clauseOf 109 = .ok (.bipush 97, 2) := by decide +kernel
theorem dX8_clauseOf_111 : decode cX8_clauseOf 111 = .ok (.bipush 108, 2) := by decide +kernel
theorem dX8_clauseOf_113 : decode cX8_clauseOf 113 = .ok (.invokestatic 148, 3) := by decide +kernel
theorem dX8_clauseOf_116 : decode cX8_clauseOf 116 = .ok (.bipush 107, 2) := by decide +kernel
theorem dX8_clauseOf_118 : decode cX8_clauseOf 118 = .ok (.invokestatic 144, 3) := by decide +kernel
theorem dX8_clauseOf_121 : decode cX8_clauseOf 121 = .ok (.lcmp, 1) := by decide +kernel
theorem dX8_clauseOf_122 : decode cX8_clauseOf 122 = .ok (.ifCond .ne 7, 3) := by decide +kernel
theorem dX8_clauseOf_125 : decode cX8_clauseOf 125 = .ok (.iconst 1, 1) := by decide +kernel
theorem dX8_clauseOf_126 : decode cX8_clauseOf 126 = .ok (.goto 32, 3) := by decide +kernel
theorem dX8_clauseOf_129 : decode cX8_clauseOf 129 = .ok (.aload_n 0, 1) := by decide +kernel
theorem dX8_clauseOf_130 : decode cX8_clauseOf 130 = .ok (.getfield 125, 3) := by decide +kernel
theorem dX8_clauseOf_133 : decode cX8_clauseOf 133 = .ok (.bipush 100, 2) := by decide +kernel
theorem dX8_clauseOf_135 : decode cX8_clauseOf 135 = .ok (.bipush 114, 2) := by decide +kernel
theorem dX8_clauseOf_137 : decode cX8_clauseOf 137 = .ok (.bipush 105, 2) := by decide +kernel
theorem dX8_clauseOf_139 : decode cX8_clauseOf 139 = .ok (.invokestatic 148, 3) := by decide +kernel
theorem dX8_clauseOf_142 : decode cX8_clauseOf 142 = .ok (.bipush 118, 2) := by decide +kernel
theorem dX8_clauseOf_144 : decode cX8_clauseOf 144 = .ok (.bipush 101, 2) := by decide +kernel
theorem dX8_clauseOf_146 : decode cX8_clauseOf 146 = .ok (.invokestatic 152, 3) := by decide +kernel
theorem dX8_clauseOf_149 : decode cX8_clauseOf 149 = .ok (.lcmp, 1) := by decide +kernel
theorem dX8_clauseOf_150 : decode cX8_clauseOf 150 = .ok (.ifCond .ne 7, 3) := by decide +kernel
theorem dX8_clauseOf_153 : decode cX8_clauseOf 153 = .ok (.iconst 2, 1) := by decide +kernel
theorem dX8_clauseOf_154 : decode cX8_clauseOf 154 = .ok (.goto 4, 3) := by decide +kernel
theorem dX8_clauseOf_157 : decode cX8_clauseOf 157 = .ok (.iconst (-1), 1) := by decide +kernel
theorem dX8_clauseOf_158 : decode cX8_clauseOf 158 = .ok (.istore 5, 2) := by decide +kernel
theorem dX8_clauseOf_160 : decode cX8_clauseOf 160 = .ok (.aload_n 0, 1) := by decide +kernel
theorem dX8_clauseOf_161 : decode cX8_clauseOf 161 = .ok (.getfield 125, 3) := by decide +kernel
theorem dX8_clauseOf_164 : decode cX8_clauseOf 164 = .ok (.bipush 108, 2) := by decide +kernel
theorem dX8_clauseOf_166 : decode cX8_clauseOf 166 = .ok (.bipush 97, 2) := by decide +kernel
theorem dX8_clauseOf_168 : decode cX8_clauseOf 168 = .ok (.bipush 116, 2) := by decide +kernel
theorem dX8_clauseOf_170 : decode cX8_clauseOf 170 = .ok (.invokestatic 148, 3) := by decide +kernel
theorem dX8_clauseOf_173 : decode cX8_clauseOf 173 = .ok (.bipush 101, 2) := by decide +kernel
theorem dX8_clauseOf_175 : decode cX8_clauseOf 175 = .ok (.invokestatic 144, 3) := by decide +kernel
theorem dX8_clauseOf_178 : decode cX8_clauseOf 178 = .ok (.lcmp, 1) := by decide +kernel
theorem dX8_clauseOf_179 : decode cX8_clauseOf 179 = .ok (.ifCond .ne 7, 3) := by decide +kernel
theorem dX8_clauseOf_182 : decode cX8_clauseOf 182 = .ok (.iconst 3, 1) := by decide +kernel
theorem dX8_clauseOf_183 : decode cX8_clauseOf 183 = .ok (.goto 81, 3) := by decide +kernel
theorem dX8_clauseOf_186 : decode cX8_clauseOf 186 = .ok (.aload_n 0, 1) := by decide +kernel
theorem dX8_clauseOf_187 : decode cX8_clauseOf 187 = .ok (.getfield 125, 3) := by decide +kernel
theorem dX8_clauseOf_190 : decode cX8_clauseOf 190 = .ok (.lload_n 1, 1) := by decide +kernel
theorem dX8_clauseOf_191 : decode cX8_clauseOf 191 = .ok (.lcmp, 1) := by decide +kernel
theorem dX8_clauseOf_192 : decode cX8_clauseOf 192 = .ok (.ifCond .ne 7, 3) := by decide +kernel
theorem dX8_clauseOf_195 : decode cX8_clauseOf 195 = .ok (.iconst 4, 1) := by decide +kernel
theorem dX8_clauseOf_196 : decode cX8_clauseOf 196 = .ok (.goto 68, 3) := by decide +kernel
theorem dX8_clauseOf_199 : decode cX8_clauseOf 199 = .ok (.aload_n 0, 1) := by decide +kernel
theorem dX8_clauseOf_200 : decode cX8_clauseOf 200 = .ok (.getfield 125, 3) := by decide +kernel
theorem dX8_clauseOf_203 : decode cX8_clauseOf 203 = .ok (.bipush 115, 2) := by decide +kernel
theorem dX8_clauseOf_205 : decode cX8_clauseOf 205 = .ok (.bipush 101, 2) := by decide +kernel
theorem dX8_clauseOf_207 : decode cX8_clauseOf 207 = .ok (.bipush 101, 2) := by decide +kernel
theorem dX8_clauseOf_209 : decode cX8_clauseOf 209 = .ok (.invokestatic 148, 3) := by decide +kernel
theorem dX8_clauseOf_212 : decode cX8_clauseOf 212 = .ok (.lcmp, 1) := by decide +kernel
theorem dX8_clauseOf_213 : decode cX8_clauseOf 213 = .ok (.ifCond .ne 7, 3) := by decide +kernel
theorem dX8_clauseOf_216 : decode cX8_clauseOf 216 = .ok (.iconst 5, 1) := by decide +kernel
theorem dX8_clauseOf_217 : decode cX8_clauseOf 217 = .ok (.goto 47, 3) := by decide +kernel
theorem dX8_clauseOf_220 : decode cX8_clauseOf 220 = .ok (.aload_n 0, 1) := by decide +kernel
theorem dX8_clauseOf_221 : decode cX8_clauseOf 221 = .ok (.getfield 125, 3) := by decide +kernel
theorem dX8_clauseOf_224 : decode cX8_clauseOf 224 = .ok (.bipush 114, 2) := by decide +kernel
theorem dX8_clauseOf_226 : decode cX8_clauseOf 226 = .ok (.bipush 111, 2) := by decide +kernel
theorem dX8_clauseOf_228 : decode cX8_clauseOf 228 = .ok (.bipush 117, 2) := by decide +kernel
theorem dX8_clauseOf_230 : decode cX8_clauseOf 230 = .ok (.invokestatic 148, 3) := by decide +kernel
theorem dX8_clauseOf_233 : decode cX8_clauseOf 233 = .ok (.bipush 110, 2) := by decide +kernel
theorem dX8_clauseOf_235 : decode cX8_clauseOf 235 = .ok (.bipush 100, 2) := by decide +kernel
theorem dX8_clauseOf_237 : decode cX8_clauseOf 237 = .ok (.invokestatic 152, 3) := by decide +kernel
theorem dX8_clauseOf_240 : decode cX8_clauseOf 240 = .ok (.lcmp, 1) := by decide +kernel
theorem dX8_clauseOf_241 : decode cX8_clauseOf 241 = .ok (.ifCond .ne 8, 3) := by decide +kernel
theorem dX8_clauseOf_244 : decode cX8_clauseOf 244 = .ok (.bipush 6, 2) := by decide +kernel
theorem dX8_clauseOf_246 : decode cX8_clauseOf 246 = .ok (.goto 18, 3) := by decide +kernel
theorem dX8_clauseOf_249 : decode cX8_clauseOf 249 = .ok (.aload_n 0, 1) := by decide +kernel
theorem dX8_clauseOf_250 : decode cX8_clauseOf 250 = .ok (.getfield 125, 3) := by decide +kernel
theorem dX8_clauseOf_253 : decode cX8_clauseOf 253 = .ok (.lload_n 3, 1) := by decide +kernel
theorem dX8_clauseOf_254 : decode cX8_clauseOf 254 = .ok (.lcmp, 1) := by decide +kernel
theorem dX8_clauseOf_255 : decode cX8_clauseOf 255 = .ok (.ifCond .ne 8, 3) := by decide +kernel
theorem dX8_clauseOf_258 : decode cX8_clauseOf 258 = .ok (.bipush 8, 2) := by decide +kernel
theorem dX8_clauseOf_260 : decode cX8_clauseOf 260 = .ok (.goto 4, 3) := by decide +kernel
theorem dX8_clauseOf_263 : decode cX8_clauseOf 263 = .ok (.iconst (-1), 1) := by decide +kernel
theorem dX8_clauseOf_264 : decode cX8_clauseOf 264 = .ok (.istore 6, 2) := by decide +kernel
theorem dX8_clauseOf_266 : decode cX8_clauseOf 266 = .ok (.iload 5, 2) := by decide +kernel
theorem dX8_clauseOf_268 : decode cX8_clauseOf 268 = .ok (.ifCond .lt 8, 3) := by decide +kernel
theorem dX8_clauseOf_271 : decode cX8_clauseOf 271 = .ok (.iload 5, 2) := by decide +kernel
theorem dX8_clauseOf_273 : decode cX8_clauseOf 273 = .ok (.goto 5, 3) := by decide +kernel
theorem dX8_clauseOf_276 : decode cX8_clauseOf 276 = .ok (.iload 6, 2) := by decide +kernel
theorem dX8_clauseOf_278 : decode cX8_clauseOf 278 = .ok (.ireturn, 1) := by decide +kernel
set_option maxHeartbeats 4000000 in
set_option maxRecDepth 100000 in
theorem m_clauseOf (l : Launch) (D : va_G) (k : Nat → ClassId) (st : Nat → Nat) (lo : Nat) (a : Nat → Nat) (tx : Nat) (t0 : Nat) (we : Nat) (rd : Nat) (ru : Nat) (rw : Nat) (ca : Nat) (fp : Int32) (wd : Int64) (nu : Int32) (na : Int32) (ts : Int32) (df : Int32) (db : Int32) (sd : Int32)  : CRi l D k st lo yX8_clauseOf cX8_clauseOf 7 (some .int) ({ frames := 2, cells := 0, slots := 0, locals := 45 }) [.ref (a 0)] [((a 0), .inr (8, (fX8 a (nI tx) fp (nI t0) wd (nI we) nu na (nI rd) ts (nI ru) (nI rw) (nI ca) df db sd)))] (fun r => r = -1 ∨ ∃ j : Nat, (j ≤ 9 ∧ j ≠ 7) ∧ r = nI j) := by
  intro sz
  refine Met.ofW (cc := cX8_clauseOf) (maxL := 7) (ret := (some .int)) (by decide) rfl ?_
  intro p e s m args below meth c s₁ B hml hv
  obtain ⟨rfl, hsz, hlo, hP, hK, hDL, hZ⟩ := hv
  have hx := B.exec
  have hb := B.bytes
  have hr := B.returns
  have hts := WS_ts B.pre
  have hown : s.vm.findClass RX8 = some m.cls := findClass_of_methodNamed B.named
  have hlocks := B.notSynchronized
  subst hsz
  have hA : ∀ q : Nat, s.heap.size ≤ q → (fun q : Nat => s.heap.size ≤ q) q := fun _ h => h
  have hAlo : ∀ q : Nat, (fun q : Nat => s.heap.size ≤ q) q → lo ≤ q := fun q h => Nat.le_trans hlo h
  have hS : va_S (fun q : Nat => s.heap.size ≤ q) s.heap s.heap [] := va_S.rf
  have hl := lv_entry ([.ref (a 0)]) (n := 7) (Nat.le_of_ble_eq_true rfl)
  rw [lg_entry_eq]
  generalize (lg_sl ([.ref (a 0)]) ++ List.replicate (7 - (lg_sl ([.ref (a 0)])).length) Slot.unset).toArray = ls at hl ⊢
  have hl : lv_has ls 7 [(0, .ref (a 0))] := hl
  refine lv_bipush (v := 99) hx hb dX8_clauseOf_0 (by decide) ?_
  refine lv_bipush (v := 117) hx hb dX8_clauseOf_2 (by decide) ?_
  refine lv_bipush (v := 114) hx hb dX8_clauseOf_4 (by decide) ?_
  refine ro_l (D := D) (va_runS (As := [.int 99, .int 117, .int 114]) (rest := []) ⟨hx, hb, hml, hown, hts⟩ ((m_code l D k st lo 99 117 114) s.heap.size) (va_cwS 3 hts (gS tw_1142 tw_1143 tw_87 tw_1144) rfl rfl rfl (by decide +kernel) ⟨Nat.le_of_ble_eq_true rfl, Nat.le_of_ble_eq_true rfl⟩) (pS hS hAlo hlo hP hK hDL hZ [] (by decide) rfl) rfl rfl hl.1 rfl (lv_room (Nat.le_of_ble_eq_true rfl)) dX8_clauseOf_6 ⟨Nat.le_of_ble_eq_true rfl, Nat.le_of_ble_eq_true rfl⟩) hS hA hP (fun r_1 H locs hw_1 hP hS => ?_)
  try dsimp only at hw_1
  refine lv_bipush (v := 116) hx hb dX8_clauseOf_9 (by decide) ?_
  refine lv_bipush (v := 97) hx hb dX8_clauseOf_11 (by decide) ?_
  refine ro_l (D := D) (va_runS (As := [.long r_1, .int 116, .int 97]) (rest := []) ⟨hx, hb, hml, hown, hts⟩ ((m_longest l D k st lo r_1 116 97) H.size) (va_cwS 3 hts (gS tw_1145 tw_1146 tw_87 tw_1147) rfl rfl rfl (by decide +kernel) ⟨Nat.le_of_ble_eq_true rfl, Nat.le_of_ble_eq_true rfl⟩) (pS hS hAlo hlo hP hK hDL hZ [] (by decide) rfl) rfl rfl hl.1 rfl (lv_room (Nat.le_of_ble_eq_true rfl)) dX8_clauseOf_13 ⟨Nat.le_of_ble_eq_true rfl, Nat.le_of_ble_eq_true rfl⟩) hS hA hP (fun r_2 H locs hw_2 hP hS => ?_)
  try dsimp only at hw_2
  refine lv_bipush (v := 105) hx hb dX8_clauseOf_16 (by decide) ?_
  refine lv_bipush (v := 110) hx hb dX8_clauseOf_18 (by decide) ?_
  refine ro_l (D := D) (va_runS (As := [.long r_2, .int 105, .int 110]) (rest := []) ⟨hx, hb, hml, hown, hts⟩ ((m_longest l D k st lo r_2 105 110) H.size) (va_cwS 3 hts (gS tw_1145 tw_1146 tw_87 tw_1147) rfl rfl rfl (by decide +kernel) ⟨Nat.le_of_ble_eq_true rfl, Nat.le_of_ble_eq_true rfl⟩) (pS hS hAlo hlo hP hK hDL hZ [] (by decide) rfl) rfl rfl hl.1 rfl (lv_room (Nat.le_of_ble_eq_true rfl)) dX8_clauseOf_20 ⟨Nat.le_of_ble_eq_true rfl, Nat.le_of_ble_eq_true rfl⟩) hS hA hP (fun r_3 H locs hw_3 hP hS => ?_)
  try dsimp only at hw_3
  refine lv_lstore_n (lv' := [(1, .long r_3), (0, .ref (a 0))]) hx hb dX8_clauseOf_23 rfl hl (by decide) rfl (fun ls hl => ?_)
  refine lv_bipush (v := 103) hx hb dX8_clauseOf_24 (by decide) ?_
  refine lv_bipush (v := 97) hx hb dX8_clauseOf_26 (by decide) ?_
  refine lv_bipush (v := 114) hx hb dX8_clauseOf_28 (by decide) ?_
  refine ro_l (D := D) (va_runS (As := [.int 103, .int 97, .int 114]) (rest := []) ⟨hx, hb, hml, hown, hts⟩ ((m_code l D k st lo 103 97 114) H.size) (va_cwS 3 hts (gS tw_1142 tw_1143 tw_87 tw_1144) rfl rfl rfl (by decide +kernel) ⟨Nat.le_of_ble_eq_true rfl, Nat.le_of_ble_eq_true rfl⟩) (pS hS hAlo hlo hP hK hDL hZ [] (by decide) rfl) rfl rfl hl.1 rfl (lv_room (Nat.le_of_ble_eq_true rfl)) dX8_clauseOf_30 ⟨Nat.le_of_ble_eq_true rfl, Nat.le_of_ble_eq_true rfl⟩) hS hA hP (fun r_4 H locs hw_4 hP hS => ?_)
  try dsimp only at hw_4
  refine lv_bipush (v := 97) hx hb dX8_clauseOf_33 (by decide) ?_
  refine lv_bipush (v := 103) hx hb dX8_clauseOf_35 (by decide) ?_
  refine ro_l (D := D) (va_runS (As := [.long r_4, .int 97, .int 103]) (rest := []) ⟨hx, hb, hml, hown, hts⟩ ((m_longest l D k st lo r_4 97 103) H.size) (va_cwS 3 hts (gS tw_1145 tw_1146 tw_87 tw_1147) rfl rfl rfl (by decide +kernel) ⟨Nat.le_of_ble_eq_true rfl, Nat.le_of_ble_eq_true rfl⟩) (pS hS hAlo hlo hP hK hDL hZ [] (by decide) rfl) rfl rfl hl.1 rfl (lv_room (Nat.le_of_ble_eq_true rfl)) dX8_clauseOf_37 ⟨Nat.le_of_ble_eq_true rfl, Nat.le_of_ble_eq_true rfl⟩) hS hA hP (fun r_5 H locs hw_5 hP hS => ?_)
  try dsimp only at hw_5
  refine lv_bipush (v := 101) hx hb dX8_clauseOf_40 (by decide) ?_
  refine ro_l (D := D) (va_runS (As := [.long r_5, .int 101]) (rest := []) ⟨hx, hb, hml, hown, hts⟩ ((m_longer l D k st lo r_5 101) H.size) (va_cwS 2 hts (gS tw_1148 tw_1149 tw_87 tw_1150) rfl rfl rfl (by decide +kernel) ⟨Nat.le_of_ble_eq_true rfl, Nat.le_of_ble_eq_true rfl⟩) (pS hS hAlo hlo hP hK hDL hZ [] (by decide) rfl) rfl rfl hl.1 rfl (lv_room (Nat.le_of_ble_eq_true rfl)) dX8_clauseOf_42 ⟨Nat.le_of_ble_eq_true rfl, Nat.le_of_ble_eq_true rfl⟩) hS hA hP (fun r_6 H locs hw_6 hP hS => ?_)
  try dsimp only at hw_6
  refine lv_lstore_n (lv' := [(3, .long r_6), (1, .long r_3), (0, .ref (a 0))]) hx hb dX8_clauseOf_45 rfl hl (by decide) rfl (fun ls hl => ?_)
  refine lv_aload_n hx hb dX8_clauseOf_46 rfl (lv_at hl 2 rfl) ?_
  refine va_get (D := D) (ci := 8) (v := .long wd) (C := RX8) (T := TX8) (N := 44) hx hb hts inX8 hown hK hP 0 rfl rfl 8 (by decide) (hts _ tw_981) (fun _ h9 => h9) rfl dX8_clauseOf_47 ?_
  refine lv_bipush (v := 100) hx hb dX8_clauseOf_50 (by decide) ?_
  refine lv_bipush (v := 111) hx hb dX8_clauseOf_52 (by decide) ?_
  refine lv_bipush (v := 111) hx hb dX8_clauseOf_54 (by decide) ?_
  refine ro_l (D := D) (va_runS (As := [.int 100, .int 111, .int 111]) (rest := [.long wd]) ⟨hx, hb, hml, hown, hts⟩ ((m_code l D k st lo 100 111 111) H.size) (va_cwS 3 hts (gS tw_1142 tw_1143 tw_87 tw_1144) rfl rfl rfl (by decide +kernel) ⟨Nat.le_of_ble_eq_true rfl, Nat.le_of_ble_eq_true rfl⟩) (pS hS hAlo hlo hP hK hDL hZ [] (by decide) rfl) rfl rfl hl.1 rfl (lv_room (Nat.le_of_ble_eq_true rfl)) dX8_clauseOf_56 ⟨Nat.le_of_ble_eq_true rfl, Nat.le_of_ble_eq_true rfl⟩) hS hA hP (fun r_7 H locs hw_7 hP hS => ?_)
  try dsimp only at hw_7
  refine lv_bipush (v := 114) hx hb dX8_clauseOf_59 (by decide) ?_
  refine lv_bipush (v := 115) hx hb dX8_clauseOf_61 (by decide) ?_
  refine ro_l (D := D) (va_runS (As := [.long r_7, .int 114, .int 115]) (rest := [.long wd]) ⟨hx, hb, hml, hown, hts⟩ ((m_longest l D k st lo r_7 114 115) H.size) (va_cwS 3 hts (gS tw_1145 tw_1146 tw_87 tw_1147) rfl rfl rfl (by decide +kernel) ⟨Nat.le_of_ble_eq_true rfl, Nat.le_of_ble_eq_true rfl⟩) (pS hS hAlo hlo hP hK hDL hZ [] (by decide) rfl) rfl rfl hl.1 rfl (lv_room (Nat.le_of_ble_eq_true rfl)) dX8_clauseOf_63 ⟨Nat.le_of_ble_eq_true rfl, Nat.le_of_ble_eq_true rfl⟩) hS hA hP (fun r_8 H locs hw_8 hP hS => ?_)
  try dsimp only at hw_8
  refine W.lcmp hx hb dX8_clauseOf_66 ?_
  refine lv_if_ne (tgt := 75) hx hb dX8_clauseOf_67 (by decide) (fun c_9 => ?_) (fun c_9 => ?_)
  · refine lv_aload_n hx hb dX8_clauseOf_75 rfl (lv_at hl 2 rfl) ?_
    refine va_get (D := D) (ci := 8) (v := .long wd) (C := RX8) (T := TX8) (N := 44) hx hb hts inX8 hown hK hP 0 rfl rfl 8 (by decide) (hts _ tw_981) (fun _ h9 => h9) rfl dX8_clauseOf_76 ?_
    refine lv_bipush (v := 97) hx hb dX8_clauseOf_79 (by decide) ?_
    refine lv_bipush (v := 108) hx hb dX8_clauseOf_81 (by decide) ?_
    refine lv_bipush (v := 105) hx hb dX8_clauseOf_83 (by decide) ?_
    refine ro_l (D := D) (va_runS (As := [.int 97, .int 108, .int 105]) (rest := [.long wd]) ⟨hx, hb, hml, hown, hts⟩ ((m_code l D k st lo 97 108 105) H.size) (va_cwS 3 hts (gS tw_1142 tw_1143 tw_87 tw_1144) rfl rfl rfl (by decide +kernel) ⟨Nat.le_of_ble_eq_true rfl, Nat.le_of_ble_eq_true rfl⟩) (pS hS hAlo hlo hP hK hDL hZ [] (by decide) rfl) rfl rfl hl.1 rfl (lv_room (Nat.le_of_ble_eq_true rfl)) dX8_clauseOf_85 ⟨Nat.le_of_ble_eq_true rfl, Nat.le_of_ble_eq_true rfl⟩) hS hA hP (fun r_10 H locs hw_10 hP hS => ?_)
    try dsimp only at hw_10
    refine lv_bipush (v := 107) hx hb dX8_clauseOf_88 (by decide) ?_
    refine lv_bipush (v := 101) hx hb dX8_clauseOf_90 (by decide) ?_
    refine ro_l (D := D) (va_runS (As := [.long r_10, .int 107, .int 101]) (rest := [.long wd]) ⟨hx, hb, hml, hown, hts⟩ ((m_longest l D k st lo r_10 107 101) H.size) (va_cwS 3 hts (gS tw_1145 tw_1146 tw_87 tw_1147) rfl rfl rfl (by decide +kernel) ⟨Nat.le_of_ble_eq_true rfl, Nat.le_of_ble_eq_true rfl⟩) (pS hS hAlo hlo hP hK hDL hZ [] (by decide) rfl) rfl rfl hl.1 rfl (lv_room (Nat.le_of_ble_eq_true rfl)) dX8_clauseOf_92 ⟨Nat.le_of_ble_eq_true rfl, Nat.le_of_ble_eq_true rfl⟩) hS hA hP (fun r_11 H locs hw_11 hP hS => ?_)
    try dsimp only at hw_11
    refine W.lcmp hx hb dX8_clauseOf_95 ?_
    refine lv_if_ne (tgt := 103) hx hb dX8_clauseOf_96 (by decide) (fun c_12 => ?_) (fun c_12 => ?_)
    · refine lv_aload_n hx hb dX8_clauseOf_103 rfl (lv_at hl 2 rfl) ?_
      refine va_get (D := D) (ci := 8) (v := .long wd) (C := RX8) (T := TX8) (N := 44) hx hb hts inX8 hown hK hP 0 rfl rfl 8 (by decide) (hts _ tw_981) (fun _ h9 => h9) rfl dX8_clauseOf_104 ?_
      refine lv_bipush (v := 119) hx hb dX8_clauseOf_107 (by decide) ?_
      refine lv_bipush (v := 97) hx hb dX8_clauseOf_109 (by decide) ?_
      refine lv_bipush (v := 108) hx hb dX8_clauseOf_111 (by decide) ?_
      refine ro_l (D := D) (va_runS (As := [.int 119, .int 97, .int 108]) (rest := [.long wd]) ⟨hx, hb, hml, hown, hts⟩ ((m_code l D k st lo 119 97 108) H.size) (va_cwS 3 hts (gS tw_1142 tw_1143 tw_87 tw_1144) rfl rfl rfl (by decide +kernel) ⟨Nat.le_of_ble_eq_true rfl, Nat.le_of_ble_eq_true rfl⟩) (pS hS hAlo hlo hP hK hDL hZ [] (by decide) rfl) rfl rfl hl.1 rfl (lv_room (Nat.le_of_ble_eq_true rfl)) dX8_clauseOf_113 ⟨Nat.le_of_ble_eq_true rfl, Nat.le_of_ble_eq_true rfl⟩) hS hA hP (fun r_13 H locs hw_13 hP hS => ?_)
      try dsimp only at hw_13
      refine lv_bipush (v := 107) hx hb dX8_clauseOf_116 (by decide) ?_
      refine ro_l (D := D) (va_runS (As := [.long r_13, .int 107]) (rest := [.long wd]) ⟨hx, hb, hml, hown, hts⟩ ((m_longer l D k st lo r_13 107) H.size) (va_cwS 2 hts (gS tw_1148 tw_1149 tw_87 tw_1150) rfl rfl rfl (by decide +kernel) ⟨Nat.le_of_ble_eq_true rfl, Nat.le_of_ble_eq_true rfl⟩) (pS hS hAlo hlo hP hK hDL hZ [] (by decide) rfl) rfl rfl hl.1 rfl (lv_room (Nat.le_of_ble_eq_true rfl)) dX8_clauseOf_118 ⟨Nat.le_of_ble_eq_true rfl, Nat.le_of_ble_eq_true rfl⟩) hS hA hP (fun r_14 H locs hw_14 hP hS => ?_)
      try dsimp only at hw_14
      refine W.lcmp hx hb dX8_clauseOf_121 ?_
      refine lv_if_ne (tgt := 129) hx hb dX8_clauseOf_122 (by decide) (fun c_15 => ?_) (fun c_15 => ?_)
      · refine lv_aload_n hx hb dX8_clauseOf_129 rfl (lv_at hl 2 rfl) ?_
        refine va_get (D := D) (ci := 8) (v := .long wd) (C := RX8) (T := TX8) (N := 44) hx hb hts inX8 hown hK hP 0 rfl rfl 8 (by decide) (hts _ tw_981) (fun _ h9 => h9) rfl dX8_clauseOf_130 ?_
        refine lv_bipush (v := 100) hx hb dX8_clauseOf_133 (by decide) ?_
        refine lv_bipush (v := 114) hx hb dX8_clauseOf_135 (by decide) ?_
        refine lv_bipush (v := 105) hx hb dX8_clauseOf_137 (by decide) ?_
        refine ro_l (D := D) (va_runS (As := [.int 100, .int 114, .int 105]) (rest := [.long wd]) ⟨hx, hb, hml, hown, hts⟩ ((m_code l D k st lo 100 114 105) H.size) (va_cwS 3 hts (gS tw_1142 tw_1143 tw_87 tw_1144) rfl rfl rfl (by decide +kernel) ⟨Nat.le_of_ble_eq_true rfl, Nat.le_of_ble_eq_true rfl⟩) (pS hS hAlo hlo hP hK hDL hZ [] (by decide) rfl) rfl rfl hl.1 rfl (lv_room (Nat.le_of_ble_eq_true rfl)) dX8_clauseOf_139 ⟨Nat.le_of_ble_eq_true rfl, Nat.le_of_ble_eq_true rfl⟩) hS hA hP (fun r_16 H locs hw_16 hP hS => ?_)
        try dsimp only at hw_16
        refine lv_bipush (v := 118) hx hb dX8_clauseOf_142 (by decide) ?_
        refine lv_bipush (v := 101) hx hb dX8_clauseOf_144 (by decide) ?_
        refine ro_l (D := D) (va_runS (As := [.long r_16, .int 118, .int 101]) (rest := [.long wd]) ⟨hx, hb, hml, hown, hts⟩ ((m_longest l D k st lo r_16 118 101) H.size) (va_cwS 3 hts (gS tw_1145 tw_1146 tw_87 tw_1147) rfl rfl rfl (by decide +kernel) ⟨Nat.le_of_ble_eq_true rfl, Nat.le_of_ble_eq_true rfl⟩) (pS hS hAlo hlo hP hK hDL hZ [] (by decide) rfl) rfl rfl hl.1 rfl (lv_room (Nat.le_of_ble_eq_true rfl)) dX8_clauseOf_146 ⟨Nat.le_of_ble_eq_true rfl, Nat.le_of_ble_eq_true rfl⟩) hS hA hP (fun r_17 H locs hw_17 hP hS => ?_)
        try dsimp only at hw_17
        refine W.lcmp hx hb dX8_clauseOf_149 ?_
        refine lv_if_ne (tgt := 157) hx hb dX8_clauseOf_150 (by decide) (fun c_18 => ?_) (fun c_18 => ?_)
        · refine lv_iconst (v := (-1)) hx hb dX8_clauseOf_157 (by decide) ?_
          refine lv_istore (lv' := [(5, .int (-1)), (3, .long r_6), (1, .long r_3), (0, .ref (a 0))]) hx hb dX8_clauseOf_158 hl (by decide) rfl (fun ls hl => ?_)
          refine lv_aload_n hx hb dX8_clauseOf_160 rfl (lv_at hl 3 rfl) ?_
          refine va_get (D := D) (ci := 8) (v := .long wd) (C := RX8) (T := TX8) (N := 44) hx hb hts inX8 hown hK hP 0 rfl rfl 8 (by decide) (hts _ tw_981) (fun _ h9 => h9) rfl dX8_clauseOf_161 ?_
          refine lv_bipush (v := 108) hx hb dX8_clauseOf_164 (by decide) ?_
          refine lv_bipush (v := 97) hx hb dX8_clauseOf_166 (by decide) ?_
          refine lv_bipush (v := 116) hx hb dX8_clauseOf_168 (by decide) ?_
          refine ro_l (D := D) (va_runS (As := [.int 108, .int 97, .int 116]) (rest := [.long wd]) ⟨hx, hb, hml, hown, hts⟩ ((m_code l D k st lo 108 97 116) H.size) (va_cwS 3 hts (gS tw_1142 tw_1143 tw_87 tw_1144) rfl rfl rfl (by decide +kernel) ⟨Nat.le_of_ble_eq_true rfl, Nat.le_of_ble_eq_true rfl⟩) (pS hS hAlo hlo hP hK hDL hZ [] (by decide) rfl) rfl rfl hl.1 rfl (lv_room (Nat.le_of_ble_eq_true rfl)) dX8_clauseOf_170 ⟨Nat.le_of_ble_eq_true rfl, Nat.le_of_ble_eq_true rfl⟩) hS hA hP (fun r_19 H locs hw_19 hP hS => ?_)
          try dsimp only at hw_19
          refine lv_bipush (v := 101) hx hb dX8_clauseOf_173 (by decide) ?_
          refine ro_l (D := D) (va_runS (As := [.long r_19, .int 101]) (rest := [.long wd]) ⟨hx, hb, hml, hown, hts⟩ ((m_longer l D k st lo r_19 101) H.size) (va_cwS 2 hts (gS tw_1148 tw_1149 tw_87 tw_1150) rfl rfl rfl (by decide +kernel) ⟨Nat.le_of_ble_eq_true rfl, Nat.le_of_ble_eq_true rfl⟩) (pS hS hAlo hlo hP hK hDL hZ [] (by decide) rfl) rfl rfl hl.1 rfl (lv_room (Nat.le_of_ble_eq_true rfl)) dX8_clauseOf_175 ⟨Nat.le_of_ble_eq_true rfl, Nat.le_of_ble_eq_true rfl⟩) hS hA hP (fun r_20 H locs hw_20 hP hS => ?_)
          try dsimp only at hw_20
          refine W.lcmp hx hb dX8_clauseOf_178 ?_
          refine lv_if_ne (tgt := 186) hx hb dX8_clauseOf_179 (by decide) (fun c_21 => ?_) (fun c_21 => ?_)
          · refine lv_aload_n hx hb dX8_clauseOf_186 rfl (lv_at hl 3 rfl) ?_
            refine va_get (D := D) (ci := 8) (v := .long wd) (C := RX8) (T := TX8) (N := 44) hx hb hts inX8 hown hK hP 0 rfl rfl 8 (by decide) (hts _ tw_981) (fun _ h9 => h9) rfl dX8_clauseOf_187 ?_
            refine lv_lload_n hx hb dX8_clauseOf_190 rfl (lv_at hl 2 rfl) ?_
            refine W.lcmp hx hb dX8_clauseOf_191 ?_
            refine lv_if_ne (tgt := 199) hx hb dX8_clauseOf_192 (by decide) (fun c_22 => ?_) (fun c_22 => ?_)
            · refine lv_aload_n hx hb dX8_clauseOf_199 rfl (lv_at hl 3 rfl) ?_
              refine va_get (D := D) (ci := 8) (v := .long wd) (C := RX8) (T := TX8) (N := 44) hx hb hts inX8 hown hK hP 0 rfl rfl 8 (by decide) (hts _ tw_981) (fun _ h9 => h9) rfl dX8_clauseOf_200 ?_
              refine lv_bipush (v := 115) hx hb dX8_clauseOf_203 (by decide) ?_
              refine lv_bipush (v := 101) hx hb dX8_clauseOf_205 (by decide) ?_
              refine lv_bipush (v := 101) hx hb dX8_clauseOf_207 (by decide) ?_
              refine ro_l (D := D) (va_runS (As := [.int 115, .int 101, .int 101]) (rest := [.long wd]) ⟨hx, hb, hml, hown, hts⟩ ((m_code l D k st lo 115 101 101) H.size) (va_cwS 3 hts (gS tw_1142 tw_1143 tw_87 tw_1144) rfl rfl rfl (by decide +kernel) ⟨Nat.le_of_ble_eq_true rfl, Nat.le_of_ble_eq_true rfl⟩) (pS hS hAlo hlo hP hK hDL hZ [] (by decide) rfl) rfl rfl hl.1 rfl (lv_room (Nat.le_of_ble_eq_true rfl)) dX8_clauseOf_209 ⟨Nat.le_of_ble_eq_true rfl, Nat.le_of_ble_eq_true rfl⟩) hS hA hP (fun r_23 H locs hw_23 hP hS => ?_)
              try dsimp only at hw_23
              refine W.lcmp hx hb dX8_clauseOf_212 ?_
              refine lv_if_ne (tgt := 220) hx hb dX8_clauseOf_213 (by decide) (fun c_24 => ?_) (fun c_24 => ?_)
              · refine lv_aload_n hx hb dX8_clauseOf_220 rfl (lv_at hl 3 rfl) ?_
                refine va_get (D := D) (ci := 8) (v := .long wd) (C := RX8) (T := TX8) (N := 44) hx hb hts inX8 hown hK hP 0 rfl rfl 8 (by decide) (hts _ tw_981) (fun _ h9 => h9) rfl dX8_clauseOf_221 ?_
                refine lv_bipush (v := 114) hx hb dX8_clauseOf_224 (by decide) ?_
                refine lv_bipush (v := 111) hx hb dX8_clauseOf_226 (by decide) ?_
                refine lv_bipush (v := 117) hx hb dX8_clauseOf_228 (by decide) ?_
                refine ro_l (D := D) (va_runS (As := [.int 114, .int 111, .int 117]) (rest := [.long wd]) ⟨hx, hb, hml, hown, hts⟩ ((m_code l D k st lo 114 111 117) H.size) (va_cwS 3 hts (gS tw_1142 tw_1143 tw_87 tw_1144) rfl rfl rfl (by decide +kernel) ⟨Nat.le_of_ble_eq_true rfl, Nat.le_of_ble_eq_true rfl⟩) (pS hS hAlo hlo hP hK hDL hZ [] (by decide) rfl) rfl rfl hl.1 rfl (lv_room (Nat.le_of_ble_eq_true rfl)) dX8_clauseOf_230 ⟨Nat.le_of_ble_eq_true rfl, Nat.le_of_ble_eq_true rfl⟩) hS hA hP (fun r_25 H locs hw_25 hP hS => ?_)
                try dsimp only at hw_25
                refine lv_bipush (v := 110) hx hb dX8_clauseOf_233 (by decide) ?_
                refine lv_bipush (v := 100) hx hb dX8_clauseOf_235 (by decide) ?_
                refine ro_l (D := D) (va_runS (As := [.long r_25, .int 110, .int 100]) (rest := [.long wd]) ⟨hx, hb, hml, hown, hts⟩ ((m_longest l D k st lo r_25 110 100) H.size) (va_cwS 3 hts (gS tw_1145 tw_1146 tw_87 tw_1147) rfl rfl rfl (by decide +kernel) ⟨Nat.le_of_ble_eq_true rfl, Nat.le_of_ble_eq_true rfl⟩) (pS hS hAlo hlo hP hK hDL hZ [] (by decide) rfl) rfl rfl hl.1 rfl (lv_room (Nat.le_of_ble_eq_true rfl)) dX8_clauseOf_237 ⟨Nat.le_of_ble_eq_true rfl, Nat.le_of_ble_eq_true rfl⟩) hS hA hP (fun r_26 H locs hw_26 hP hS => ?_)
                try dsimp only at hw_26
                refine W.lcmp hx hb dX8_clauseOf_240 ?_
                refine lv_if_ne (tgt := 249) hx hb dX8_clauseOf_241 (by decide) (fun c_27 => ?_) (fun c_27 => ?_)
                · refine lv_aload_n hx hb dX8_clauseOf_249 rfl (lv_at hl 3 rfl) ?_
                  refine va_get (D := D) (ci := 8) (v := .long wd) (C := RX8) (T := TX8) (N := 44) hx hb hts inX8 hown hK hP 0 rfl rfl 8 (by decide) (hts _ tw_981) (fun _ h9 => h9) rfl dX8_clauseOf_250 ?_
                  refine lv_lload_n hx hb dX8_clauseOf_253 rfl (lv_at hl 1 rfl) ?_
                  refine W.lcmp hx hb dX8_clauseOf_254 ?_
                  refine lv_if_ne (tgt := 263) hx hb dX8_clauseOf_255 (by decide) (fun c_28 => ?_) (fun c_28 => ?_)
                  · refine lv_iconst (v := (-1)) hx hb dX8_clauseOf_263 (by decide) ?_
                    refine lv_istore (lv' := [(6, .int (-1)), (5, .int (-1)), (3, .long r_6), (1, .long r_3), (0, .ref (a 0))]) hx hb dX8_clauseOf_264 hl (by decide) rfl (fun ls hl => ?_)
                    refine lv_iload hx hb dX8_clauseOf_266 (lv_at hl 1 rfl) ?_
                    refine lv_if_lt (tgt := 276) hx hb dX8_clauseOf_268 (by decide) (fun _ => ?_) (fun h => absurd (by decide) h)
                    refine lv_iload hx hb dX8_clauseOf_276 (lv_at hl 0 rfl) ?_
                    exact W.iret (v := (-1)) hx hb hr (fun t ht hW => ⟨⟨(-1), (), rfl, .inl rfl, trivial⟩, hS.F ht⟩) hS.2.2 dX8_clauseOf_278
                  · refine lv_bipush (v := 8) hx hb dX8_clauseOf_258 (by decide) ?_
                    refine lv_goto (tgt := 264) hx hb dX8_clauseOf_260 (by decide) ?_
                    refine lv_istore (lv' := [(6, .int 8), (5, .int (-1)), (3, .long r_6), (1, .long r_3), (0, .ref (a 0))]) hx hb dX8_clauseOf_264 hl (by decide) rfl (fun ls hl => ?_)
                    refine lv_iload hx hb dX8_clauseOf_266 (lv_at hl 1 rfl) ?_
                    refine lv_if_lt (tgt := 276) hx hb dX8_clauseOf_268 (by decide) (fun _ => ?_) (fun h => absurd (by decide) h)
                    refine lv_iload hx hb dX8_clauseOf_276 (lv_at hl 0 rfl) ?_
                    exact W.iret (v := 8) hx hb hr (fun t ht hW => ⟨⟨8, (), rfl, .inr ⟨8, by omega, rfl⟩, trivial⟩, hS.F ht⟩) hS.2.2 dX8_clauseOf_278
                · refine lv_bipush (v := 6) hx hb dX8_clauseOf_244 (by decide) ?_
                  refine lv_goto (tgt := 264) hx hb dX8_clauseOf_246 (by decide) ?_
                  refine lv_istore (lv' := [(6, .int 6), (5, .int (-1)), (3, .long r_6), (1, .long r_3), (0, .ref (a 0))]) hx hb dX8_clauseOf_264 hl (by decide) rfl (fun ls hl => ?_)
                  refine lv_iload hx hb dX8_clauseOf_266 (lv_at hl 1 rfl) ?_
                  refine lv_if_lt (tgt := 276) hx hb dX8_clauseOf_268 (by decide) (fun _ => ?_) (fun h => absurd (by decide) h)
                  refine lv_iload hx hb dX8_clauseOf_276 (lv_at hl 0 rfl) ?_
                  exact W.iret (v := 6) hx hb hr (fun t ht hW => ⟨⟨6, (), rfl, .inr ⟨6, by omega, rfl⟩, trivial⟩, hS.F ht⟩) hS.2.2 dX8_clauseOf_278
              · refine lv_iconst (v := 5) hx hb dX8_clauseOf_216 (by decide) ?_
                refine lv_goto (tgt := 264) hx hb dX8_clauseOf_217 (by decide) ?_
                refine lv_istore (lv' := [(6, .int 5), (5, .int (-1)), (3, .long r_6), (1, .long r_3), (0, .ref (a 0))]) hx hb dX8_clauseOf_264 hl (by decide) rfl (fun ls hl => ?_)
                refine lv_iload hx hb dX8_clauseOf_266 (lv_at hl 1 rfl) ?_
                refine lv_if_lt (tgt := 276) hx hb dX8_clauseOf_268 (by decide) (fun _ => ?_) (fun h => absurd (by decide) h)
                refine lv_iload hx hb dX8_clauseOf_276 (lv_at hl 0 rfl) ?_
                exact W.iret (v := 5) hx hb hr (fun t ht hW => ⟨⟨5, (), rfl, .inr ⟨5, by omega, rfl⟩, trivial⟩, hS.F ht⟩) hS.2.2 dX8_clauseOf_278
            · refine lv_iconst (v := 4) hx hb dX8_clauseOf_195 (by decide) ?_
              refine lv_goto (tgt := 264) hx hb dX8_clauseOf_196 (by decide) ?_
              refine lv_istore (lv' := [(6, .int 4), (5, .int (-1)), (3, .long r_6), (1, .long r_3), (0, .ref (a 0))]) hx hb dX8_clauseOf_264 hl (by decide) rfl (fun ls hl => ?_)
              refine lv_iload hx hb dX8_clauseOf_266 (lv_at hl 1 rfl) ?_
              refine lv_if_lt (tgt := 276) hx hb dX8_clauseOf_268 (by decide) (fun _ => ?_) (fun h => absurd (by decide) h)
              refine lv_iload hx hb dX8_clauseOf_276 (lv_at hl 0 rfl) ?_
              exact W.iret (v := 4) hx hb hr (fun t ht hW => ⟨⟨4, (), rfl, .inr ⟨4, by omega, rfl⟩, trivial⟩, hS.F ht⟩) hS.2.2 dX8_clauseOf_278
          · refine lv_iconst (v := 3) hx hb dX8_clauseOf_182 (by decide) ?_
            refine lv_goto (tgt := 264) hx hb dX8_clauseOf_183 (by decide) ?_
            refine lv_istore (lv' := [(6, .int 3), (5, .int (-1)), (3, .long r_6), (1, .long r_3), (0, .ref (a 0))]) hx hb dX8_clauseOf_264 hl (by decide) rfl (fun ls hl => ?_)
            refine lv_iload hx hb dX8_clauseOf_266 (lv_at hl 1 rfl) ?_
            refine lv_if_lt (tgt := 276) hx hb dX8_clauseOf_268 (by decide) (fun _ => ?_) (fun h => absurd (by decide) h)
            refine lv_iload hx hb dX8_clauseOf_276 (lv_at hl 0 rfl) ?_
            exact W.iret (v := 3) hx hb hr (fun t ht hW => ⟨⟨3, (), rfl, .inr ⟨3, by omega, rfl⟩, trivial⟩, hS.F ht⟩) hS.2.2 dX8_clauseOf_278
        · refine lv_iconst (v := 2) hx hb dX8_clauseOf_153 (by decide) ?_
          refine lv_goto (tgt := 158) hx hb dX8_clauseOf_154 (by decide) ?_
          refine lv_istore (lv' := [(5, .int 2), (3, .long r_6), (1, .long r_3), (0, .ref (a 0))]) hx hb dX8_clauseOf_158 hl (by decide) rfl (fun ls hl => ?_)
          refine lv_aload_n hx hb dX8_clauseOf_160 rfl (lv_at hl 3 rfl) ?_
          refine va_get (D := D) (ci := 8) (v := .long wd) (C := RX8) (T := TX8) (N := 44) hx hb hts inX8 hown hK hP 0 rfl rfl 8 (by decide) (hts _ tw_981) (fun _ h9 => h9) rfl dX8_clauseOf_161 ?_
          refine lv_bipush (v := 108) hx hb dX8_clauseOf_164 (by decide) ?_
          refine lv_bipush (v := 97) hx hb dX8_clauseOf_166 (by decide) ?_
          refine lv_bipush (v := 116) hx hb dX8_clauseOf_168 (by decide) ?_
          refine ro_l (D := D) (va_runS (As := [.int 108, .int 97, .int 116]) (rest := [.long wd]) ⟨hx, hb, hml, hown, hts⟩ ((m_code l D k st lo 108 97 116) H.size) (va_cwS 3 hts (gS tw_1142 tw_1143 tw_87 tw_1144) rfl rfl rfl (by decide +kernel) ⟨Nat.le_of_ble_eq_true rfl, Nat.le_of_ble_eq_true rfl⟩) (pS hS hAlo hlo hP hK hDL hZ [] (by decide) rfl) rfl rfl hl.1 rfl (lv_room (Nat.le_of_ble_eq_true rfl)) dX8_clauseOf_170 ⟨Nat.le_of_ble_eq_true rfl, Nat.le_of_ble_eq_true rfl⟩) hS hA hP (fun r_29 H locs hw_29 hP hS => ?_)
          try dsimp only at hw_29
          refine lv_bipush (v := 101) hx hb dX8_clauseOf_173 (by decide) ?_
          refine ro_l (D := D) (va_runS (As := [.long r_29, .int 101]) (rest := [.long wd]) ⟨hx, hb, hml, hown, hts⟩ ((m_longer l D k st lo r_29 101) H.size) (va_cwS 2 hts (gS tw_1148 tw_1149 tw_87 tw_1150) rfl rfl rfl (by decide +kernel) ⟨Nat.le_of_ble_eq_true rfl, Nat.le_of_ble_eq_true rfl⟩) (pS hS hAlo hlo hP hK hDL hZ [] (by decide) rfl) rfl rfl hl.1 rfl (lv_room (Nat.le_of_ble_eq_true rfl)) dX8_clauseOf_175 ⟨Nat.le_of_ble_eq_true rfl, Nat.le_of_ble_eq_true rfl⟩) hS hA hP (fun r_30 H locs hw_30 hP hS => ?_)
          try dsimp only at hw_30
          refine W.lcmp hx hb dX8_clauseOf_178 ?_
          refine lv_if_ne (tgt := 186) hx hb dX8_clauseOf_179 (by decide) (fun c_31 => ?_) (fun c_31 => ?_)
          · refine lv_aload_n hx hb dX8_clauseOf_186 rfl (lv_at hl 3 rfl) ?_
            refine va_get (D := D) (ci := 8) (v := .long wd) (C := RX8) (T := TX8) (N := 44) hx hb hts inX8 hown hK hP 0 rfl rfl 8 (by decide) (hts _ tw_981) (fun _ h9 => h9) rfl dX8_clauseOf_187 ?_
            refine lv_lload_n hx hb dX8_clauseOf_190 rfl (lv_at hl 2 rfl) ?_
            refine W.lcmp hx hb dX8_clauseOf_191 ?_
            refine lv_if_ne (tgt := 199) hx hb dX8_clauseOf_192 (by decide) (fun c_32 => ?_) (fun c_32 => ?_)
            · refine lv_aload_n hx hb dX8_clauseOf_199 rfl (lv_at hl 3 rfl) ?_
              refine va_get (D := D) (ci := 8) (v := .long wd) (C := RX8) (T := TX8) (N := 44) hx hb hts inX8 hown hK hP 0 rfl rfl 8 (by decide) (hts _ tw_981) (fun _ h9 => h9) rfl dX8_clauseOf_200 ?_
              refine lv_bipush (v := 115) hx hb dX8_clauseOf_203 (by decide) ?_
              refine lv_bipush (v := 101) hx hb dX8_clauseOf_205 (by decide) ?_
              refine lv_bipush (v := 101) hx hb dX8_clauseOf_207 (by decide) ?_
              refine ro_l (D := D) (va_runS (As := [.int 115, .int 101, .int 101]) (rest := [.long wd]) ⟨hx, hb, hml, hown, hts⟩ ((m_code l D k st lo 115 101 101) H.size) (va_cwS 3 hts (gS tw_1142 tw_1143 tw_87 tw_1144) rfl rfl rfl (by decide +kernel) ⟨Nat.le_of_ble_eq_true rfl, Nat.le_of_ble_eq_true rfl⟩) (pS hS hAlo hlo hP hK hDL hZ [] (by decide) rfl) rfl rfl hl.1 rfl (lv_room (Nat.le_of_ble_eq_true rfl)) dX8_clauseOf_209 ⟨Nat.le_of_ble_eq_true rfl, Nat.le_of_ble_eq_true rfl⟩) hS hA hP (fun r_33 H locs hw_33 hP hS => ?_)
              try dsimp only at hw_33
              refine W.lcmp hx hb dX8_clauseOf_212 ?_
              refine lv_if_ne (tgt := 220) hx hb dX8_clauseOf_213 (by decide) (fun c_34 => ?_) (fun c_34 => ?_)
              · refine lv_aload_n hx hb dX8_clauseOf_220 rfl (lv_at hl 3 rfl) ?_
                refine va_get (D := D) (ci := 8) (v := .long wd) (C := RX8) (T := TX8) (N := 44) hx hb hts inX8 hown hK hP 0 rfl rfl 8 (by decide) (hts _ tw_981) (fun _ h9 => h9) rfl dX8_clauseOf_221 ?_
                refine lv_bipush (v := 114) hx hb dX8_clauseOf_224 (by decide) ?_
                refine lv_bipush (v := 111) hx hb dX8_clauseOf_226 (by decide) ?_
                refine lv_bipush (v := 117) hx hb dX8_clauseOf_228 (by decide) ?_
                refine ro_l (D := D) (va_runS (As := [.int 114, .int 111, .int 117]) (rest := [.long wd]) ⟨hx, hb, hml, hown, hts⟩ ((m_code l D k st lo 114 111 117) H.size) (va_cwS 3 hts (gS tw_1142 tw_1143 tw_87 tw_1144) rfl rfl rfl (by decide +kernel) ⟨Nat.le_of_ble_eq_true rfl, Nat.le_of_ble_eq_true rfl⟩) (pS hS hAlo hlo hP hK hDL hZ [] (by decide) rfl) rfl rfl hl.1 rfl (lv_room (Nat.le_of_ble_eq_true rfl)) dX8_clauseOf_230 ⟨Nat.le_of_ble_eq_true rfl, Nat.le_of_ble_eq_true rfl⟩) hS hA hP (fun r_35 H locs hw_35 hP hS => ?_)
                try dsimp only at hw_35
                refine lv_bipush (v := 110) hx hb dX8_clauseOf_233 (by decide) ?_
                refine lv_bipush (v := 100) hx hb dX8_clauseOf_235 (by decide) ?_
                refine ro_l (D := D) (va_runS (As := [.long r_35, .int 110, .int 100]) (rest := [.long wd]) ⟨hx, hb, hml, hown, hts⟩ ((m_longest l D k st lo r_35 110 100) H.size) (va_cwS 3 hts (gS tw_1145 tw_1146 tw_87 tw_1147) rfl rfl rfl (by decide +kernel) ⟨Nat.le_of_ble_eq_true rfl, Nat.le_of_ble_eq_true rfl⟩) (pS hS hAlo hlo hP hK hDL hZ [] (by decide) rfl) rfl rfl hl.1 rfl (lv_room (Nat.le_of_ble_eq_true rfl)) dX8_clauseOf_237 ⟨Nat.le_of_ble_eq_true rfl, Nat.le_of_ble_eq_true rfl⟩) hS hA hP (fun r_36 H locs hw_36 hP hS => ?_)
                try dsimp only at hw_36
                refine W.lcmp hx hb dX8_clauseOf_240 ?_
                refine lv_if_ne (tgt := 249) hx hb dX8_clauseOf_241 (by decide) (fun c_37 => ?_) (fun c_37 => ?_)
                · refine lv_aload_n hx hb dX8_clauseOf_249 rfl (lv_at hl 3 rfl) ?_
                  refine va_get (D := D) (ci := 8) (v := .long wd) (C := RX8) (T := TX8) (N := 44) hx hb hts inX8 hown hK hP 0 rfl rfl 8 (by decide) (hts _ tw_981) (fun _ h9 => h9) rfl dX8_clauseOf_250 ?_
                  refine lv_lload_n hx hb dX8_clauseOf_253 rfl (lv_at hl 1 rfl) ?_
                  refine W.lcmp hx hb dX8_clauseOf_254 ?_
                  refine lv_if_ne (tgt := 263) hx hb dX8_clauseOf_255 (by decide) (fun c_38 => ?_) (fun c_38 => ?_)
                  · refine lv_iconst (v := (-1)) hx hb dX8_clauseOf_263 (by decide) ?_
                    refine lv_istore (lv' := [(6, .int (-1)), (5, .int 2), (3, .long r_6), (1, .long r_3), (0, .ref (a 0))]) hx hb dX8_clauseOf_264 hl (by decide) rfl (fun ls hl => ?_)
                    refine lv_iload hx hb dX8_clauseOf_266 (lv_at hl 1 rfl) ?_
                    refine lv_if_lt (tgt := 276) hx hb dX8_clauseOf_268 (by decide) (fun h => absurd h (by decide)) (fun _ => ?_)
                    refine lv_iload hx hb dX8_clauseOf_271 (lv_at hl 1 rfl) ?_
                    refine lv_goto (tgt := 278) hx hb dX8_clauseOf_273 (by decide) ?_
                    exact W.iret (v := 2) hx hb hr (fun t ht hW => ⟨⟨2, (), rfl, .inr ⟨2, by omega, rfl⟩, trivial⟩, hS.F ht⟩) hS.2.2 dX8_clauseOf_278
                  · refine lv_bipush (v := 8) hx hb dX8_clauseOf_258 (by decide) ?_
                    refine lv_goto (tgt := 264) hx hb dX8_clauseOf_260 (by decide) ?_
                    refine lv_istore (lv' := [(6, .int 8), (5, .int 2), (3, .long r_6), (1, .long r_3), (0, .ref (a 0))]) hx hb dX8_clauseOf_264 hl (by decide) rfl (fun ls hl => ?_)
                    refine lv_iload hx hb dX8_clauseOf_266 (lv_at hl 1 rfl) ?_
                    refine lv_if_lt (tgt := 276) hx hb dX8_clauseOf_268 (by decide) (fun h => absurd h (by decide)) (fun _ => ?_)
                    refine lv_iload hx hb dX8_clauseOf_271 (lv_at hl 1 rfl) ?_
                    refine lv_goto (tgt := 278) hx hb dX8_clauseOf_273 (by decide) ?_
                    exact W.iret (v := 2) hx hb hr (fun t ht hW => ⟨⟨2, (), rfl, .inr ⟨2, by omega, rfl⟩, trivial⟩, hS.F ht⟩) hS.2.2 dX8_clauseOf_278
                · refine lv_bipush (v := 6) hx hb dX8_clauseOf_244 (by decide) ?_
                  refine lv_goto (tgt := 264) hx hb dX8_clauseOf_246 (by decide) ?_
                  refine lv_istore (lv' := [(6, .int 6), (5, .int 2), (3, .long r_6), (1, .long r_3), (0, .ref (a 0))]) hx hb dX8_clauseOf_264 hl (by decide) rfl (fun ls hl => ?_)
                  refine lv_iload hx hb dX8_clauseOf_266 (lv_at hl 1 rfl) ?_
                  refine lv_if_lt (tgt := 276) hx hb dX8_clauseOf_268 (by decide) (fun h => absurd h (by decide)) (fun _ => ?_)
                  refine lv_iload hx hb dX8_clauseOf_271 (lv_at hl 1 rfl) ?_
                  refine lv_goto (tgt := 278) hx hb dX8_clauseOf_273 (by decide) ?_
                  exact W.iret (v := 2) hx hb hr (fun t ht hW => ⟨⟨2, (), rfl, .inr ⟨2, by omega, rfl⟩, trivial⟩, hS.F ht⟩) hS.2.2 dX8_clauseOf_278
              · refine lv_iconst (v := 5) hx hb dX8_clauseOf_216 (by decide) ?_
                refine lv_goto (tgt := 264) hx hb dX8_clauseOf_217 (by decide) ?_
                refine lv_istore (lv' := [(6, .int 5), (5, .int 2), (3, .long r_6), (1, .long r_3), (0, .ref (a 0))]) hx hb dX8_clauseOf_264 hl (by decide) rfl (fun ls hl => ?_)
                refine lv_iload hx hb dX8_clauseOf_266 (lv_at hl 1 rfl) ?_
                refine lv_if_lt (tgt := 276) hx hb dX8_clauseOf_268 (by decide) (fun h => absurd h (by decide)) (fun _ => ?_)
                refine lv_iload hx hb dX8_clauseOf_271 (lv_at hl 1 rfl) ?_
                refine lv_goto (tgt := 278) hx hb dX8_clauseOf_273 (by decide) ?_
                exact W.iret (v := 2) hx hb hr (fun t ht hW => ⟨⟨2, (), rfl, .inr ⟨2, by omega, rfl⟩, trivial⟩, hS.F ht⟩) hS.2.2 dX8_clauseOf_278
            · refine lv_iconst (v := 4) hx hb dX8_clauseOf_195 (by decide) ?_
              refine lv_goto (tgt := 264) hx hb dX8_clauseOf_196 (by decide) ?_
              refine lv_istore (lv' := [(6, .int 4), (5, .int 2), (3, .long r_6), (1, .long r_3), (0, .ref (a 0))]) hx hb dX8_clauseOf_264 hl (by decide) rfl (fun ls hl => ?_)
              refine lv_iload hx hb dX8_clauseOf_266 (lv_at hl 1 rfl) ?_
              refine lv_if_lt (tgt := 276) hx hb dX8_clauseOf_268 (by decide) (fun h => absurd h (by decide)) (fun _ => ?_)
              refine lv_iload hx hb dX8_clauseOf_271 (lv_at hl 1 rfl) ?_
              refine lv_goto (tgt := 278) hx hb dX8_clauseOf_273 (by decide) ?_
              exact W.iret (v := 2) hx hb hr (fun t ht hW => ⟨⟨2, (), rfl, .inr ⟨2, by omega, rfl⟩, trivial⟩, hS.F ht⟩) hS.2.2 dX8_clauseOf_278
          · refine lv_iconst (v := 3) hx hb dX8_clauseOf_182 (by decide) ?_
            refine lv_goto (tgt := 264) hx hb dX8_clauseOf_183 (by decide) ?_
            refine lv_istore (lv' := [(6, .int 3), (5, .int 2), (3, .long r_6), (1, .long r_3), (0, .ref (a 0))]) hx hb dX8_clauseOf_264 hl (by decide) rfl (fun ls hl => ?_)
            refine lv_iload hx hb dX8_clauseOf_266 (lv_at hl 1 rfl) ?_
            refine lv_if_lt (tgt := 276) hx hb dX8_clauseOf_268 (by decide) (fun h => absurd h (by decide)) (fun _ => ?_)
            refine lv_iload hx hb dX8_clauseOf_271 (lv_at hl 1 rfl) ?_
            refine lv_goto (tgt := 278) hx hb dX8_clauseOf_273 (by decide) ?_
            exact W.iret (v := 2) hx hb hr (fun t ht hW => ⟨⟨2, (), rfl, .inr ⟨2, by omega, rfl⟩, trivial⟩, hS.F ht⟩) hS.2.2 dX8_clauseOf_278
      · refine lv_iconst (v := 1) hx hb dX8_clauseOf_125 (by decide) ?_
        refine lv_goto (tgt := 158) hx hb dX8_clauseOf_126 (by decide) ?_
        refine lv_istore (lv' := [(5, .int 1), (3, .long r_6), (1, .long r_3), (0, .ref (a 0))]) hx hb dX8_clauseOf_158 hl (by decide) rfl (fun ls hl => ?_)
        refine lv_aload_n hx hb dX8_clauseOf_160 rfl (lv_at hl 3 rfl) ?_
        refine va_get (D := D) (ci := 8) (v := .long wd) (C := RX8) (T := TX8) (N := 44) hx hb hts inX8 hown hK hP 0 rfl rfl 8 (by decide) (hts _ tw_981) (fun _ h9 => h9) rfl dX8_clauseOf_161 ?_
        refine lv_bipush (v := 108) hx hb dX8_clauseOf_164 (by decide) ?_
        refine lv_bipush (v := 97) hx hb dX8_clauseOf_166 (by decide) ?_
        refine lv_bipush (v := 116) hx hb dX8_clauseOf_168 (by decide) ?_
        refine ro_l (D := D) (va_runS (As := [.int 108, .int 97, .int 116]) (rest := [.long wd]) ⟨hx, hb, hml, hown, hts⟩ ((m_code l D k st lo 108 97 116) H.size) (va_cwS 3 hts (gS tw_1142 tw_1143 tw_87 tw_1144) rfl rfl rfl (by decide +kernel) ⟨Nat.le_of_ble_eq_true rfl, Nat.le_of_ble_eq_true rfl⟩) (pS hS hAlo hlo hP hK hDL hZ [] (by decide) rfl) rfl rfl hl.1 rfl (lv_room (Nat.le_of_ble_eq_true rfl)) dX8_clauseOf_170 ⟨Nat.le_of_ble_eq_true rfl, Nat.le_of_ble_eq_true rfl⟩) hS hA hP (fun r_39 H locs hw_39 hP hS => ?_)
        try dsimp only at hw_39
        refine lv_bipush (v := 101) hx hb dX8_clauseOf_173 (by decide) ?_
        refine ro_l (D := D) (va_runS (As := [.long r_39, .int 101]) (rest := [.long wd]) ⟨hx, hb, hml, hown, hts⟩ ((m_longer l D k st lo r_39 101) H.size) (va_cwS 2 hts (gS tw_1148 tw_1149 tw_87 tw_1150) rfl rfl rfl (by decide +kernel) ⟨Nat.le_of_ble_eq_true rfl, Nat.le_of_ble_eq_true rfl⟩) (pS hS hAlo hlo hP hK hDL hZ [] (by decide) rfl) rfl rfl hl.1 rfl (lv_room (Nat.le_of_ble_eq_true rfl)) dX8_clauseOf_175 ⟨Nat.le_of_ble_eq_true rfl, Nat.le_of_ble_eq_true rfl⟩) hS hA hP (fun r_40 H locs hw_40 hP hS => ?_)
        try dsimp only at hw_40
        refine W.lcmp hx hb dX8_clauseOf_178 ?_
        refine lv_if_ne (tgt := 186) hx hb dX8_clauseOf_179 (by decide) (fun c_41 => ?_) (fun c_41 => ?_)
        · refine lv_aload_n hx hb dX8_clauseOf_186 rfl (lv_at hl 3 rfl) ?_
          refine va_get (D := D) (ci := 8) (v := .long wd) (C := RX8) (T := TX8) (N := 44) hx hb hts inX8 hown hK hP 0 rfl rfl 8 (by decide) (hts _ tw_981) (fun _ h9 => h9) rfl dX8_clauseOf_187 ?_
          refine lv_lload_n hx hb dX8_clauseOf_190 rfl (lv_at hl 2 rfl) ?_
          refine W.lcmp hx hb dX8_clauseOf_191 ?_
          refine lv_if_ne (tgt := 199) hx hb dX8_clauseOf_192 (by decide) (fun c_42 => ?_) (fun c_42 => ?_)
          · refine lv_aload_n hx hb dX8_clauseOf_199 rfl (lv_at hl 3 rfl) ?_
            refine va_get (D := D) (ci := 8) (v := .long wd) (C := RX8) (T := TX8) (N := 44) hx hb hts inX8 hown hK hP 0 rfl rfl 8 (by decide) (hts _ tw_981) (fun _ h9 => h9) rfl dX8_clauseOf_200 ?_
            refine lv_bipush (v := 115) hx hb dX8_clauseOf_203 (by decide) ?_
            refine lv_bipush (v := 101) hx hb dX8_clauseOf_205 (by decide) ?_
            refine lv_bipush (v := 101) hx hb dX8_clauseOf_207 (by decide) ?_
            refine ro_l (D := D) (va_runS (As := [.int 115, .int 101, .int 101]) (rest := [.long wd]) ⟨hx, hb, hml, hown, hts⟩ ((m_code l D k st lo 115 101 101) H.size) (va_cwS 3 hts (gS tw_1142 tw_1143 tw_87 tw_1144) rfl rfl rfl (by decide +kernel) ⟨Nat.le_of_ble_eq_true rfl, Nat.le_of_ble_eq_true rfl⟩) (pS hS hAlo hlo hP hK hDL hZ [] (by decide) rfl) rfl rfl hl.1 rfl (lv_room (Nat.le_of_ble_eq_true rfl)) dX8_clauseOf_209 ⟨Nat.le_of_ble_eq_true rfl, Nat.le_of_ble_eq_true rfl⟩) hS hA hP (fun r_43 H locs hw_43 hP hS => ?_)
            try dsimp only at hw_43
            refine W.lcmp hx hb dX8_clauseOf_212 ?_
            refine lv_if_ne (tgt := 220) hx hb dX8_clauseOf_213 (by decide) (fun c_44 => ?_) (fun c_44 => ?_)
            · refine lv_aload_n hx hb dX8_clauseOf_220 rfl (lv_at hl 3 rfl) ?_
              refine va_get (D := D) (ci := 8) (v := .long wd) (C := RX8) (T := TX8) (N := 44) hx hb hts inX8 hown hK hP 0 rfl rfl 8 (by decide) (hts _ tw_981) (fun _ h9 => h9) rfl dX8_clauseOf_221 ?_
              refine lv_bipush (v := 114) hx hb dX8_clauseOf_224 (by decide) ?_
              refine lv_bipush (v := 111) hx hb dX8_clauseOf_226 (by decide) ?_
              refine lv_bipush (v := 117) hx hb dX8_clauseOf_228 (by decide) ?_
              refine ro_l (D := D) (va_runS (As := [.int 114, .int 111, .int 117]) (rest := [.long wd]) ⟨hx, hb, hml, hown, hts⟩ ((m_code l D k st lo 114 111 117) H.size) (va_cwS 3 hts (gS tw_1142 tw_1143 tw_87 tw_1144) rfl rfl rfl (by decide +kernel) ⟨Nat.le_of_ble_eq_true rfl, Nat.le_of_ble_eq_true rfl⟩) (pS hS hAlo hlo hP hK hDL hZ [] (by decide) rfl) rfl rfl hl.1 rfl (lv_room (Nat.le_of_ble_eq_true rfl)) dX8_clauseOf_230 ⟨Nat.le_of_ble_eq_true rfl, Nat.le_of_ble_eq_true rfl⟩) hS hA hP (fun r_45 H locs hw_45 hP hS => ?_)
              try dsimp only at hw_45
              refine lv_bipush (v := 110) hx hb dX8_clauseOf_233 (by decide) ?_
              refine lv_bipush (v := 100) hx hb dX8_clauseOf_235 (by decide) ?_
              refine ro_l (D := D) (va_runS (As := [.long r_45, .int 110, .int 100]) (rest := [.long wd]) ⟨hx, hb, hml, hown, hts⟩ ((m_longest l D k st lo r_45 110 100) H.size) (va_cwS 3 hts (gS tw_1145 tw_1146 tw_87 tw_1147) rfl rfl rfl (by decide +kernel) ⟨Nat.le_of_ble_eq_true rfl, Nat.le_of_ble_eq_true rfl⟩) (pS hS hAlo hlo hP hK hDL hZ [] (by decide) rfl) rfl rfl hl.1 rfl (lv_room (Nat.le_of_ble_eq_true rfl)) dX8_clauseOf_237 ⟨Nat.le_of_ble_eq_true rfl, Nat.le_of_ble_eq_true rfl⟩) hS hA hP (fun r_46 H locs hw_46 hP hS => ?_)
              try dsimp only at hw_46
              refine W.lcmp hx hb dX8_clauseOf_240 ?_
              refine lv_if_ne (tgt := 249) hx hb dX8_clauseOf_241 (by decide) (fun c_47 => ?_) (fun c_47 => ?_)
              · refine lv_aload_n hx hb dX8_clauseOf_249 rfl (lv_at hl 3 rfl) ?_
                refine va_get (D := D) (ci := 8) (v := .long wd) (C := RX8) (T := TX8) (N := 44) hx hb hts inX8 hown hK hP 0 rfl rfl 8 (by decide) (hts _ tw_981) (fun _ h9 => h9) rfl dX8_clauseOf_250 ?_
                refine lv_lload_n hx hb dX8_clauseOf_253 rfl (lv_at hl 1 rfl) ?_
                refine W.lcmp hx hb dX8_clauseOf_254 ?_
                refine lv_if_ne (tgt := 263) hx hb dX8_clauseOf_255 (by decide) (fun c_48 => ?_) (fun c_48 => ?_)
                · refine lv_iconst (v := (-1)) hx hb dX8_clauseOf_263 (by decide) ?_
                  refine lv_istore (lv' := [(6, .int (-1)), (5, .int 1), (3, .long r_6), (1, .long r_3), (0, .ref (a 0))]) hx hb dX8_clauseOf_264 hl (by decide) rfl (fun ls hl => ?_)
                  refine lv_iload hx hb dX8_clauseOf_266 (lv_at hl 1 rfl) ?_
                  refine lv_if_lt (tgt := 276) hx hb dX8_clauseOf_268 (by decide) (fun h => absurd h (by decide)) (fun _ => ?_)
                  refine lv_iload hx hb dX8_clauseOf_271 (lv_at hl 1 rfl) ?_
                  refine lv_goto (tgt := 278) hx hb dX8_clauseOf_273 (by decide) ?_
                  exact W.iret (v := 1) hx hb hr (fun t ht hW => ⟨⟨1, (), rfl, .inr ⟨1, by omega, rfl⟩, trivial⟩, hS.F ht⟩) hS.2.2 dX8_clauseOf_278
                · refine lv_bipush (v := 8) hx hb dX8_clauseOf_258 (by decide) ?_
                  refine lv_goto (tgt := 264) hx hb dX8_clauseOf_260 (by decide) ?_
                  refine lv_istore (lv' := [(6, .int 8), (5, .int 1), (3, .long r_6), (1, .long r_3), (0, .ref (a 0))]) hx hb dX8_clauseOf_264 hl (by decide) rfl (fun ls hl => ?_)
                  refine lv_iload hx hb dX8_clauseOf_266 (lv_at hl 1 rfl) ?_
                  refine lv_if_lt (tgt := 276) hx hb dX8_clauseOf_268 (by decide) (fun h => absurd h (by decide)) (fun _ => ?_)
                  refine lv_iload hx hb dX8_clauseOf_271 (lv_at hl 1 rfl) ?_
                  refine lv_goto (tgt := 278) hx hb dX8_clauseOf_273 (by decide) ?_
                  exact W.iret (v := 1) hx hb hr (fun t ht hW => ⟨⟨1, (), rfl, .inr ⟨1, by omega, rfl⟩, trivial⟩, hS.F ht⟩) hS.2.2 dX8_clauseOf_278
              · refine lv_bipush (v := 6) hx hb dX8_clauseOf_244 (by decide) ?_
                refine lv_goto (tgt := 264) hx hb dX8_clauseOf_246 (by decide) ?_
                refine lv_istore (lv' := [(6, .int 6), (5, .int 1), (3, .long r_6), (1, .long r_3), (0, .ref (a 0))]) hx hb dX8_clauseOf_264 hl (by decide) rfl (fun ls hl => ?_)
                refine lv_iload hx hb dX8_clauseOf_266 (lv_at hl 1 rfl) ?_
                refine lv_if_lt (tgt := 276) hx hb dX8_clauseOf_268 (by decide) (fun h => absurd h (by decide)) (fun _ => ?_)
                refine lv_iload hx hb dX8_clauseOf_271 (lv_at hl 1 rfl) ?_
                refine lv_goto (tgt := 278) hx hb dX8_clauseOf_273 (by decide) ?_
                exact W.iret (v := 1) hx hb hr (fun t ht hW => ⟨⟨1, (), rfl, .inr ⟨1, by omega, rfl⟩, trivial⟩, hS.F ht⟩) hS.2.2 dX8_clauseOf_278
            · refine lv_iconst (v := 5) hx hb dX8_clauseOf_216 (by decide) ?_
              refine lv_goto (tgt := 264) hx hb dX8_clauseOf_217 (by decide) ?_
              refine lv_istore (lv' := [(6, .int 5), (5, .int 1), (3, .long r_6), (1, .long r_3), (0, .ref (a 0))]) hx hb dX8_clauseOf_264 hl (by decide) rfl (fun ls hl => ?_)
              refine lv_iload hx hb dX8_clauseOf_266 (lv_at hl 1 rfl) ?_
              refine lv_if_lt (tgt := 276) hx hb dX8_clauseOf_268 (by decide) (fun h => absurd h (by decide)) (fun _ => ?_)
              refine lv_iload hx hb dX8_clauseOf_271 (lv_at hl 1 rfl) ?_
              refine lv_goto (tgt := 278) hx hb dX8_clauseOf_273 (by decide) ?_
              exact W.iret (v := 1) hx hb hr (fun t ht hW => ⟨⟨1, (), rfl, .inr ⟨1, by omega, rfl⟩, trivial⟩, hS.F ht⟩) hS.2.2 dX8_clauseOf_278
          · refine lv_iconst (v := 4) hx hb dX8_clauseOf_195 (by decide) ?_
            refine lv_goto (tgt := 264) hx hb dX8_clauseOf_196 (by decide) ?_
            refine lv_istore (lv' := [(6, .int 4), (5, .int 1), (3, .long r_6), (1, .long r_3), (0, .ref (a 0))]) hx hb dX8_clauseOf_264 hl (by decide) rfl (fun ls hl => ?_)
            refine lv_iload hx hb dX8_clauseOf_266 (lv_at hl 1 rfl) ?_
            refine lv_if_lt (tgt := 276) hx hb dX8_clauseOf_268 (by decide) (fun h => absurd h (by decide)) (fun _ => ?_)
            refine lv_iload hx hb dX8_clauseOf_271 (lv_at hl 1 rfl) ?_
            refine lv_goto (tgt := 278) hx hb dX8_clauseOf_273 (by decide) ?_
            exact W.iret (v := 1) hx hb hr (fun t ht hW => ⟨⟨1, (), rfl, .inr ⟨1, by omega, rfl⟩, trivial⟩, hS.F ht⟩) hS.2.2 dX8_clauseOf_278
        · refine lv_iconst (v := 3) hx hb dX8_clauseOf_182 (by decide) ?_
          refine lv_goto (tgt := 264) hx hb dX8_clauseOf_183 (by decide) ?_
          refine lv_istore (lv' := [(6, .int 3), (5, .int 1), (3, .long r_6), (1, .long r_3), (0, .ref (a 0))]) hx hb dX8_clauseOf_264 hl (by decide) rfl (fun ls hl => ?_)
          refine lv_iload hx hb dX8_clauseOf_266 (lv_at hl 1 rfl) ?_
          refine lv_if_lt (tgt := 276) hx hb dX8_clauseOf_268 (by decide) (fun h => absurd h (by decide)) (fun _ => ?_)
          refine lv_iload hx hb dX8_clauseOf_271 (lv_at hl 1 rfl) ?_
          refine lv_goto (tgt := 278) hx hb dX8_clauseOf_273 (by decide) ?_
          exact W.iret (v := 1) hx hb hr (fun t ht hW => ⟨⟨1, (), rfl, .inr ⟨1, by omega, rfl⟩, trivial⟩, hS.F ht⟩) hS.2.2 dX8_clauseOf_278
    · refine lv_iconst (v := 0) hx hb dX8_clauseOf_99 (by decide) ?_
      refine lv_goto (tgt := 158) hx hb dX8_clauseOf_100 (by decide) ?_
      refine lv_istore (lv' := [(5, .int 0), (3, .long r_6), (1, .long r_3), (0, .ref (a 0))]) hx hb dX8_clauseOf_158 hl (by decide) rfl (fun ls hl => ?_)
      refine lv_aload_n hx hb dX8_clauseOf_160 rfl (lv_at hl 3 rfl) ?_
      refine va_get (D := D) (ci := 8) (v := .long wd) (C := RX8) (T := TX8) (N := 44) hx hb hts inX8 hown hK hP 0 rfl rfl 8 (by decide) (hts _ tw_981) (fun _ h9 => h9) rfl dX8_clauseOf_161 ?_
      refine lv_bipush (v := 108) hx hb dX8_clauseOf_164 (by decide) ?_
      refine lv_bipush (v := 97) hx hb dX8_clauseOf_166 (by decide) ?_
      refine lv_bipush (v := 116) hx hb dX8_clauseOf_168 (by decide) ?_
      refine ro_l (D := D) (va_runS (As := [.int 108, .int 97, .int 116]) (rest := [.long wd]) ⟨hx, hb, hml, hown, hts⟩ ((m_code l D k st lo 108 97 116) H.size) (va_cwS 3 hts (gS tw_1142 tw_1143 tw_87 tw_1144) rfl rfl rfl (by decide +kernel) ⟨Nat.le_of_ble_eq_true rfl, Nat.le_of_ble_eq_true rfl⟩) (pS hS hAlo hlo hP hK hDL hZ [] (by decide) rfl) rfl rfl hl.1 rfl (lv_room (Nat.le_of_ble_eq_true rfl)) dX8_clauseOf_170 ⟨Nat.le_of_ble_eq_true rfl, Nat.le_of_ble_eq_true rfl⟩) hS hA hP (fun r_49 H locs hw_49 hP hS => ?_)
      try dsimp only at hw_49
      refine lv_bipush (v := 101) hx hb dX8_clauseOf_173 (by decide) ?_
      refine ro_l (D := D) (va_runS (As := [.long r_49, .int 101]) (rest := [.long wd]) ⟨hx, hb, hml, hown, hts⟩ ((m_longer l D k st lo r_49 101) H.size) (va_cwS 2 hts (gS tw_1148 tw_1149 tw_87 tw_1150) rfl rfl rfl (by decide +kernel) ⟨Nat.le_of_ble_eq_true rfl, Nat.le_of_ble_eq_true rfl⟩) (pS hS hAlo hlo hP hK hDL hZ [] (by decide) rfl) rfl rfl hl.1 rfl (lv_room (Nat.le_of_ble_eq_true rfl)) dX8_clauseOf_175 ⟨Nat.le_of_ble_eq_true rfl, Nat.le_of_ble_eq_true rfl⟩) hS hA hP (fun r_50 H locs hw_50 hP hS => ?_)
      try dsimp only at hw_50
      refine W.lcmp hx hb dX8_clauseOf_178 ?_
      refine lv_if_ne (tgt := 186) hx hb dX8_clauseOf_179 (by decide) (fun c_51 => ?_) (fun c_51 => ?_)
      · refine lv_aload_n hx hb dX8_clauseOf_186 rfl (lv_at hl 3 rfl) ?_
        refine va_get (D := D) (ci := 8) (v := .long wd) (C := RX8) (T := TX8) (N := 44) hx hb hts inX8 hown hK hP 0 rfl rfl 8 (by decide) (hts _ tw_981) (fun _ h9 => h9) rfl dX8_clauseOf_187 ?_
        refine lv_lload_n hx hb dX8_clauseOf_190 rfl (lv_at hl 2 rfl) ?_
        refine W.lcmp hx hb dX8_clauseOf_191 ?_
        refine lv_if_ne (tgt := 199) hx hb dX8_clauseOf_192 (by decide) (fun c_52 => ?_) (fun c_52 => ?_)
        · refine lv_aload_n hx hb dX8_clauseOf_199 rfl (lv_at hl 3 rfl) ?_
          refine va_get (D := D) (ci := 8) (v := .long wd) (C := RX8) (T := TX8) (N := 44) hx hb hts inX8 hown hK hP 0 rfl rfl 8 (by decide) (hts _ tw_981) (fun _ h9 => h9) rfl dX8_clauseOf_200 ?_
          refine lv_bipush (v := 115) hx hb dX8_clauseOf_203 (by decide) ?_
          refine lv_bipush (v := 101) hx hb dX8_clauseOf_205 (by decide) ?_
          refine lv_bipush (v := 101) hx hb dX8_clauseOf_207 (by decide) ?_
          refine ro_l (D := D) (va_runS (As := [.int 115, .int 101, .int 101]) (rest := [.long wd]) ⟨hx, hb, hml, hown, hts⟩ ((m_code l D k st lo 115 101 101) H.size) (va_cwS 3 hts (gS tw_1142 tw_1143 tw_87 tw_1144) rfl rfl rfl (by decide +kernel) ⟨Nat.le_of_ble_eq_true rfl, Nat.le_of_ble_eq_true rfl⟩) (pS hS hAlo hlo hP hK hDL hZ [] (by decide) rfl) rfl rfl hl.1 rfl (lv_room (Nat.le_of_ble_eq_true rfl)) dX8_clauseOf_209 ⟨Nat.le_of_ble_eq_true rfl, Nat.le_of_ble_eq_true rfl⟩) hS hA hP (fun r_53 H locs hw_53 hP hS => ?_)
          try dsimp only at hw_53
          refine W.lcmp hx hb dX8_clauseOf_212 ?_
          refine lv_if_ne (tgt := 220) hx hb dX8_clauseOf_213 (by decide) (fun c_54 => ?_) (fun c_54 => ?_)
          · refine lv_aload_n hx hb dX8_clauseOf_220 rfl (lv_at hl 3 rfl) ?_
            refine va_get (D := D) (ci := 8) (v := .long wd) (C := RX8) (T := TX8) (N := 44) hx hb hts inX8 hown hK hP 0 rfl rfl 8 (by decide) (hts _ tw_981) (fun _ h9 => h9) rfl dX8_clauseOf_221 ?_
            refine lv_bipush (v := 114) hx hb dX8_clauseOf_224 (by decide) ?_
            refine lv_bipush (v := 111) hx hb dX8_clauseOf_226 (by decide) ?_
            refine lv_bipush (v := 117) hx hb dX8_clauseOf_228 (by decide) ?_
            refine ro_l (D := D) (va_runS (As := [.int 114, .int 111, .int 117]) (rest := [.long wd]) ⟨hx, hb, hml, hown, hts⟩ ((m_code l D k st lo 114 111 117) H.size) (va_cwS 3 hts (gS tw_1142 tw_1143 tw_87 tw_1144) rfl rfl rfl (by decide +kernel) ⟨Nat.le_of_ble_eq_true rfl, Nat.le_of_ble_eq_true rfl⟩) (pS hS hAlo hlo hP hK hDL hZ [] (by decide) rfl) rfl rfl hl.1 rfl (lv_room (Nat.le_of_ble_eq_true rfl)) dX8_clauseOf_230 ⟨Nat.le_of_ble_eq_true rfl, Nat.le_of_ble_eq_true rfl⟩) hS hA hP (fun r_55 H locs hw_55 hP hS => ?_)
            try dsimp only at hw_55
            refine lv_bipush (v := 110) hx hb dX8_clauseOf_233 (by decide) ?_
            refine lv_bipush (v := 100) hx hb dX8_clauseOf_235 (by decide) ?_
            refine ro_l (D := D) (va_runS (As := [.long r_55, .int 110, .int 100]) (rest := [.long wd]) ⟨hx, hb, hml, hown, hts⟩ ((m_longest l D k st lo r_55 110 100) H.size) (va_cwS 3 hts (gS tw_1145 tw_1146 tw_87 tw_1147) rfl rfl rfl (by decide +kernel) ⟨Nat.le_of_ble_eq_true rfl, Nat.le_of_ble_eq_true rfl⟩) (pS hS hAlo hlo hP hK hDL hZ [] (by decide) rfl) rfl rfl hl.1 rfl (lv_room (Nat.le_of_ble_eq_true rfl)) dX8_clauseOf_237 ⟨Nat.le_of_ble_eq_true rfl, Nat.le_of_ble_eq_true rfl⟩) hS hA hP (fun r_56 H locs hw_56 hP hS => ?_)
            try dsimp only at hw_56
            refine W.lcmp hx hb dX8_clauseOf_240 ?_
            refine lv_if_ne (tgt := 249) hx hb dX8_clauseOf_241 (by decide) (fun c_57 => ?_) (fun c_57 => ?_)
            · refine lv_aload_n hx hb dX8_clauseOf_249 rfl (lv_at hl 3 rfl) ?_
              refine va_get (D := D) (ci := 8) (v := .long wd) (C := RX8) (T := TX8) (N := 44) hx hb hts inX8 hown hK hP 0 rfl rfl 8 (by decide) (hts _ tw_981) (fun _ h9 => h9) rfl dX8_clauseOf_250 ?_
              refine lv_lload_n hx hb dX8_clauseOf_253 rfl (lv_at hl 1 rfl) ?_
              refine W.lcmp hx hb dX8_clauseOf_254 ?_
              refine lv_if_ne (tgt := 263) hx hb dX8_clauseOf_255 (by decide) (fun c_58 => ?_) (fun c_58 => ?_)
              · refine lv_iconst (v := (-1)) hx hb dX8_clauseOf_263 (by decide) ?_
                refine lv_istore (lv' := [(6, .int (-1)), (5, .int 0), (3, .long r_6), (1, .long r_3), (0, .ref (a 0))]) hx hb dX8_clauseOf_264 hl (by decide) rfl (fun ls hl => ?_)
                refine lv_iload hx hb dX8_clauseOf_266 (lv_at hl 1 rfl) ?_
                refine lv_if_lt (tgt := 276) hx hb dX8_clauseOf_268 (by decide) (fun h => absurd h (by decide)) (fun _ => ?_)
                refine lv_iload hx hb dX8_clauseOf_271 (lv_at hl 1 rfl) ?_
                refine lv_goto (tgt := 278) hx hb dX8_clauseOf_273 (by decide) ?_
                exact W.iret (v := 0) hx hb hr (fun t ht hW => ⟨⟨0, (), rfl, .inr ⟨0, by omega, rfl⟩, trivial⟩, hS.F ht⟩) hS.2.2 dX8_clauseOf_278
              · refine lv_bipush (v := 8) hx hb dX8_clauseOf_258 (by decide) ?_
                refine lv_goto (tgt := 264) hx hb dX8_clauseOf_260 (by decide) ?_
                refine lv_istore (lv' := [(6, .int 8), (5, .int 0), (3, .long r_6), (1, .long r_3), (0, .ref (a 0))]) hx hb dX8_clauseOf_264 hl (by decide) rfl (fun ls hl => ?_)
                refine lv_iload hx hb dX8_clauseOf_266 (lv_at hl 1 rfl) ?_
                refine lv_if_lt (tgt := 276) hx hb dX8_clauseOf_268 (by decide) (fun h => absurd h (by decide)) (fun _ => ?_)
                refine lv_iload hx hb dX8_clauseOf_271 (lv_at hl 1 rfl) ?_
                refine lv_goto (tgt := 278) hx hb dX8_clauseOf_273 (by decide) ?_
                exact W.iret (v := 0) hx hb hr (fun t ht hW => ⟨⟨0, (), rfl, .inr ⟨0, by omega, rfl⟩, trivial⟩, hS.F ht⟩) hS.2.2 dX8_clauseOf_278
            · refine lv_bipush (v := 6) hx hb dX8_clauseOf_244 (by decide) ?_
              refine lv_goto (tgt := 264) hx hb dX8_clauseOf_246 (by decide) ?_
              refine lv_istore (lv' := [(6, .int 6), (5, .int 0), (3, .long r_6), (1, .long r_3), (0, .ref (a 0))]) hx hb dX8_clauseOf_264 hl (by decide) rfl (fun ls hl => ?_)
              refine lv_iload hx hb dX8_clauseOf_266 (lv_at hl 1 rfl) ?_
              refine lv_if_lt (tgt := 276) hx hb dX8_clauseOf_268 (by decide) (fun h => absurd h (by decide)) (fun _ => ?_)
              refine lv_iload hx hb dX8_clauseOf_271 (lv_at hl 1 rfl) ?_
              refine lv_goto (tgt := 278) hx hb dX8_clauseOf_273 (by decide) ?_
              exact W.iret (v := 0) hx hb hr (fun t ht hW => ⟨⟨0, (), rfl, .inr ⟨0, by omega, rfl⟩, trivial⟩, hS.F ht⟩) hS.2.2 dX8_clauseOf_278
          · refine lv_iconst (v := 5) hx hb dX8_clauseOf_216 (by decide) ?_
            refine lv_goto (tgt := 264) hx hb dX8_clauseOf_217 (by decide) ?_
            refine lv_istore (lv' := [(6, .int 5), (5, .int 0), (3, .long r_6), (1, .long r_3), (0, .ref (a 0))]) hx hb dX8_clauseOf_264 hl (by decide) rfl (fun ls hl => ?_)
            refine lv_iload hx hb dX8_clauseOf_266 (lv_at hl 1 rfl) ?_
            refine lv_if_lt (tgt := 276) hx hb dX8_clauseOf_268 (by decide) (fun h => absurd h (by decide)) (fun _ => ?_)
            refine lv_iload hx hb dX8_clauseOf_271 (lv_at hl 1 rfl) ?_
            refine lv_goto (tgt := 278) hx hb dX8_clauseOf_273 (by decide) ?_
            exact W.iret (v := 0) hx hb hr (fun t ht hW => ⟨⟨0, (), rfl, .inr ⟨0, by omega, rfl⟩, trivial⟩, hS.F ht⟩) hS.2.2 dX8_clauseOf_278
        · refine lv_iconst (v := 4) hx hb dX8_clauseOf_195 (by decide) ?_
          refine lv_goto (tgt := 264) hx hb dX8_clauseOf_196 (by decide) ?_
          refine lv_istore (lv' := [(6, .int 4), (5, .int 0), (3, .long r_6), (1, .long r_3), (0, .ref (a 0))]) hx hb dX8_clauseOf_264 hl (by decide) rfl (fun ls hl => ?_)
          refine lv_iload hx hb dX8_clauseOf_266 (lv_at hl 1 rfl) ?_
          refine lv_if_lt (tgt := 276) hx hb dX8_clauseOf_268 (by decide) (fun h => absurd h (by decide)) (fun _ => ?_)
          refine lv_iload hx hb dX8_clauseOf_271 (lv_at hl 1 rfl) ?_
          refine lv_goto (tgt := 278) hx hb dX8_clauseOf_273 (by decide) ?_
          exact W.iret (v := 0) hx hb hr (fun t ht hW => ⟨⟨0, (), rfl, .inr ⟨0, by omega, rfl⟩, trivial⟩, hS.F ht⟩) hS.2.2 dX8_clauseOf_278
      · refine lv_iconst (v := 3) hx hb dX8_clauseOf_182 (by decide) ?_
        refine lv_goto (tgt := 264) hx hb dX8_clauseOf_183 (by decide) ?_
        refine lv_istore (lv' := [(6, .int 3), (5, .int 0), (3, .long r_6), (1, .long r_3), (0, .ref (a 0))]) hx hb dX8_clauseOf_264 hl (by decide) rfl (fun ls hl => ?_)
        refine lv_iload hx hb dX8_clauseOf_266 (lv_at hl 1 rfl) ?_
        refine lv_if_lt (tgt := 276) hx hb dX8_clauseOf_268 (by decide) (fun h => absurd h (by decide)) (fun _ => ?_)
        refine lv_iload hx hb dX8_clauseOf_271 (lv_at hl 1 rfl) ?_
        refine lv_goto (tgt := 278) hx hb dX8_clauseOf_273 (by decide) ?_
        exact W.iret (v := 0) hx hb hr (fun t ht hW => ⟨⟨0, (), rfl, .inr ⟨0, by omega, rfl⟩, trivial⟩, hS.F ht⟩) hS.2.2 dX8_clauseOf_278
  · refine lv_bipush (v := 9) hx hb dX8_clauseOf_70 (by decide) ?_
    refine lv_goto (tgt := 158) hx hb dX8_clauseOf_72 (by decide) ?_
    refine lv_istore (lv' := [(5, .int 9), (3, .long r_6), (1, .long r_3), (0, .ref (a 0))]) hx hb dX8_clauseOf_158 hl (by decide) rfl (fun ls hl => ?_)
    refine lv_aload_n hx hb dX8_clauseOf_160 rfl (lv_at hl 3 rfl) ?_
    refine va_get (D := D) (ci := 8) (v := .long wd) (C := RX8) (T := TX8) (N := 44) hx hb hts inX8 hown hK hP 0 rfl rfl 8 (by decide) (hts _ tw_981) (fun _ h9 => h9) rfl dX8_clauseOf_161 ?_
    refine lv_bipush (v := 108) hx hb dX8_clauseOf_164 (by decide) ?_
    refine lv_bipush (v := 97) hx hb dX8_clauseOf_166 (by decide) ?_
    refine lv_bipush (v := 116) hx hb dX8_clauseOf_168 (by decide) ?_
    refine ro_l (D := D) (va_runS (As := [.int 108, .int 97, .int 116]) (rest := [.long wd]) ⟨hx, hb, hml, hown, hts⟩ ((m_code l D k st lo 108 97 116) H.size) (va_cwS 3 hts (gS tw_1142 tw_1143 tw_87 tw_1144) rfl rfl rfl (by decide +kernel) ⟨Nat.le_of_ble_eq_true rfl, Nat.le_of_ble_eq_true rfl⟩) (pS hS hAlo hlo hP hK hDL hZ [] (by decide) rfl) rfl rfl hl.1 rfl (lv_room (Nat.le_of_ble_eq_true rfl)) dX8_clauseOf_170 ⟨Nat.le_of_ble_eq_true rfl, Nat.le_of_ble_eq_true rfl⟩) hS hA hP (fun r_59 H locs hw_59 hP hS => ?_)
    try dsimp only at hw_59
    refine lv_bipush (v := 101) hx hb dX8_clauseOf_173 (by decide) ?_
    refine ro_l (D := D) (va_runS (As := [.long r_59, .int 101]) (rest := [.long wd]) ⟨hx, hb, hml, hown, hts⟩ ((m_longer l D k st lo r_59 101) H.size) (va_cwS 2 hts (gS tw_1148 tw_1149 tw_87 tw_1150) rfl rfl rfl (by decide +kernel) ⟨Nat.le_of_ble_eq_true rfl, Nat.le_of_ble_eq_true rfl⟩) (pS hS hAlo hlo hP hK hDL hZ [] (by decide) rfl) rfl rfl hl.1 rfl (lv_room (Nat.le_of_ble_eq_true rfl)) dX8_clauseOf_175 ⟨Nat.le_of_ble_eq_true rfl, Nat.le_of_ble_eq_true rfl⟩) hS hA hP (fun r_60 H locs hw_60 hP hS => ?_)
    try dsimp only at hw_60
    refine W.lcmp hx hb dX8_clauseOf_178 ?_
    refine lv_if_ne (tgt := 186) hx hb dX8_clauseOf_179 (by decide) (fun c_61 => ?_) (fun c_61 => ?_)
    · refine lv_aload_n hx hb dX8_clauseOf_186 rfl (lv_at hl 3 rfl) ?_
      refine va_get (D := D) (ci := 8) (v := .long wd) (C := RX8) (T := TX8) (N := 44) hx hb hts inX8 hown hK hP 0 rfl rfl 8 (by decide) (hts _ tw_981) (fun _ h9 => h9) rfl dX8_clauseOf_187 ?_
      refine lv_lload_n hx hb dX8_clauseOf_190 rfl (lv_at hl 2 rfl) ?_
      refine W.lcmp hx hb dX8_clauseOf_191 ?_
      refine lv_if_ne (tgt := 199) hx hb dX8_clauseOf_192 (by decide) (fun c_62 => ?_) (fun c_62 => ?_)
      · refine lv_aload_n hx hb dX8_clauseOf_199 rfl (lv_at hl 3 rfl) ?_
        refine va_get (D := D) (ci := 8) (v := .long wd) (C := RX8) (T := TX8) (N := 44) hx hb hts inX8 hown hK hP 0 rfl rfl 8 (by decide) (hts _ tw_981) (fun _ h9 => h9) rfl dX8_clauseOf_200 ?_
        refine lv_bipush (v := 115) hx hb dX8_clauseOf_203 (by decide) ?_
        refine lv_bipush (v := 101) hx hb dX8_clauseOf_205 (by decide) ?_
        refine lv_bipush (v := 101) hx hb dX8_clauseOf_207 (by decide) ?_
        refine ro_l (D := D) (va_runS (As := [.int 115, .int 101, .int 101]) (rest := [.long wd]) ⟨hx, hb, hml, hown, hts⟩ ((m_code l D k st lo 115 101 101) H.size) (va_cwS 3 hts (gS tw_1142 tw_1143 tw_87 tw_1144) rfl rfl rfl (by decide +kernel) ⟨Nat.le_of_ble_eq_true rfl, Nat.le_of_ble_eq_true rfl⟩) (pS hS hAlo hlo hP hK hDL hZ [] (by decide) rfl) rfl rfl hl.1 rfl (lv_room (Nat.le_of_ble_eq_true rfl)) dX8_clauseOf_209 ⟨Nat.le_of_ble_eq_true rfl, Nat.le_of_ble_eq_true rfl⟩) hS hA hP (fun r_63 H locs hw_63 hP hS => ?_)
        try dsimp only at hw_63
        refine W.lcmp hx hb dX8_clauseOf_212 ?_
        refine lv_if_ne (tgt := 220) hx hb dX8_clauseOf_213 (by decide) (fun c_64 => ?_) (fun c_64 => ?_)
        · refine lv_aload_n hx hb dX8_clauseOf_220 rfl (lv_at hl 3 rfl) ?_
          refine va_get (D := D) (ci := 8) (v := .long wd) (C := RX8) (T := TX8) (N := 44) hx hb hts inX8 hown hK hP 0 rfl rfl 8 (by decide) (hts _ tw_981) (fun _ h9 => h9) rfl dX8_clauseOf_221 ?_
          refine lv_bipush (v := 114) hx hb dX8_clauseOf_224 (by decide) ?_
          refine lv_bipush (v := 111) hx hb dX8_clauseOf_226 (by decide) ?_
          refine lv_bipush (v := 117) hx hb dX8_clauseOf_228 (by decide) ?_
          refine ro_l (D := D) (va_runS (As := [.int 114, .int 111, .int 117]) (rest := [.long wd]) ⟨hx, hb, hml, hown, hts⟩ ((m_code l D k st lo 114 111 117) H.size) (va_cwS 3 hts (gS tw_1142 tw_1143 tw_87 tw_1144) rfl rfl rfl (by decide +kernel) ⟨Nat.le_of_ble_eq_true rfl, Nat.le_of_ble_eq_true rfl⟩) (pS hS hAlo hlo hP hK hDL hZ [] (by decide) rfl) rfl rfl hl.1 rfl (lv_room (Nat.le_of_ble_eq_true rfl)) dX8_clauseOf_230 ⟨Nat.le_of_ble_eq_true rfl, Nat.le_of_ble_eq_true rfl⟩) hS hA hP (fun r_65 H locs hw_65 hP hS => ?_)
          try dsimp only at hw_65
          refine lv_bipush (v := 110) hx hb dX8_clauseOf_233 (by decide) ?_
          refine lv_bipush (v := 100) hx hb dX8_clauseOf_235 (by decide) ?_
          refine ro_l (D := D) (va_runS (As := [.long r_65, .int 110, .int 100]) (rest := [.long wd]) ⟨hx, hb, hml, hown, hts⟩ ((m_longest l D k st lo r_65 110 100) H.size) (va_cwS 3 hts (gS tw_1145 tw_1146 tw_87 tw_1147) rfl rfl rfl (by decide +kernel) ⟨Nat.le_of_ble_eq_true rfl, Nat.le_of_ble_eq_true rfl⟩) (pS hS hAlo hlo hP hK hDL hZ [] (by decide) rfl) rfl rfl hl.1 rfl (lv_room (Nat.le_of_ble_eq_true rfl)) dX8_clauseOf_237 ⟨Nat.le_of_ble_eq_true rfl, Nat.le_of_ble_eq_true rfl⟩) hS hA hP (fun r_66 H locs hw_66 hP hS => ?_)
          try dsimp only at hw_66
          refine W.lcmp hx hb dX8_clauseOf_240 ?_
          refine lv_if_ne (tgt := 249) hx hb dX8_clauseOf_241 (by decide) (fun c_67 => ?_) (fun c_67 => ?_)
          · refine lv_aload_n hx hb dX8_clauseOf_249 rfl (lv_at hl 3 rfl) ?_
            refine va_get (D := D) (ci := 8) (v := .long wd) (C := RX8) (T := TX8) (N := 44) hx hb hts inX8 hown hK hP 0 rfl rfl 8 (by decide) (hts _ tw_981) (fun _ h9 => h9) rfl dX8_clauseOf_250 ?_
            refine lv_lload_n hx hb dX8_clauseOf_253 rfl (lv_at hl 1 rfl) ?_
            refine W.lcmp hx hb dX8_clauseOf_254 ?_
            refine lv_if_ne (tgt := 263) hx hb dX8_clauseOf_255 (by decide) (fun c_68 => ?_) (fun c_68 => ?_)
            · refine lv_iconst (v := (-1)) hx hb dX8_clauseOf_263 (by decide) ?_
              refine lv_istore (lv' := [(6, .int (-1)), (5, .int 9), (3, .long r_6), (1, .long r_3), (0, .ref (a 0))]) hx hb dX8_clauseOf_264 hl (by decide) rfl (fun ls hl => ?_)
              refine lv_iload hx hb dX8_clauseOf_266 (lv_at hl 1 rfl) ?_
              refine lv_if_lt (tgt := 276) hx hb dX8_clauseOf_268 (by decide) (fun h => absurd h (by decide)) (fun _ => ?_)
              refine lv_iload hx hb dX8_clauseOf_271 (lv_at hl 1 rfl) ?_
              refine lv_goto (tgt := 278) hx hb dX8_clauseOf_273 (by decide) ?_
              exact W.iret (v := 9) hx hb hr (fun t ht hW => ⟨⟨9, (), rfl, .inr ⟨9, by omega, rfl⟩, trivial⟩, hS.F ht⟩) hS.2.2 dX8_clauseOf_278
            · refine lv_bipush (v := 8) hx hb dX8_clauseOf_258 (by decide) ?_
              refine lv_goto (tgt := 264) hx hb dX8_clauseOf_260 (by decide) ?_
              refine lv_istore (lv' := [(6, .int 8), (5, .int 9), (3, .long r_6), (1, .long r_3), (0, .ref (a 0))]) hx hb dX8_clauseOf_264 hl (by decide) rfl (fun ls hl => ?_)
              refine lv_iload hx hb dX8_clauseOf_266 (lv_at hl 1 rfl) ?_
              refine lv_if_lt (tgt := 276) hx hb dX8_clauseOf_268 (by decide) (fun h => absurd h (by decide)) (fun _ => ?_)
              refine lv_iload hx hb dX8_clauseOf_271 (lv_at hl 1 rfl) ?_
              refine lv_goto (tgt := 278) hx hb dX8_clauseOf_273 (by decide) ?_
              exact W.iret (v := 9) hx hb hr (fun t ht hW => ⟨⟨9, (), rfl, .inr ⟨9, by omega, rfl⟩, trivial⟩, hS.F ht⟩) hS.2.2 dX8_clauseOf_278
          · refine lv_bipush (v := 6) hx hb dX8_clauseOf_244 (by decide) ?_
            refine lv_goto (tgt := 264) hx hb dX8_clauseOf_246 (by decide) ?_
            refine lv_istore (lv' := [(6, .int 6), (5, .int 9), (3, .long r_6), (1, .long r_3), (0, .ref (a 0))]) hx hb dX8_clauseOf_264 hl (by decide) rfl (fun ls hl => ?_)
            refine lv_iload hx hb dX8_clauseOf_266 (lv_at hl 1 rfl) ?_
            refine lv_if_lt (tgt := 276) hx hb dX8_clauseOf_268 (by decide) (fun h => absurd h (by decide)) (fun _ => ?_)
            refine lv_iload hx hb dX8_clauseOf_271 (lv_at hl 1 rfl) ?_
            refine lv_goto (tgt := 278) hx hb dX8_clauseOf_273 (by decide) ?_
            exact W.iret (v := 9) hx hb hr (fun t ht hW => ⟨⟨9, (), rfl, .inr ⟨9, by omega, rfl⟩, trivial⟩, hS.F ht⟩) hS.2.2 dX8_clauseOf_278
        · refine lv_iconst (v := 5) hx hb dX8_clauseOf_216 (by decide) ?_
          refine lv_goto (tgt := 264) hx hb dX8_clauseOf_217 (by decide) ?_
          refine lv_istore (lv' := [(6, .int 5), (5, .int 9), (3, .long r_6), (1, .long r_3), (0, .ref (a 0))]) hx hb dX8_clauseOf_264 hl (by decide) rfl (fun ls hl => ?_)
          refine lv_iload hx hb dX8_clauseOf_266 (lv_at hl 1 rfl) ?_
          refine lv_if_lt (tgt := 276) hx hb dX8_clauseOf_268 (by decide) (fun h => absurd h (by decide)) (fun _ => ?_)
          refine lv_iload hx hb dX8_clauseOf_271 (lv_at hl 1 rfl) ?_
          refine lv_goto (tgt := 278) hx hb dX8_clauseOf_273 (by decide) ?_
          exact W.iret (v := 9) hx hb hr (fun t ht hW => ⟨⟨9, (), rfl, .inr ⟨9, by omega, rfl⟩, trivial⟩, hS.F ht⟩) hS.2.2 dX8_clauseOf_278
      · refine lv_iconst (v := 4) hx hb dX8_clauseOf_195 (by decide) ?_
        refine lv_goto (tgt := 264) hx hb dX8_clauseOf_196 (by decide) ?_
        refine lv_istore (lv' := [(6, .int 4), (5, .int 9), (3, .long r_6), (1, .long r_3), (0, .ref (a 0))]) hx hb dX8_clauseOf_264 hl (by decide) rfl (fun ls hl => ?_)
        refine lv_iload hx hb dX8_clauseOf_266 (lv_at hl 1 rfl) ?_
        refine lv_if_lt (tgt := 276) hx hb dX8_clauseOf_268 (by decide) (fun h => absurd h (by decide)) (fun _ => ?_)
        refine lv_iload hx hb dX8_clauseOf_271 (lv_at hl 1 rfl) ?_
        refine lv_goto (tgt := 278) hx hb dX8_clauseOf_273 (by decide) ?_
        exact W.iret (v := 9) hx hb hr (fun t ht hW => ⟨⟨9, (), rfl, .inr ⟨9, by omega, rfl⟩, trivial⟩, hS.F ht⟩) hS.2.2 dX8_clauseOf_278
    · refine lv_iconst (v := 3) hx hb dX8_clauseOf_182 (by decide) ?_
      refine lv_goto (tgt := 264) hx hb dX8_clauseOf_183 (by decide) ?_
      refine lv_istore (lv' := [(6, .int 3), (5, .int 9), (3, .long r_6), (1, .long r_3), (0, .ref (a 0))]) hx hb dX8_clauseOf_264 hl (by decide) rfl (fun ls hl => ?_)
      refine lv_iload hx hb dX8_clauseOf_266 (lv_at hl 1 rfl) ?_
      refine lv_if_lt (tgt := 276) hx hb dX8_clauseOf_268 (by decide) (fun h => absurd h (by decide)) (fun _ => ?_)
      refine lv_iload hx hb dX8_clauseOf_271 (lv_at hl 1 rfl) ?_
      refine lv_goto (tgt := 278) hx hb dX8_clauseOf_273 (by decide) ?_
      exact W.iret (v := 9) hx hb hr (fun t ht hW => ⟨⟨9, (), rfl, .inr ⟨9, by omega, rfl⟩, trivial⟩, hS.F ht⟩) hS.2.2 dX8_clauseOf_278

theorem dX8_bare_0 : decode cX8_bare 0 = .ok (.aload_n 0, 1) := by decide +kernel
theorem dX8_bare_1 : decode cX8_bare 1 = .ok (.iconst 0, 1) := by decide +kernel
theorem dX8_bare_2 : decode cX8_bare 2 = .ok (.putfield 177, 3) := by decide +kernel
theorem dX8_bare_5 : decode cX8_bare 5 = .ok (.aload_n 0, 1) := by decide +kernel
theorem dX8_bare_6 : decode cX8_bare 6 = .ok (.iconst 0, 1) := by decide +kernel
theorem dX8_bare_7 : decode cX8_bare 7 = .ok (.putfield 180, 3) := by decide +kernel
theorem dX8_bare_10 : decode cX8_bare 10 = .ok (.aload_n 0, 1) := by decide +kernel
theorem dX8_bare_11 : decode cX8_bare 11 = .ok (.getfield 35, 3) := by decide +kernel
theorem dX8_bare_14 : decode cX8_bare 14 = .ok (.iconst 0, 1) := by decide +kernel
theorem dX8_bare_15 : decode cX8_bare 15 = .ok (.iconst 0, 1) := by decide +kernel
theorem dX8_bare_16 : decode cX8_bare 16 = .ok (.iastore, 1) := by decide +kernel
theorem dX8_bare_17 : decode cX8_bare 17 = .ok (.aload_n 0, 1) := by decide +kernel
theorem dX8_bare_18 : decode cX8_bare 18 = .ok (.getfield 35, 3) := by decide +kernel
theorem dX8_bare_21 : decode cX8_bare 21 = .ok (.iconst 1, 1) := by decide +kernel
theorem dX8_bare_22 : decode cX8_bare 22 = .ok (.iconst 2, 1) := by decide +kernel
theorem dX8_bare_23 : decode cX8_bare 23 = .ok (.iastore, 1) := by decide +kernel
theorem dX8_bare_24 : decode cX8_bare 24 = .ok (.aload_n 0, 1) := by decide +kernel
theorem dX8_bare_25 : decode cX8_bare 25 = .ok (.getfield 35, 3) := by decide +kernel
theorem dX8_bare_28 : decode cX8_bare 28 = .ok (.iconst 2, 1) := by decide +kernel
theorem dX8_bare_29 : decode cX8_bare 29 = .ok (.iconst 1, 1) := by decide +kernel
theorem dX8_bare_30 : decode cX8_bare 30 = .ok (.iastore, 1) := by decide +kernel
theorem dX8_bare_31 : decode cX8_bare 31 = .ok (.aload_n 0, 1) := by decide +kernel
theorem dX8_bare_32 : decode cX8_bare 32 = .ok (.getfield 35, 3) := by decide +kernel
theorem dX8_bare_35 : decode cX8_bare 35 = .ok (.iconst 3, 1) := by decide +kernel
theorem dX8_bare_36 : decode cX8_bare 36 = .ok (.iconst 5, 1) := by decide +kernel
theorem dX8_bare_37 : decode cX8_bare 37 = .ok (.iastore, 1) := by decide +kernel
theorem dX8_bare_38 : decode cX8_bare 38 = .ok (.aload_n 0, 1) := by decide +kernel
theorem dX8_bare_39 : decode cX8_bare 39 = .ok (.getfield 35, 3) := by decide +kernel
theorem dX8_bare_42 : decode cX8_bare 42 = .ok (.iconst 4, 1) := by decide +kernel
theorem dX8_bare_43 : decode cX8_bare 43 = .ok (.bipush 30, 2) := by decide +kernel
theorem dX8_bare_45 : decode cX8_bare 45 = .ok (.iastore, 1) := by decide +kernel
theorem dX8_bare_46 : decode cX8_bare 46 = .ok (.aload_n 0, 1) := by decide +kernel
theorem dX8_bare_47 : decode cX8_bare 47 = .ok (.getfield 35, 3) := by decide +kernel
theorem dX8_bare_50 : decode cX8_bare 50 = .ok (.iconst 5, 1) := by decide +kernel
theorem dX8_bare_51 : decode cX8_bare 51 = .ok (.iconst 1, 1) := by decide +kernel
theorem dX8_bare_52 : decode cX8_bare 52 = .ok (.iastore, 1) := by decide +kernel
theorem dX8_bare_53 : decode cX8_bare 53 = .ok (.aload_n 0, 1) := by decide +kernel
theorem dX8_bare_54 : decode cX8_bare 54 = .ok (.getfield 35, 3) := by decide +kernel
theorem dX8_bare_57 : decode cX8_bare 57 = .ok (.bipush 6, 2) := by decide +kernel
theorem dX8_bare_59 : decode cX8_bare 59 = .ok (.bipush 10, 2) := by decide +kernel
theorem dX8_bare_61 : decode cX8_bare 61 = .ok (.iastore, 1) := by decide +kernel
theorem dX8_bare_62 : decode cX8_bare 62 = .ok (.aload_n 0, 1) := by decide +kernel
theorem dX8_bare_63 : decode cX8_bare 63 = .ok (.getfield 35, 3) := by decide +kernel
theorem dX8_bare_66 : decode cX8_bare 66 = .ok (.bipush 7, 2) := by decide +kernel
theorem dX8_bare_68 : decode cX8_bare 68 = .ok (.iconst 0, 1) := by decide +kernel
theorem dX8_bare_69 : decode cX8_bare 69 = .ok (.iastore, 1) := by decide +kernel
theorem dX8_bare_70 : decode cX8_bare 70 = .ok (.aload_n 0, 1) := by decide +kernel
theorem dX8_bare_71 : decode cX8_bare 71 = .ok (.getfield 35, 3) := by decide +kernel
theorem dX8_bare_74 : decode cX8_bare 74 = .ok (.bipush 8, 2) := by decide +kernel
theorem dX8_bare_76 : decode cX8_bare 76 = .ok (.sipush 200, 3) := by decide +kernel
theorem dX8_bare_79 : decode cX8_bare 79 = .ok (.iastore, 1) := by decide +kernel
theorem dX8_bare_80 : decode cX8_bare 80 = .ok (.return_, 1) := by decide +kernel
set_option maxHeartbeats 4000000 in
set_option maxRecDepth 100000 in
theorem m_bare (l : Launch) (D : va_G) (k : Nat → ClassId) (st : Nat → Nat) (lo : Nat) (a : Nat → Nat) (tx : Nat) (t0 : Nat) (we : Nat) (rd : Nat) (ru : Nat) (rw : Nat) (ca : Nat) (fp : Int32) (wd : Int64) (nu : Int32) (na : Int32) (ts : Int32) (df : Int32) (db : Int32) (sd : Int32) (freadSingle : Nat → Int32)  : CWv l D k st lo yX8_bare cX8_bare 1 none ({ frames := 0, cells := 0, slots := 0, locals := 0 }) 0 0 [.ref (a 0)] [((a 0), .inr (8, (fX8 a (nI tx) fp (nI t0) wd (nI we) nu na (nI rd) ts (nI ru) (nI rw) (nI ca) df db sd))), (aI k (a 16) 9 freadSingle)] (fun (u : Nat × Int32 × (Nat → Int32)) => match u with | (rd_, ts_, freadSingle_) => rd_ = 0 ∧ rsOK freadSingle_) (fun (u : Nat × Int32 × (Nat → Int32)) => match u with | (rd_, ts_, freadSingle_) => [((a 0), .inr (8, (fX8 a (nI tx) fp (nI t0) wd (nI we) nu na (nI rd_) ts_ (nI ru) (nI rw) (nI ca) df db sd))), (aI k (a 16) 9 freadSingle_)]) := by
  intro sz
  refine Met.ofW (cc := cX8_bare) (maxL := 1) (ret := none) (by decide) rfl ?_
  intro p e s m args below meth c s₁ B hml hv
  obtain ⟨rfl, hsz, hlo, hP, hK, hDL, hZ⟩ := hv
  have hx := B.exec
  have hb := B.bytes
  have hr := B.returns
  have hts := WS_ts B.pre
  have hown : s.vm.findClass RX8 = some m.cls := findClass_of_methodNamed B.named
  have hlocks := B.notSynchronized
  subst hsz
  have hD := hDL.self (sz := s.heap.size)
  have hAlo := A_lo hDL hlo
  generalize hAe : va_A [((a 0), .inr (8, (fX8 a (nI tx) fp (nI t0) wd (nI we) nu na (nI rd) ts (nI ru) (nI rw) (nI ca) df db sd))), (aI k (a 16) 9 freadSingle)] s.heap.size = A at hD hAlo ⊢
  have hA : ∀ q : Nat, s.heap.size ≤ q → A q := fun q h => by rw [← hAe]; exact Or.inr h
  have hS : va_S A s.heap s.heap [] := va_S.rf
  have hl := lv_entry ([.ref (a 0)]) (n := 1) (Nat.le_of_ble_eq_true rfl)
  rw [lg_entry_eq]
  generalize (lg_sl ([.ref (a 0)]) ++ List.replicate (1 - (lg_sl ([.ref (a 0)])).length) Slot.unset).toArray = ls at hl ⊢
  have hl : lv_has ls 1 [(0, .ref (a 0))] := hl
  refine lv_aload_n hx hb dX8_bare_0 rfl (lv_at hl 0 rfl) ?_
  refine lv_iconst (v := 0) hx hb dX8_bare_1 (by decide) ?_
  refine va_put (D := D) (ci := 8) (v := .int 0) (ty := .int) (C := RX8) (T := TX8) (N := 44) hx hb hts inX8 tyX8 tyX8_ok nmX8 hown hK hP hD hS 0 rfl rfl 12 (by decide) (hts _ tw_985) (fun _ h9 => h9) rfl (by decide +kernel) rfl rfl (Nat.le_of_ble_eq_true rfl) dX8_bare_2 (fun H locs hP hD hS => ?_)
  replace hP : va_P D classes [((a 0), .inr (8, (fX8 a (nI tx) fp (nI t0) wd (nI we) nu na 0 ts (nI ru) (nI rw) (nI ca) df db sd))), (aI k (a 16) 9 freadSingle)] H := hP
  replace hD : va_D A [((a 0), .inr (8, (fX8 a (nI tx) fp (nI t0) wd (nI we) nu na 0 ts (nI ru) (nI rw) (nI ca) df db sd))), (aI k (a 16) 9 freadSingle)] := hD
  refine lv_aload_n hx hb dX8_bare_5 rfl (lv_at hl 0 rfl) ?_
  refine lv_iconst (v := 0) hx hb dX8_bare_6 (by decide) ?_
  refine va_put (D := D) (ci := 8) (v := .int 0) (ty := .int) (C := RX8) (T := TX8) (N := 44) hx hb hts inX8 tyX8 tyX8_ok nmX8 hown hK hP hD hS 0 rfl rfl 16 (by decide) (hts _ tw_989) (fun _ h9 => h9) rfl (by decide +kernel) rfl rfl (Nat.le_of_ble_eq_true rfl) dX8_bare_7 (fun H locs hP hD hS => ?_)
  replace hP : va_P D classes [((a 0), .inr (8, (fX8 a (nI tx) fp (nI t0) wd (nI we) nu na 0 0 (nI ru) (nI rw) (nI ca) df db sd))), (aI k (a 16) 9 freadSingle)] H := hP
  replace hD : va_D A [((a 0), .inr (8, (fX8 a (nI tx) fp (nI t0) wd (nI we) nu na 0 0 (nI ru) (nI rw) (nI ca) df db sd))), (aI k (a 16) 9 freadSingle)] := hD
  refine lv_aload_n hx hb dX8_bare_10 rfl (lv_at hl 0 rfl) ?_
  refine va_get (D := D) (ci := 8) (v := .ref (a 16)) (C := RX8) (T := TX8) (N := 44) hx hb hts inX8 hown hK hP 0 rfl rfl 15 (by decide) (hts _ tw_988) (fun _ h9 => h9) rfl dX8_bare_11 ?_
  refine lv_iconst (v := 0) hx hb dX8_bare_14 (by decide) ?_
  refine lv_iconst (v := 0) hx hb dX8_bare_15 (by decide) ?_
  refine va_iast hx hb hK hP hD hS 1 1 rfl rfl (by unfold vp_in; decide) dX8_bare_16 (fun H locs hP hD hS => ?_)
  replace hP : va_P D classes [((a 0), .inr (8, (fX8 a (nI tx) fp (nI t0) wd (nI we) nu na 0 0 (nI ru) (nI rw) (nI ca) df db sd))), (aI k (a 16) 9 (upd freadSingle (Int32.toNatClampNeg 0) 0))] H := hP
  replace hD : va_D A [((a 0), .inr (8, (fX8 a (nI tx) fp (nI t0) wd (nI we) nu na 0 0 (nI ru) (nI rw) (nI ca) df db sd))), (aI k (a 16) 9 (upd freadSingle (Int32.toNatClampNeg 0) 0))] := hD
  replace hP : va_P D classes [((a 0), .inr (8, (fX8 a (nI tx) fp (nI t0) wd (nI we) nu na 0 0 (nI ru) (nI rw) (nI ca) df db sd))), (aI k (a 16) 9 (upd freadSingle 0 0))] H := hP
  replace hD : va_D A [((a 0), .inr (8, (fX8 a (nI tx) fp (nI t0) wd (nI we) nu na 0 0 (nI ru) (nI rw) (nI ca) df db sd))), (aI k (a 16) 9 (upd freadSingle 0 0))] := hD
  refine lv_aload_n hx hb dX8_bare_17 rfl (lv_at hl 0 rfl) ?_
  refine va_get (D := D) (ci := 8) (v := .ref (a 16)) (C := RX8) (T := TX8) (N := 44) hx hb hts inX8 hown hK hP 0 rfl rfl 15 (by decide) (hts _ tw_988) (fun _ h9 => h9) rfl dX8_bare_18 ?_
  refine lv_iconst (v := 1) hx hb dX8_bare_21 (by decide) ?_
  refine lv_iconst (v := 2) hx hb dX8_bare_22 (by decide) ?_
  refine va_iast hx hb hK hP hD hS 1 1 rfl rfl (by unfold vp_in; decide) dX8_bare_23 (fun H locs hP hD hS => ?_)
  replace hP : va_P D classes [((a 0), .inr (8, (fX8 a (nI tx) fp (nI t0) wd (nI we) nu na 0 0 (nI ru) (nI rw) (nI ca) df db sd))), (aI k (a 16) 9 (upd (upd freadSingle 0 0) (Int32.toNatClampNeg 1) 2))] H := hP
  replace hD : va_D A [((a 0), .inr (8, (fX8 a (nI tx) fp (nI t0) wd (nI we) nu na 0 0 (nI ru) (nI rw) (nI ca) df db sd))), (aI k (a 16) 9 (upd (upd freadSingle 0 0) (Int32.toNatClampNeg 1) 2))] := hD
  replace hP : va_P D classes [((a 0), .inr (8, (fX8 a (nI tx) fp (nI t0) wd (nI we) nu na 0 0 (nI ru) (nI rw) (nI ca) df db sd))), (aI k (a 16) 9 (upd (upd freadSingle 0 0) 1 2))] H := hP
  replace hD : va_D A [((a 0), .inr (8, (fX8 a (nI tx) fp (nI t0) wd (nI we) nu na 0 0 (nI ru) (nI rw) (nI ca) df db sd))), (aI k (a 16) 9 (upd (upd freadSingle 0 0) 1 2))] := hD
  refine lv_aload_n hx hb dX8_bare_24 rfl (lv_at hl 0 rfl) ?_
  refine va_get (D := D) (ci := 8) (v := .ref (a 16)) (C := RX8) (T := TX8) (N := 44) hx hb hts inX8 hown hK hP 0 rfl rfl 15 (by decide) (hts _ tw_988) (fun _ h9 => h9) rfl dX8_bare_25 ?_
  refine lv_iconst (v := 2) hx hb dX8_bare_28 (by decide) ?_
  refine lv_iconst (v := 1) hx hb dX8_bare_29 (by decide) ?_
  refine va_iast hx hb hK hP hD hS 1 1 rfl rfl (by unfold vp_in; decide) dX8_bare_30 (fun H locs hP hD hS => ?_)
  replace hP : va_P D classes [((a 0), .inr (8, (fX8 a (nI tx) fp (nI t0) wd (nI we) nu na 0 0 (nI ru) (nI rw) (nI ca) df db sd))), (aI k (a 16) 9 (upd (upd (upd freadSingle 0 0) 1 2) (Int32.toNatClampNeg 2) 1))] H := hP
  replace hD : va_D A [((a 0), .inr (8, (fX8 a (nI tx) fp (nI t0) wd (nI we) nu na 0 0 (nI ru) (nI rw) (nI ca) df db sd))), (aI k (a 16) 9 (upd (upd (upd freadSingle 0 0) 1 2) (Int32.toNatClampNeg 2) 1))] := hD
  replace hP : va_P D classes [((a 0), .inr (8, (fX8 a (nI tx) fp (nI t0) wd (nI we) nu na 0 0 (nI ru) (nI rw) (nI ca) df db sd))), (aI k (a 16) 9 (upd (upd (upd freadSingle 0 0) 1 2) 2 1))] H := hP
  replace hD : va_D A [((a 0), .inr (8, (fX8 a (nI tx) fp (nI t0) wd (nI we) nu na 0 0 (nI ru) (nI rw) (nI ca) df db sd))), (aI k (a 16) 9 (upd (upd (upd freadSingle 0 0) 1 2) 2 1))] := hD
  refine lv_aload_n hx hb dX8_bare_31 rfl (lv_at hl 0 rfl) ?_
  refine va_get (D := D) (ci := 8) (v := .ref (a 16)) (C := RX8) (T := TX8) (N := 44) hx hb hts inX8 hown hK hP 0 rfl rfl 15 (by decide) (hts _ tw_988) (fun _ h9 => h9) rfl dX8_bare_32 ?_
  refine lv_iconst (v := 3) hx hb dX8_bare_35 (by decide) ?_
  refine lv_iconst (v := 5) hx hb dX8_bare_36 (by decide) ?_
  refine va_iast hx hb hK hP hD hS 1 1 rfl rfl (by unfold vp_in; decide) dX8_bare_37 (fun H locs hP hD hS => ?_)
  replace hP : va_P D classes [((a 0), .inr (8, (fX8 a (nI tx) fp (nI t0) wd (nI we) nu na 0 0 (nI ru) (nI rw) (nI ca) df db sd))), (aI k (a 16) 9 (upd (upd (upd (upd freadSingle 0 0) 1 2) 2 1) (Int32.toNatClampNeg 3) 5))] H := hP
  replace hD : va_D A [((a 0), .inr (8, (fX8 a (nI tx) fp (nI t0) wd (nI we) nu na 0 0 (nI ru) (nI rw) (nI ca) df db sd))), (aI k (a 16) 9 (upd (upd (upd (upd freadSingle 0 0) 1 2) 2 1) (Int32.toNatClampNeg 3) 5))] := hD
  replace hP : va_P D classes [((a 0), .inr (8, (fX8 a (nI tx) fp (nI t0) wd (nI we) nu na 0 0 (nI ru) (nI rw) (nI ca) df db sd))), (aI k (a 16) 9 (upd (upd (upd (upd freadSingle 0 0) 1 2) 2 1) 3 5))] H := hP
  replace hD : va_D A [((a 0), .inr (8, (fX8 a (nI tx) fp (nI t0) wd (nI we) nu na 0 0 (nI ru) (nI rw) (nI ca) df db sd))), (aI k (a 16) 9 (upd (upd (upd (upd freadSingle 0 0) 1 2) 2 1) 3 5))] := hD
  refine lv_aload_n hx hb dX8_bare_38 rfl (lv_at hl 0 rfl) ?_
  refine va_get (D := D) (ci := 8) (v := .ref (a 16)) (C := RX8) (T := TX8) (N := 44) hx hb hts inX8 hown hK hP 0 rfl rfl 15 (by decide) (hts _ tw_988) (fun _ h9 => h9) rfl dX8_bare_39 ?_
  refine lv_iconst (v := 4) hx hb dX8_bare_42 (by decide) ?_
  refine lv_bipush (v := 30) hx hb dX8_bare_43 (by decide) ?_
  refine va_iast hx hb hK hP hD hS 1 1 rfl rfl (by unfold vp_in; decide) dX8_bare_45 (fun H locs hP hD hS => ?_)
  replace hP : va_P D classes [((a 0), .inr (8, (fX8 a (nI tx) fp (nI t0) wd (nI we) nu na 0 0 (nI ru) (nI rw) (nI ca) df db sd))), (aI k (a 16) 9 (upd (upd (upd (upd (upd freadSingle 0 0) 1 2) 2 1) 3 5) (Int32.toNatClampNeg 4) 30))] H := hP
  replace hD : va_D A [((a 0), .inr (8, (fX8 a (nI tx) fp (nI t0) wd (nI we) nu na 0 0 (nI ru) (nI rw) (nI ca) df db sd))), (aI k (a 16) 9 (upd (upd (upd (upd (upd freadSingle 0 0) 1 2) 2 1) 3 5) (Int32.toNatClampNeg 4) 30))] := hD
  replace hP : va_P D classes [((a 0), .inr (8, (fX8 a (nI tx) fp (nI t0) wd (nI we) nu na 0 0 (nI ru) (nI rw) (nI ca) df db sd))), (aI k (a 16) 9 (upd (upd (upd (upd (upd freadSingle 0 0) 1 2) 2 1) 3 5) 4 30))] H := hP
  replace hD : va_D A [((a 0), .inr (8, (fX8 a (nI tx) fp (nI t0) wd (nI we) nu na 0 0 (nI ru) (nI rw) (nI ca) df db sd))), (aI k (a 16) 9 (upd (upd (upd (upd (upd freadSingle 0 0) 1 2) 2 1) 3 5) 4 30))] := hD
  refine lv_aload_n hx hb dX8_bare_46 rfl (lv_at hl 0 rfl) ?_
  refine va_get (D := D) (ci := 8) (v := .ref (a 16)) (C := RX8) (T := TX8) (N := 44) hx hb hts inX8 hown hK hP 0 rfl rfl 15 (by decide) (hts _ tw_988) (fun _ h9 => h9) rfl dX8_bare_47 ?_
  refine lv_iconst (v := 5) hx hb dX8_bare_50 (by decide) ?_
  refine lv_iconst (v := 1) hx hb dX8_bare_51 (by decide) ?_
  refine va_iast hx hb hK hP hD hS 1 1 rfl rfl (by unfold vp_in; decide) dX8_bare_52 (fun H locs hP hD hS => ?_)
  replace hP : va_P D classes [((a 0), .inr (8, (fX8 a (nI tx) fp (nI t0) wd (nI we) nu na 0 0 (nI ru) (nI rw) (nI ca) df db sd))), (aI k (a 16) 9 (upd (upd (upd (upd (upd (upd freadSingle 0 0) 1 2) 2 1) 3 5) 4 30) (Int32.toNatClampNeg 5) 1))] H := hP
  replace hD : va_D A [((a 0), .inr (8, (fX8 a (nI tx) fp (nI t0) wd (nI we) nu na 0 0 (nI ru) (nI rw) (nI ca) df db sd))), (aI k (a 16) 9 (upd (upd (upd (upd (upd (upd freadSingle 0 0) 1 2) 2 1) 3 5) 4 30) (Int32.toNatClampNeg 5) 1))] := hD
  replace hP : va_P D classes [((a 0), .inr (8, (fX8 a (nI tx) fp (nI t0) wd (nI we) nu na 0 0 (nI ru) (nI rw) (nI ca) df db sd))), (aI k (a 16) 9 (upd (upd (upd (upd (upd (upd freadSingle 0 0) 1 2) 2 1) 3 5) 4 30) 5 1))] H := hP
  replace hD : va_D A [((a 0), .inr (8, (fX8 a (nI tx) fp (nI t0) wd (nI we) nu na 0 0 (nI ru) (nI rw) (nI ca) df db sd))), (aI k (a 16) 9 (upd (upd (upd (upd (upd (upd freadSingle 0 0) 1 2) 2 1) 3 5) 4 30) 5 1))] := hD
  refine lv_aload_n hx hb dX8_bare_53 rfl (lv_at hl 0 rfl) ?_
  refine va_get (D := D) (ci := 8) (v := .ref (a 16)) (C := RX8) (T := TX8) (N := 44) hx hb hts inX8 hown hK hP 0 rfl rfl 15 (by decide) (hts _ tw_988) (fun _ h9 => h9) rfl dX8_bare_54 ?_
  refine lv_bipush (v := 6) hx hb dX8_bare_57 (by decide) ?_
  refine lv_bipush (v := 10) hx hb dX8_bare_59 (by decide) ?_
  refine va_iast hx hb hK hP hD hS 1 1 rfl rfl (by unfold vp_in; decide) dX8_bare_61 (fun H locs hP hD hS => ?_)
  replace hP : va_P D classes [((a 0), .inr (8, (fX8 a (nI tx) fp (nI t0) wd (nI we) nu na 0 0 (nI ru) (nI rw) (nI ca) df db sd))), (aI k (a 16) 9 (upd (upd (upd (upd (upd (upd (upd freadSingle 0 0) 1 2) 2 1) 3 5) 4 30) 5 1) (Int32.toNatClampNeg 6) 10))] H := hP
  replace hD : va_D A [((a 0), .inr (8, (fX8 a (nI tx) fp (nI t0) wd (nI we) nu na 0 0 (nI ru) (nI rw) (nI ca) df db sd))), (aI k (a 16) 9 (upd (upd (upd (upd (upd (upd (upd freadSingle 0 0) 1 2) 2 1) 3 5) 4 30) 5 1) (Int32.toNatClampNeg 6) 10))] := hD
  replace hP : va_P D classes [((a 0), .inr (8, (fX8 a (nI tx) fp (nI t0) wd (nI we) nu na 0 0 (nI ru) (nI rw) (nI ca) df db sd))), (aI k (a 16) 9 (upd (upd (upd (upd (upd (upd (upd freadSingle 0 0) 1 2) 2 1) 3 5) 4 30) 5 1) 6 10))] H := hP
  replace hD : va_D A [((a 0), .inr (8, (fX8 a (nI tx) fp (nI t0) wd (nI we) nu na 0 0 (nI ru) (nI rw) (nI ca) df db sd))), (aI k (a 16) 9 (upd (upd (upd (upd (upd (upd (upd freadSingle 0 0) 1 2) 2 1) 3 5) 4 30) 5 1) 6 10))] := hD
  refine lv_aload_n hx hb dX8_bare_62 rfl (lv_at hl 0 rfl) ?_
  refine va_get (D := D) (ci := 8) (v := .ref (a 16)) (C := RX8) (T := TX8) (N := 44) hx hb hts inX8 hown hK hP 0 rfl rfl 15 (by decide) (hts _ tw_988) (fun _ h9 => h9) rfl dX8_bare_63 ?_
  refine lv_bipush (v := 7) hx hb dX8_bare_66 (by decide) ?_
  refine lv_iconst (v := 0) hx hb dX8_bare_68 (by decide) ?_
  refine va_iast hx hb hK hP hD hS 1 1 rfl rfl (by unfold vp_in; decide) dX8_bare_69 (fun H locs hP hD hS => ?_)
  replace hP : va_P D classes [((a 0), .inr (8, (fX8 a (nI tx) fp (nI t0) wd (nI we) nu na 0 0 (nI ru) (nI rw) (nI ca) df db sd))), (aI k (a 16) 9 (upd (upd (upd (upd (upd (upd (upd (upd freadSingle 0 0) 1 2) 2 1) 3 5) 4 30) 5 1) 6 10) (Int32.toNatClampNeg 7) 0))] H := hP
  replace hD : va_D A [((a 0), .inr (8, (fX8 a (nI tx) fp (nI t0) wd (nI we) nu na 0 0 (nI ru) (nI rw) (nI ca) df db sd))), (aI k (a 16) 9 (upd (upd (upd (upd (upd (upd (upd (upd freadSingle 0 0) 1 2) 2 1) 3 5) 4 30) 5 1) 6 10) (Int32.toNatClampNeg 7) 0))] := hD
  replace hP : va_P D classes [((a 0), .inr (8, (fX8 a (nI tx) fp (nI t0) wd (nI we) nu na 0 0 (nI ru) (nI rw) (nI ca) df db sd))), (aI k (a 16) 9 (upd (upd (upd (upd (upd (upd (upd (upd freadSingle 0 0) 1 2) 2 1) 3 5) 4 30) 5 1) 6 10) 7 0))] H := hP
  replace hD : va_D A [((a 0), .inr (8, (fX8 a (nI tx) fp (nI t0) wd (nI we) nu na 0 0 (nI ru) (nI rw) (nI ca) df db sd))), (aI k (a 16) 9 (upd (upd (upd (upd (upd (upd (upd (upd freadSingle 0 0) 1 2) 2 1) 3 5) 4 30) 5 1) 6 10) 7 0))] := hD
  refine lv_aload_n hx hb dX8_bare_70 rfl (lv_at hl 0 rfl) ?_
  refine va_get (D := D) (ci := 8) (v := .ref (a 16)) (C := RX8) (T := TX8) (N := 44) hx hb hts inX8 hown hK hP 0 rfl rfl 15 (by decide) (hts _ tw_988) (fun _ h9 => h9) rfl dX8_bare_71 ?_
  refine lv_bipush (v := 8) hx hb dX8_bare_74 (by decide) ?_
  refine lv_sipush (v := 200) hx hb dX8_bare_76 (by decide) ?_
  refine va_iast hx hb hK hP hD hS 1 1 rfl rfl (by unfold vp_in; decide) dX8_bare_79 (fun H locs hP hD hS => ?_)
  replace hP : va_P D classes [((a 0), .inr (8, (fX8 a (nI tx) fp (nI t0) wd (nI we) nu na 0 0 (nI ru) (nI rw) (nI ca) df db sd))), (aI k (a 16) 9 (upd (upd (upd (upd (upd (upd (upd (upd (upd freadSingle 0 0) 1 2) 2 1) 3 5) 4 30) 5 1) 6 10) 7 0) (Int32.toNatClampNeg 8) 200))] H := hP
  replace hD : va_D A [((a 0), .inr (8, (fX8 a (nI tx) fp (nI t0) wd (nI we) nu na 0 0 (nI ru) (nI rw) (nI ca) df db sd))), (aI k (a 16) 9 (upd (upd (upd (upd (upd (upd (upd (upd (upd freadSingle 0 0) 1 2) 2 1) 3 5) 4 30) 5 1) 6 10) 7 0) (Int32.toNatClampNeg 8) 200))] := hD
  replace hP : va_P D classes [((a 0), .inr (8, (fX8 a (nI tx) fp (nI t0) wd (nI we) nu na 0 0 (nI ru) (nI rw) (nI ca) df db sd))), (aI k (a 16) 9 (upd (upd (upd (upd (upd (upd (upd (upd (upd freadSingle 0 0) 1 2) 2 1) 3 5) 4 30) 5 1) 6 10) 7 0) 8 200))] H := hP
  replace hD : va_D A [((a 0), .inr (8, (fX8 a (nI tx) fp (nI t0) wd (nI we) nu na 0 0 (nI ru) (nI rw) (nI ca) df db sd))), (aI k (a 16) 9 (upd (upd (upd (upd (upd (upd (upd (upd (upd freadSingle 0 0) 1 2) 2 1) 3 5) 4 30) 5 1) 6 10) 7 0) 8 200))] := hD
  have hP9 := hP.sub (ws' := [((a 0), .inr (8, (fX8 a (nI tx) fp (nI t0) wd (nI we) nu na 0 0 (nI ru) (nI rw) (nI ca) df db sd))), (aI k (a 16) 9 (upd (upd (upd (upd (upd (upd (upd (upd (upd freadSingle 0 0) 1 2) 2 1) 3 5) 4 30) 5 1) 6 10) 7 0) 8 200))]) [0, 1] rfl
  have hD9 := hD.sub (ws' := [((a 0), .inr (8, (fX8 a (nI tx) fp (nI t0) wd (nI we) nu na 0 0 (nI ru) (nI rw) (nI ca) df db sd))), (aI k (a 16) 9 (upd (upd (upd (upd (upd (upd (upd (upd (upd freadSingle 0 0) 1 2) 2 1) 3 5) 4 30) 5 1) 6 10) 7 0) 8 200))]) [0, 1] (by decide) rfl
  exact W.vret hx hb hr (fun t ht hW => ⟨⟨(0, 0, (upd (upd (upd (upd (upd (upd (upd (upd (upd freadSingle 0 0) 1 2) 2 1) 3 5) 4 30) 5 1) 6 10) 7 0) 8 200)), rfl, ⟨rfl, ⟨1, by omega, rfl⟩, 0, by omega, rfl⟩, by rw [ht]; exact hP9, hD9⟩, hS.F ht⟩) hS.2.2 dX8_bare_80


theorem dX8_takeRule_0 : decode cX8_takeRule 0 = .ok (.bipush 102, 2) := by decide +kernel
theorem dX8_takeRule_2 : decode cX8_takeRule 2 = .ok (.bipush 114, 2) := by decide +kernel
theorem dX8_takeRule_4 : decode cX8_takeRule 4 = .ok (.bipush 111, 2) := by decide +kernel
theorem dX8_takeRule_6 : decode cX8_takeRule 6 = .ok (.invokestatic 148, 3) := by decide +kernel
theorem dX8_takeRule_9 : decode cX8_takeRule 9 = .ok (.bipush 109, 2) := by decide +kernel
theorem dX8_takeRule_11 : decode cX8_takeRule 11 = .ok (.invokestatic 144, 3) := by decide +kernel
theorem dX8_takeRule_14 : decode cX8_takeRule 14 = .ok (.lstore_n 1, 1) := by decide +kernel
theorem dX8_takeRule_15 : decode cX8_takeRule 15 = .ok (.aload_n 0, 1) := by decide +kernel
theorem dX8_takeRule_16 : decode cX8_takeRule 16 = .ok (.lload_n 1, 1) := by decide +kernel
theorem dX8_takeRule_17 : decode cX8_takeRule 17 = .ok (.invokevirtual 186, 3) := by decide +kernel
theorem dX8_takeRule_20 : decode cX8_takeRule 20 = .ok (.istore_n 3, 1) := by decide +kernel
theorem dX8_takeRule_21 : decode cX8_takeRule 21 = .ok (.iload_n 3, 1) := by decide +kernel
theorem dX8_takeRule_22 : decode cX8_takeRule 22 = .ok (.ifCond .le 7, 3) := by decide +kernel
theorem dX8_takeRule_25 : decode cX8_takeRule 25 = .ok (.iload_n 3, 1) := by decide +kernel
theorem dX8_takeRule_26 : decode cX8_takeRule 26 = .ok (.goto 10, 3) := by decide +kernel
theorem dX8_takeRule_29 : decode cX8_takeRule 29 = .ok (.aload_n 0, 1) := by decide +kernel
theorem dX8_takeRule_30 : decode cX8_takeRule 30 = .ok (.iconst 0, 1) := by decide +kernel
theorem dX8_takeRule_31 : decode cX8_takeRule 31 = .ok (.bipush 24, 2) := by decide +kernel
theorem dX8_takeRule_33 : decode cX8_takeRule 33 = .ok (.invokevirtual 183, 3) := by decide +kernel
theorem dX8_takeRule_36 : decode cX8_takeRule 36 = .ok (.istore_n 3, 1) := by decide +kernel
theorem dX8_takeRule_37 : decode cX8_takeRule 37 = .ok (.aload_n 0, 1) := by decide +kernel
theorem dX8_takeRule_38 : decode cX8_takeRule 38 = .ok (.getfield 60, 3) := by decide +kernel
theorem dX8_takeRule_41 : decode cX8_takeRule 41 = .ok (.bipush 12, 2) := by decide +kernel
theorem dX8_takeRule_43 : decode cX8_takeRule 43 = .ok (.aload_n 0, 1) := by decide +kernel
theorem dX8_takeRule_44 : decode cX8_takeRule 44 = .ok (.getfield 276, 3) := by decide +kernel
theorem dX8_takeRule_47 : decode cX8_takeRule 47 = .ok (.imul, 1) := by decide +kernel
theorem dX8_takeRule_48 : decode cX8_takeRule 48 = .ok (.iconst 0, 1) := by decide +kernel
theorem dX8_takeRule_49 : decode cX8_takeRule 49 = .ok (.iastore, 1) := by decide +kernel
theorem dX8_takeRule_50 : decode cX8_takeRule 50 = .ok (.aload_n 0, 1) := by decide +kernel
theorem dX8_takeRule_51 : decode cX8_takeRule 51 = .ok (.getfield 63, 3) := by decide +kernel
theorem dX8_takeRule_54 : decode cX8_takeRule 54 = .ok (.bipush 12, 2) := by decide +kernel
theorem dX8_takeRule_56 : decode cX8_takeRule 56 = .ok (.aload_n 0, 1) := by decide +kernel
theorem dX8_takeRule_57 : decode cX8_takeRule 57 = .ok (.getfield 276, 3) := by decide +kernel
theorem dX8_takeRule_60 : decode cX8_takeRule 60 = .ok (.imul, 1) := by decide +kernel
theorem dX8_takeRule_61 : decode cX8_takeRule 61 = .ok (.aload_n 0, 1) := by decide +kernel
theorem dX8_takeRule_62 : decode cX8_takeRule 62 = .ok (.getfield 163, 3) := by decide +kernel
theorem dX8_takeRule_65 : decode cX8_takeRule 65 = .ok (.iastore, 1) := by decide +kernel
theorem dX8_takeRule_66 : decode cX8_takeRule 66 = .ok (.aload_n 0, 1) := by decide +kernel
theorem dX8_takeRule_67 : decode cX8_takeRule 67 = .ok (.getfield 57, 3) := by decide +kernel
theorem dX8_takeRule_70 : decode cX8_takeRule 70 = .ok (.aload_n 0, 1) := by decide +kernel
theorem dX8_takeRule_71 : decode cX8_takeRule 71 = .ok (.getfield 276, 3) := by decide +kernel
theorem dX8_takeRule_74 : decode cX8_takeRule 74 = .ok (.iconst 1, 1) := by decide +kernel
theorem dX8_takeRule_75 : decode cX8_takeRule 75 = .ok (.iastore, 1) := by decide +kernel
theorem dX8_takeRule_76 : decode cX8_takeRule 76 = .ok (.aload_n 0, 1) := by decide +kernel
theorem dX8_takeRule_77 : decode cX8_takeRule 77 = .ok (.getfield 66, 3) := by decide +kernel
theorem dX8_takeRule_80 : decode cX8_takeRule 80 = .ok (.aload_n 0, 1) := by decide +kernel
theorem dX8_takeRule_81 : decode cX8_takeRule 81 = .ok (.getfield 276, 3) := by decide +kernel
theorem dX8_takeRule_84 : decode cX8_takeRule 84 = .ok (.iconst 0, 1) := by decide +kernel
theorem dX8_takeRule_85 : decode cX8_takeRule 85 = .ok (.iastore, 1) := by decide +kernel
theorem dX8_takeRule_86 : decode cX8_takeRule 86 = .ok (.iload_n 3, 1) := by decide +kernel
theorem dX8_takeRule_87 : decode cX8_takeRule 87 = .ok (.ifCond .ne 14, 3) := by decide +kernel
theorem dX8_takeRule_90 : decode cX8_takeRule 90 = .ok (.aload_n 0, 1) := by decide +kernel
theorem dX8_takeRule_91 : decode cX8_takeRule 91 = .ok (.invokevirtual 121, 3) := by decide +kernel
theorem dX8_takeRule_94 : decode cX8_takeRule 94 = .ok (.ifCond .lt 7, 3) := by decide +kernel
theorem dX8_takeRule_97 : decode cX8_takeRule 97 = .ok (.iconst 1, 1) := by decide +kernel
theorem dX8_takeRule_98 : decode cX8_takeRule 98 = .ok (.goto 4, 3) := by decide +kernel
theorem dX8_takeRule_101 : decode cX8_takeRule 101 = .ok (.iconst 0, 1) := by decide +kernel
theorem dX8_takeRule_102 : decode cX8_takeRule 102 = .ok (.istore 4, 2) := by decide +kernel
theorem dX8_takeRule_104 : decode cX8_takeRule 104 = .ok (.iload 4, 2) := by decide +kernel
theorem dX8_takeRule_106 : decode cX8_takeRule 106 = .ok (.ifCond .eq 92, 3) := by decide +kernel
theorem dX8_takeRule_109 : decode cX8_takeRule 109 = .ok (.aload_n 0, 1) := by decide +kernel
theorem dX8_takeRule_110 : decode cX8_takeRule 110 = .ok (.invokevirtual 156, 3) := by decide +kernel
theorem dX8_takeRule_113 : decode cX8_takeRule 113 = .ok (.aload_n 0, 1) := by decide +kernel
theorem dX8_takeRule_114 : decode cX8_takeRule 114 = .ok (.getfield 125, 3) := by decide +kernel
theorem dX8_takeRule_117 : decode cX8_takeRule 117 = .ok (.bipush 114, 2) := by decide +kernel
theorem dX8_takeRule_119 : decode cX8_takeRule 119 = .ok (.bipush 111, 2) := by decide +kernel
theorem dX8_takeRule_121 : decode cX8_takeRule 121 = .ok (.bipush 117, 2) := by decide +kernel
theorem dX8_takeRule_123 : decode cX8_takeRule 123 = .ok (.invokestatic 148, 3) := by decide +kernel
theorem dX8_takeRule_126 : decode cX8_takeRule 126 = .ok (.bipush 110, 2) := by decide +kernel
theorem dX8_takeRule_128 : decode cX8_takeRule 128 = .ok (.bipush 100, 2) := by decide +kernel
theorem dX8_takeRule_130 : decode cX8_takeRule 130 = .ok (.invokestatic 152, 3) := by decide +kernel
theorem dX8_takeRule_133 : decode cX8_takeRule 133 = .ok (.lcmp, 1) := by decide +kernel
theorem dX8_takeRule_134 : decode cX8_takeRule 134 = .ok (.ifCond .ne 37, 3) := by decide +kernel
theorem dX8_takeRule_137 : decode cX8_takeRule 137 = .ok (.aload_n 0, 1) := by decide +kernel
theorem dX8_takeRule_138 : decode cX8_takeRule 138 = .ok (.aload_n 0, 1) := by decide +kernel
theorem dX8_takeRule_139 : decode cX8_takeRule 139 = .ok (.getfield 129, 3) := by decide +kernel
theorem dX8_takeRule_142 : decode cX8_takeRule 142 = .ok (.putfield 118, 3) := by decide +kernel
theorem dX8_takeRule_145 : decode cX8_takeRule 145 = .ok (.aload_n 0, 1) := by decide +kernel
theorem dX8_takeRule_146 : decode cX8_takeRule 146 = .ok (.iconst 0, 1) := by decide +kernel
theorem dX8_takeRule_147 : decode cX8_takeRule 147 = .ok (.iconst 3, 1) := by decide +kernel
theorem dX8_takeRule_148 : decode cX8_takeRule 148 = .ok (.invokevirtual 183, 3) := by decide +kernel
theorem dX8_takeRule_151 : decode cX8_takeRule 151 = .ok (.istore_n 3, 1) := by decide +kernel
theorem dX8_takeRule_152 : decode cX8_takeRule 152 = .ok (.aload_n 0, 1) := by decide +kernel
theorem dX8_takeRule_153 : decode cX8_takeRule 153 = .ok (.getfield 66, 3) := by decide +kernel
theorem dX8_takeRule_156 : decode cX8_takeRule 156 = .ok (.aload_n 0, 1) := by decide +kernel
theorem dX8_takeRule_157 : decode cX8_takeRule 157 = .ok (.getfield 276, 3) := by decide +kernel
theorem dX8_takeRule_160 : decode cX8_takeRule 160 = .ok (.aload_n 0, 1) := by decide +kernel
theorem dX8_takeRule_161 : decode cX8_takeRule 161 = .ok (.getfield 163, 3) := by decide +kernel
theorem dX8_takeRule_164 : decode cX8_takeRule 164 = .ok (.iastore, 1) := by decide +kernel
theorem dX8_takeRule_165 : decode cX8_takeRule 165 = .ok (.iconst 0, 1) := by decide +kernel
theorem dX8_takeRule_166 : decode cX8_takeRule 166 = .ok (.istore 4, 2) := by decide +kernel
theorem dX8_takeRule_168 : decode cX8_takeRule 168 = .ok (.goto (-64), 3) := by decide +kernel
theorem dX8_takeRule_171 : decode cX8_takeRule 171 = .ok (.aload_n 0, 1) := by decide +kernel
theorem dX8_takeRule_172 : decode cX8_takeRule 172 = .ok (.lload_n 1, 1) := by decide +kernel
theorem dX8_takeRule_173 : decode cX8_takeRule 173 = .ok (.invokevirtual 279, 3) := by decide +kernel
theorem dX8_takeRule_176 : decode cX8_takeRule 176 = .ok (.istore_n 3, 1) := by decide +kernel
theorem dX8_takeRule_177 : decode cX8_takeRule 177 = .ok (.iload_n 3, 1) := by decide +kernel
theorem dX8_takeRule_178 : decode cX8_takeRule 178 = .ok (.ifCond .ne 14, 3) := by decide +kernel
theorem dX8_takeRule_181 : decode cX8_takeRule 181 = .ok (.aload_n 0, 1) := by decide +kernel
theorem dX8_takeRule_182 : decode cX8_takeRule 182 = .ok (.invokevirtual 121, 3) := by decide +kernel
theorem dX8_takeRule_185 : decode cX8_takeRule 185 = .ok (.ifCond .lt 7, 3) := by decide +kernel
theorem dX8_takeRule_188 : decode cX8_takeRule 188 = .ok (.iconst 1, 1) := by decide +kernel
theorem dX8_takeRule_189 : decode cX8_takeRule 189 = .ok (.goto 4, 3) := by decide +kernel
theorem dX8_takeRule_192 : decode cX8_takeRule 192 = .ok (.iconst 0, 1) := by decide +kernel
theorem dX8_takeRule_193 : decode cX8_takeRule 193 = .ok (.istore 4, 2) := by decide +kernel
theorem dX8_takeRule_195 : decode cX8_takeRule 195 = .ok (.goto (-91), 3) := by decide +kernel
theorem dX8_takeRule_198 : decode cX8_takeRule 198 = .ok (.iload_n 3, 1) := by decide +kernel
theorem dX8_takeRule_199 : decode cX8_takeRule 199 = .ok (.ifCond .le 7, 3) := by decide +kernel
theorem dX8_takeRule_202 : decode cX8_takeRule 202 = .ok (.iload_n 3, 1) := by decide +kernel
theorem dX8_takeRule_203 : decode cX8_takeRule 203 = .ok (.goto 23, 3) := by decide +kernel
theorem dX8_takeRule_206 : decode cX8_takeRule 206 = .ok (.aload_n 0, 1) := by decide +kernel
theorem dX8_takeRule_207 : decode cX8_takeRule 207 = .ok (.invokevirtual 121, 3) := by decide +kernel
theorem dX8_takeRule_210 : decode cX8_takeRule 210 = .ok (.ifCond .lt 15, 3) := by decide +kernel
theorem dX8_takeRule_213 : decode cX8_takeRule 213 = .ok (.aload_n 0, 1) := by decide +kernel
theorem dX8_takeRule_214 : decode cX8_takeRule 214 = .ok (.iconst 1, 1) := by decide +kernel
theorem dX8_takeRule_215 : decode cX8_takeRule 215 = .ok (.aload_n 0, 1) := by decide +kernel
theorem dX8_takeRule_216 : decode cX8_takeRule 216 = .ok (.getfield 118, 3) := by decide +kernel
theorem dX8_takeRule_219 : decode cX8_takeRule 219 = .ok (.invokevirtual 159, 3) := by decide +kernel
theorem dX8_takeRule_222 : decode cX8_takeRule 222 = .ok (.goto 4, 3) := by decide +kernel
theorem dX8_takeRule_225 : decode cX8_takeRule 225 = .ok (.iconst 0, 1) := by decide +kernel
theorem dX8_takeRule_226 : decode cX8_takeRule 226 = .ok (.ireturn, 1) := by decide +kernel
set_option maxHeartbeats 4000000 in
set_option maxRecDepth 100000 in
theorem m_takeRule (l : Launch) (D : va_G) (k : Nat → ClassId) (st : Nat → Nat) (lo : Nat) (a : Nat → Nat) (tx : Nat) (t0 : Nat) (we : Nat) (rd : Nat) (ru : Nat) (rw : Nat) (ca : Nat) (fp : Int32) (wd : Int64) (nu : Int32) (na : Int32) (ts : Int32) (df : Int32) (db : Int32) (sd : Int32) (ftext : Nat → Int32) (bm : Nat → Nat) (fbarSeen : Nat → Int32) (fbarFrom : Nat → Int32) (fruleRounds : Nat → Int32) (ht : t0 ≤ tx) (htx : tx ≤ 240) (hbm : ∀ j, bm j ≤ 12) (hru3 : ru ≤ 3) (hx80 : tx ≤ 80) : CWi l D k st lo yX8_takeRule cX8_takeRule 5 (some .int) ({ frames := 4, cells := 0, slots := 0, locals := 98 }) 0 0 [.ref (a 0)] [((a 0), .inr (8, (fX8 a (nI tx) fp (nI t0) wd (nI we) nu na (nI rd) ts (nI ru) (nI rw) (nI ca) df db sd))), (aI k (a 5) 240 ftext), (aI k (a 25) 4 (nF bm)), (aI k (a 26) 48 fbarSeen), (aI k (a 27) 48 fbarFrom), (aI k (a 28) 4 fruleRounds)] (fun (r : Int32) (u : Nat × Int64 × Nat × Int32 × Int32 × Int32 × (Nat → Nat) × (Nat → Int32) × (Nat → Int32) × (Nat → Int32) × Nat) => match u with | (t0_, wd_, we_, fp_, nu_, na_, bm_, fbarSeen_, fbarFrom_, fruleRounds_, er) => r = nI er ∧ er ≤ 3 ∧ (∀ j, bm_ j ≤ 12)) (fun (u : Nat × Int64 × Nat × Int32 × Int32 × Int32 × (Nat → Nat) × (Nat → Int32) × (Nat → Int32) × (Nat → Int32) × Nat) => match u with | (t0_, wd_, we_, fp_, nu_, na_, bm_, fbarSeen_, fbarFrom_, fruleRounds_, er) => [((a 0), .inr (8, (fX8 a (nI tx) fp_ (nI t0_) wd_ (nI we_) nu_ na_ (nI rd) ts (nI ru) (nI rw) (nI ca) df db sd))), (aI k (a 5) 240 ftext), (aI k (a 25) 4 (nF bm_)), (aI k (a 26) 48 fbarSeen_), (aI k (a 27) 48 fbarFrom_), (aI k (a 28) 4 fruleRounds_)]) := by
  intro sz
  refine Met.ofW (cc := cX8_takeRule) (maxL := 5) (ret := (some .int)) (by decide) rfl ?_
  intro p e s m args below meth c s₁ B hml hv
  obtain ⟨rfl, hsz, hlo, hP, hK, hDL, hZ⟩ := hv
  have hx := B.exec
  have hb := B.bytes
  have hr := B.returns
  have hts := WS_ts B.pre
  have hown : s.vm.findClass RX8 = some m.cls := findClass_of_methodNamed B.named
  have hlocks := B.notSynchronized
  subst hsz
  have hD := hDL.self (sz := s.heap.size)
  have hAlo := A_lo hDL hlo
  generalize hAe : va_A [((a 0), .inr (8, (fX8 a (nI tx) fp (nI t0) wd (nI we) nu na (nI rd) ts (nI ru) (nI rw) (nI ca) df db sd))), (aI k (a 5) 240 ftext), (aI k (a 25) 4 (nF bm)), (aI k (a 26) 48 fbarSeen), (aI k (a 27) 48 fbarFrom), (aI k (a 28) 4 fruleRounds)] s.heap.size = A at hD hAlo ⊢
  have hA : ∀ q : Nat, s.heap.size ≤ q → A q := fun q h => by rw [← hAe]; exact Or.inr h
  have hS : va_S A s.heap s.heap [] := va_S.rf
  have hl := lv_entry ([.ref (a 0)]) (n := 5) (Nat.le_of_ble_eq_true rfl)
  rw [lg_entry_eq]
  generalize (lg_sl ([.ref (a 0)]) ++ List.replicate (5 - (lg_sl ([.ref (a 0)])).length) Slot.unset).toArray = ls at hl ⊢
  have hl : lv_has ls 5 [(0, .ref (a 0))] := hl
  refine lv_bipush (v := 102) hx hb dX8_takeRule_0 (by decide) ?_
  refine lv_bipush (v := 114) hx hb dX8_takeRule_2 (by decide) ?_
  refine lv_bipush (v := 111) hx hb dX8_takeRule_4 (by decide) ?_
  refine ro_l (D := D) (va_runS (As := [.int 102, .int 114, .int 111]) (rest := []) ⟨hx, hb, hml, hown, hts⟩ ((m_code_from l D k st lo ) s.heap.size) (va_cwS 3 hts (gS tw_1142 tw_1143 tw_87 tw_1144) rfl rfl rfl (by decide +kernel) ⟨Nat.le_of_ble_eq_true rfl, Nat.le_of_ble_eq_true rfl⟩) (pS hS hAlo hlo hP hK (va_Dlo hD hAlo) hZ [] (by decide) rfl) rfl rfl hl.1 rfl (lv_room (Nat.le_of_ble_eq_true rfl)) dX8_takeRule_6 ⟨Nat.le_of_ble_eq_true rfl, Nat.le_of_ble_eq_true rfl⟩) hS hA hP (fun r_1 H locs hw_1 hP hS => ?_)
  try dsimp only at hw_1
  subst hw_1
  refine lv_bipush (v := 109) hx hb dX8_takeRule_9 (by decide) ?_
  refine ro_l (D := D) (va_runS (As := [.long 4875, .int 109]) (rest := []) ⟨hx, hb, hml, hown, hts⟩ ((m_longer_from l D k st lo ) H.size) (va_cwS 2 hts (gS tw_1148 tw_1149 tw_87 tw_1150) rfl rfl rfl (by decide +kernel) ⟨Nat.le_of_ble_eq_true rfl, Nat.le_of_ble_eq_true rfl⟩) (pS hS hAlo hlo hP hK (va_Dlo hD hAlo) hZ [] (by decide) rfl) rfl rfl hl.1 rfl (lv_room (Nat.le_of_ble_eq_true rfl)) dX8_takeRule_11 ⟨Nat.le_of_ble_eq_true rfl, Nat.le_of_ble_eq_true rfl⟩) hS hA hP (fun r_2 H locs hw_2 hP hS => ?_)
  try dsimp only at hw_2
  subst hw_2
  refine lv_lstore_n (lv' := [(1, .long 131638), (0, .ref (a 0))]) hx hb dX8_takeRule_14 rfl hl (by decide) rfl (fun ls hl => ?_)
  refine lv_aload_n hx hb dX8_takeRule_15 rfl (lv_at hl 1 rfl) ?_
  refine lv_lload_n hx hb dX8_takeRule_16 rfl (lv_at hl 0 rfl) ?_
  refine rw_i (D := D) (wr := [(aI k (a 25) 4 (nF bm)), (aI k (a 26) 48 fbarSeen), (aI k (a 27) 48 fbarFrom), (aI k (a 28) 4 fruleRounds)]) (va_runV (As := [.long 131638]) (rest := []) ⟨hx, hb, hml, hown, hts⟩ ((m_needs3 l D k st lo a tx t0 we rd ru rw ca fp wd nu na ts df db sd ftext 131638 (by omega) (by omega) (by decide +kernel)) H.size) (cwV 1 hts (gV tw_1169 tw_1171 tw_35 tw_87 tw_1172) rfl rfl rfl (by decide +kernel) ⟨Nat.le_of_ble_eq_true rfl, Nat.le_of_ble_eq_true rfl⟩) (pV hS hAlo hlo hP hK (va_Dlo hD hAlo) hZ [0, 1] (by decide) rfl (ci := 8) (q := (RX8, TX8, 44)) (q0 := 0) rfl rfl) rfl rfl hl.1 rfl (lv_room (Nat.le_of_ble_eq_true rfl)) dX8_takeRule_17 ⟨Nat.le_of_ble_eq_true rfl, Nat.le_of_ble_eq_true rfl⟩) hS hA hP hD [0, 1] [2, 3, 4, 5] rfl rfl (by decide) (by decide) (fun r_3 u H locs hw_3 hP hD hS => ?_)
  obtain ⟨t0__3, wd__3, we__3, fp__3, er_3⟩ := u
  replace hP : va_P D classes [(aI k (a 25) 4 (nF bm)), (aI k (a 26) 48 fbarSeen), (aI k (a 27) 48 fbarFrom), (aI k (a 28) 4 fruleRounds), ((a 0), .inr (8, (fX8 a (nI tx) fp__3 (nI t0__3) wd__3 (nI we__3) nu na (nI rd) ts (nI ru) (nI rw) (nI ca) df db sd))), (aI k (a 5) 240 ftext)] H := hP
  replace hD : va_D A [(aI k (a 25) 4 (nF bm)), (aI k (a 26) 48 fbarSeen), (aI k (a 27) 48 fbarFrom), (aI k (a 28) 4 fruleRounds), ((a 0), .inr (8, (fX8 a (nI tx) fp__3 (nI t0__3) wd__3 (nI we__3) nu na (nI rd) ts (nI ru) (nI rw) (nI ca) df db sd))), (aI k (a 5) 240 ftext)] := hD
  try dsimp only at hw_3
  obtain ⟨rfl, hw_3⟩ := hw_3
  refine lv_istore_n (lv' := [(3, .int (nI er_3)), (1, .long 131638), (0, .ref (a 0))]) hx hb dX8_takeRule_20 rfl hl (by decide) rfl (fun ls hl => ?_)
  refine lv_iload_n hx hb dX8_takeRule_21 rfl (lv_at hl 0 rfl) ?_
  refine lv_if_le (tgt := 29) hx hb dX8_takeRule_22 (by decide) (fun c_4 => ?_) (fun c_4 => ?_)
  · have c_4 := (nI_leI (a := er_3) (b := 0) (by omega) (by omega)).mp c_4
    refine lv_aload_n hx hb dX8_takeRule_29 rfl (lv_at hl 2 rfl) ?_
    refine lv_iconst (v := 0) hx hb dX8_takeRule_30 (by decide) ?_
    refine lv_bipush (v := 24) hx hb dX8_takeRule_31 (by decide) ?_
    refine rw_i (D := D) (wr := [(aI k (a 25) 4 (nF bm)), (aI k (a 26) 48 fbarSeen), (aI k (a 27) 48 fbarFrom), (aI k (a 28) 4 fruleRounds)]) (va_runV (As := [.int 0, .int 24]) (rest := []) ⟨hx, hb, hml, hown, hts⟩ ((m_takeNumber l D k st lo a tx t0__3 we__3 rd ru rw ca fp__3 wd__3 nu na ts df db sd ftext 0 24 (by omega) (by omega)) H.size) (cwV 2 hts (gV tw_1159 tw_1161 tw_33 tw_87 tw_1162) rfl rfl rfl (by decide +kernel) ⟨Nat.le_of_ble_eq_true rfl, Nat.le_of_ble_eq_true rfl⟩) (pV hS hAlo hlo hP hK (va_Dlo hD hAlo) hZ [4, 5] (by decide) rfl (ci := 8) (q := (RX8, TX8, 44)) (q0 := 0) rfl rfl) rfl rfl hl.1 rfl (lv_room (Nat.le_of_ble_eq_true rfl)) dX8_takeRule_33 ⟨Nat.le_of_ble_eq_true rfl, Nat.le_of_ble_eq_true rfl⟩) hS hA hP hD [4, 5] [0, 1, 2, 3] rfl rfl (by decide) (by decide) (fun r_5 u H locs hw_5 hP hD hS => ?_)
    obtain ⟨t0__5, nu__5, na__5, fp__5, er_5⟩ := u
    replace hP : va_P D classes [(aI k (a 25) 4 (nF bm)), (aI k (a 26) 48 fbarSeen), (aI k (a 27) 48 fbarFrom), (aI k (a 28) 4 fruleRounds), ((a 0), .inr (8, (fX8 a (nI tx) fp__5 (nI t0__5) wd__3 (nI we__3) nu__5 na__5 (nI rd) ts (nI ru) (nI rw) (nI ca) df db sd))), (aI k (a 5) 240 ftext)] H := hP
    replace hD : va_D A [(aI k (a 25) 4 (nF bm)), (aI k (a 26) 48 fbarSeen), (aI k (a 27) 48 fbarFrom), (aI k (a 28) 4 fruleRounds), ((a 0), .inr (8, (fX8 a (nI tx) fp__5 (nI t0__5) wd__3 (nI we__3) nu__5 na__5 (nI rd) ts (nI ru) (nI rw) (nI ca) df db sd))), (aI k (a 5) 240 ftext)] := hD
    try dsimp only at hw_5
    obtain ⟨rfl, hw_5⟩ := hw_5
    refine lv_istore_n (lv' := [(3, .int (nI er_5)), (1, .long 131638), (0, .ref (a 0))]) hx hb dX8_takeRule_36 rfl hl (by decide) rfl (fun ls hl => ?_)
    refine lv_aload_n hx hb dX8_takeRule_37 rfl (lv_at hl 2 rfl) ?_
    refine va_get (D := D) (ci := 8) (v := .ref (a 26)) (C := RX8) (T := TX8) (N := 44) hx hb hts inX8 hown hK hP 4 rfl rfl 25 (by decide) (hts _ tw_998) (fun _ h9 => h9) rfl dX8_takeRule_38 ?_
    refine lv_bipush (v := 12) hx hb dX8_takeRule_41 (by decide) ?_
    refine lv_aload_n hx hb dX8_takeRule_43 rfl (lv_at hl 2 rfl) ?_
    refine va_get (D := D) (ci := 8) (v := .int (nI ru)) (C := RX8) (T := TX8) (N := 44) hx hb hts inX8 hown hK hP 4 rfl rfl 23 (by decide) (hts _ tw_996) (fun _ h9 => h9) rfl dX8_takeRule_44 ?_
    refine lv_imul hx hb dX8_takeRule_47 ?_
    refine lv_ti (y := (nI (12 * ru))) (pk_mul 12 ru) ?_
    refine lv_iconst (v := 0) hx hb dX8_takeRule_48 (by decide) ?_
    refine va_iast hx hb hK hP hD hS 1 1 rfl rfl (vp_in_nI (by omega) (by decide)) dX8_takeRule_49 (fun H locs hP hD hS => ?_)
    replace hP : va_P D classes [(aI k (a 25) 4 (nF bm)), (aI k (a 26) 48 (upd fbarSeen (Int32.toNatClampNeg (nI (12 * ru))) 0)), (aI k (a 27) 48 fbarFrom), (aI k (a 28) 4 fruleRounds), ((a 0), .inr (8, (fX8 a (nI tx) fp__5 (nI t0__5) wd__3 (nI we__3) nu__5 na__5 (nI rd) ts (nI ru) (nI rw) (nI ca) df db sd))), (aI k (a 5) 240 ftext)] H := hP
    replace hD : va_D A [(aI k (a 25) 4 (nF bm)), (aI k (a 26) 48 (upd fbarSeen (Int32.toNatClampNeg (nI (12 * ru))) 0)), (aI k (a 27) 48 fbarFrom), (aI k (a 28) 4 fruleRounds), ((a 0), .inr (8, (fX8 a (nI tx) fp__5 (nI t0__5) wd__3 (nI we__3) nu__5 na__5 (nI rd) ts (nI ru) (nI rw) (nI ca) df db sd))), (aI k (a 5) 240 ftext)] := hD
    generalize (upd fbarSeen (Int32.toNatClampNeg (nI (12 * ru))) 0) = f_6 at hP hD
    refine lv_aload_n hx hb dX8_takeRule_50 rfl (lv_at hl 2 rfl) ?_
    refine va_get (D := D) (ci := 8) (v := .ref (a 27)) (C := RX8) (T := TX8) (N := 44) hx hb hts inX8 hown hK hP 4 rfl rfl 26 (by decide) (hts _ tw_999) (fun _ h9 => h9) rfl dX8_takeRule_51 ?_
    refine lv_bipush (v := 12) hx hb dX8_takeRule_54 (by decide) ?_
    refine lv_aload_n hx hb dX8_takeRule_56 rfl (lv_at hl 2 rfl) ?_
    refine va_get (D := D) (ci := 8) (v := .int (nI ru)) (C := RX8) (T := TX8) (N := 44) hx hb hts inX8 hown hK hP 4 rfl rfl 23 (by decide) (hts _ tw_996) (fun _ h9 => h9) rfl dX8_takeRule_57 ?_
    refine lv_imul hx hb dX8_takeRule_60 ?_
    refine lv_ti (y := (nI (12 * ru))) (pk_mul 12 ru) ?_
    refine lv_aload_n hx hb dX8_takeRule_61 rfl (lv_at hl 2 rfl) ?_
    refine va_get (D := D) (ci := 8) (v := .int nu__5) (C := RX8) (T := TX8) (N := 44) hx hb hts inX8 hown hK hP 4 rfl rfl 10 (by decide) (hts _ tw_983) (fun _ h9 => h9) rfl dX8_takeRule_62 ?_
    refine va_iast hx hb hK hP hD hS 2 1 rfl rfl (vp_in_nI (by omega) (by decide)) dX8_takeRule_65 (fun H locs hP hD hS => ?_)
    replace hP : va_P D classes [(aI k (a 25) 4 (nF bm)), (aI k (a 26) 48 f_6), (aI k (a 27) 48 (upd fbarFrom (Int32.toNatClampNeg (nI (12 * ru))) nu__5)), (aI k (a 28) 4 fruleRounds), ((a 0), .inr (8, (fX8 a (nI tx) fp__5 (nI t0__5) wd__3 (nI we__3) nu__5 na__5 (nI rd) ts (nI ru) (nI rw) (nI ca) df db sd))), (aI k (a 5) 240 ftext)] H := hP
    replace hD : va_D A [(aI k (a 25) 4 (nF bm)), (aI k (a 26) 48 f_6), (aI k (a 27) 48 (upd fbarFrom (Int32.toNatClampNeg (nI (12 * ru))) nu__5)), (aI k (a 28) 4 fruleRounds), ((a 0), .inr (8, (fX8 a (nI tx) fp__5 (nI t0__5) wd__3 (nI we__3) nu__5 na__5 (nI rd) ts (nI ru) (nI rw) (nI ca) df db sd))), (aI k (a 5) 240 ftext)] := hD
    generalize (upd fbarFrom (Int32.toNatClampNeg (nI (12 * ru))) nu__5) = f_7 at hP hD
    refine lv_aload_n hx hb dX8_takeRule_66 rfl (lv_at hl 2 rfl) ?_
    refine va_get (D := D) (ci := 8) (v := .ref (a 25)) (C := RX8) (T := TX8) (N := 44) hx hb hts inX8 hown hK hP 4 rfl rfl 24 (by decide) (hts _ tw_997) (fun _ h9 => h9) rfl dX8_takeRule_67 ?_
    refine lv_aload_n hx hb dX8_takeRule_70 rfl (lv_at hl 2 rfl) ?_
    refine va_get (D := D) (ci := 8) (v := .int (nI ru)) (C := RX8) (T := TX8) (N := 44) hx hb hts inX8 hown hK hP 4 rfl rfl 23 (by decide) (hts _ tw_996) (fun _ h9 => h9) rfl dX8_takeRule_71 ?_
    refine lv_iconst (v := 1) hx hb dX8_takeRule_74 (by decide) ?_
    refine va_iast hx hb hK hP hD hS 0 1 rfl rfl (vp_in_nI (by omega) (by decide)) dX8_takeRule_75 (fun H locs hP hD hS => ?_)
    replace hP : va_P D classes [(aI k (a 25) 4 (upd (nF bm) (Int32.toNatClampNeg (nI ru)) 1)), (aI k (a 26) 48 f_6), (aI k (a 27) 48 f_7), (aI k (a 28) 4 fruleRounds), ((a 0), .inr (8, (fX8 a (nI tx) fp__5 (nI t0__5) wd__3 (nI we__3) nu__5 na__5 (nI rd) ts (nI ru) (nI rw) (nI ca) df db sd))), (aI k (a 5) 240 ftext)] H := hP
    replace hD : va_D A [(aI k (a 25) 4 (upd (nF bm) (Int32.toNatClampNeg (nI ru)) 1)), (aI k (a 26) 48 f_6), (aI k (a 27) 48 f_7), (aI k (a 28) 4 fruleRounds), ((a 0), .inr (8, (fX8 a (nI tx) fp__5 (nI t0__5) wd__3 (nI we__3) nu__5 na__5 (nI rd) ts (nI ru) (nI rw) (nI ca) df db sd))), (aI k (a 5) 240 ftext)] := hD
    rw [nI_clamp (n := ru) (by omega)] at hP hD
    rw [show upd (nF bm) ru 1 = nF (fun j => if j = ru then 1 else bm j) from nF_upd _ _ _] at hP hD
    obtain ⟨d_9, hd_9⟩ : ∃ z : Nat → Nat, z = (fun j => if j = ru then 1 else bm j) := ⟨_, rfl⟩
    rw [← hd_9] at hP hD
    have hbb_9 : ∀ j, d_9 j ≤ 12 := by rw [hd_9]; exact up_le hbm (by omega)
    have hbu_9 : d_9 ru = 1 := by rw [hd_9]; exact if_pos rfl
    refine lv_aload_n hx hb dX8_takeRule_76 rfl (lv_at hl 2 rfl) ?_
    refine va_get (D := D) (ci := 8) (v := .ref (a 28)) (C := RX8) (T := TX8) (N := 44) hx hb hts inX8 hown hK hP 4 rfl rfl 27 (by decide) (hts _ tw_1000) (fun _ h9 => h9) rfl dX8_takeRule_77 ?_
    refine lv_aload_n hx hb dX8_takeRule_80 rfl (lv_at hl 2 rfl) ?_
    refine va_get (D := D) (ci := 8) (v := .int (nI ru)) (C := RX8) (T := TX8) (N := 44) hx hb hts inX8 hown hK hP 4 rfl rfl 23 (by decide) (hts _ tw_996) (fun _ h9 => h9) rfl dX8_takeRule_81 ?_
    refine lv_iconst (v := 0) hx hb dX8_takeRule_84 (by decide) ?_
    refine va_iast hx hb hK hP hD hS 3 1 rfl rfl (vp_in_nI (by omega) (by decide)) dX8_takeRule_85 (fun H locs hP hD hS => ?_)
    replace hP : va_P D classes [(aI k (a 25) 4 (nF d_9)), (aI k (a 26) 48 f_6), (aI k (a 27) 48 f_7), (aI k (a 28) 4 (upd fruleRounds (Int32.toNatClampNeg (nI ru)) 0)), ((a 0), .inr (8, (fX8 a (nI tx) fp__5 (nI t0__5) wd__3 (nI we__3) nu__5 na__5 (nI rd) ts (nI ru) (nI rw) (nI ca) df db sd))), (aI k (a 5) 240 ftext)] H := hP
    replace hD : va_D A [(aI k (a 25) 4 (nF d_9)), (aI k (a 26) 48 f_6), (aI k (a 27) 48 f_7), (aI k (a 28) 4 (upd fruleRounds (Int32.toNatClampNeg (nI ru)) 0)), ((a 0), .inr (8, (fX8 a (nI tx) fp__5 (nI t0__5) wd__3 (nI we__3) nu__5 na__5 (nI rd) ts (nI ru) (nI rw) (nI ca) df db sd))), (aI k (a 5) 240 ftext)] := hD
    generalize (upd fruleRounds (Int32.toNatClampNeg (nI ru)) 0) = f_10 at hP hD
    refine lv_iload_n hx hb dX8_takeRule_86 rfl (lv_at hl 0 rfl) ?_
    refine lv_if_ne (tgt := 101) hx hb dX8_takeRule_87 (by decide) (fun c_11 => ?_) (fun c_11 => ?_)
    · have c_11 : ¬ (er_5 = 0) := fun h => c_11 ((nI_eq (a := er_5) (b := 0) (by omega) (by omega)).mpr h)
      refine lv_iconst (v := 0) hx hb dX8_takeRule_101 (by decide) ?_
      refine lv_istore (lv' := [(4, .int 0), (3, .int (nI er_5)), (1, .long 131638), (0, .ref (a 0))]) hx hb dX8_takeRule_102 hl (by decide) rfl (fun ls hl => ?_)
      refine lv_iload hx hb dX8_takeRule_104 (lv_at hl 0 rfl) ?_
      refine lv_if_eq (tgt := 198) hx hb dX8_takeRule_106 (by decide) (fun _ => ?_) (fun h => absurd (by decide) h)
      refine lv_iload_n hx hb dX8_takeRule_198 rfl (lv_at hl 1 rfl) ?_
      refine lv_if_le (tgt := 206) hx hb dX8_takeRule_199 (by decide) (fun h => absurd ((nI_leI (a := er_5) (b := 0) (by omega) (by omega)).mp h) (by omega)) (fun _ => ?_)
      refine lv_iload_n hx hb dX8_takeRule_202 rfl (lv_at hl 1 rfl) ?_
      refine lv_goto (tgt := 226) hx hb dX8_takeRule_203 (by decide) ?_
      have hP9 := hP.sub (ws' := [((a 0), .inr (8, (fX8 a (nI tx) fp__5 (nI t0__5) wd__3 (nI we__3) nu__5 na__5 (nI rd) ts (nI ru) (nI rw) (nI ca) df db sd))), (aI k (a 5) 240 ftext), (aI k (a 25) 4 (nF d_9)), (aI k (a 26) 48 f_6), (aI k (a 27) 48 f_7), (aI k (a 28) 4 f_10)]) [4, 5, 0, 1, 2, 3] rfl
      have hD9 := hD.sub (ws' := [((a 0), .inr (8, (fX8 a (nI tx) fp__5 (nI t0__5) wd__3 (nI we__3) nu__5 na__5 (nI rd) ts (nI ru) (nI rw) (nI ca) df db sd))), (aI k (a 5) 240 ftext), (aI k (a 25) 4 (nF d_9)), (aI k (a 26) 48 f_6), (aI k (a 27) 48 f_7), (aI k (a 28) 4 f_10)]) [4, 5, 0, 1, 2, 3] (by decide) rfl
      exact W.iret (v := (nI er_5)) hx hb hr (fun t ht hW => ⟨⟨(nI er_5), (t0__5, wd__3, we__3, fp__5, nu__5, na__5, d_9, f_6, f_7, f_10, er_5), rfl, ⟨rfl, by omega, hbb_9⟩, by rw [ht]; exact hP9, hD9⟩, hS.F ht⟩) hS.2.2 dX8_takeRule_226
    · have c_11 := (nI_eq (a := er_5) (b := 0) (by omega) (by omega)).mp c_11
      refine lv_aload_n hx hb dX8_takeRule_90 rfl (lv_at hl 2 rfl) ?_
      refine rw_i (D := D) (wr := [(aI k (a 25) 4 (nF d_9)), (aI k (a 26) 48 f_6), (aI k (a 27) 48 f_7), (aI k (a 28) 4 f_10)]) (va_runV (As := []) (rest := []) ⟨hx, hb, hml, hown, hts⟩ ((m_here l D k st lo a tx t0__5 we__3 rd ru rw ca fp__5 wd__3 nu__5 na__5 ts df db sd ftext (by omega) (by omega)) H.size) (cwV 0 hts (gV tw_1120 tw_1122 tw_27 tw_87 tw_1123) rfl rfl rfl (by decide +kernel) ⟨Nat.le_of_ble_eq_true rfl, Nat.le_of_ble_eq_true rfl⟩) (pV hS hAlo hlo hP hK (va_Dlo hD hAlo) hZ [4, 5] (by decide) rfl (ci := 8) (q := (RX8, TX8, 44)) (q0 := 0) rfl rfl) rfl rfl hl.1 rfl (lv_room (Nat.le_of_ble_eq_true rfl)) dX8_takeRule_91 ⟨Nat.le_of_ble_eq_true rfl, Nat.le_of_ble_eq_true rfl⟩) hS hA hP hD [4, 5] [0, 1, 2, 3] rfl rfl (by decide) (by decide) (fun r_13 u H locs hw_13 hP hD hS => ?_)
      obtain ⟨t0__13, rfl⟩ : ∃ z, z = u := ⟨_, rfl⟩
      replace hP : va_P D classes [(aI k (a 25) 4 (nF d_9)), (aI k (a 26) 48 f_6), (aI k (a 27) 48 f_7), (aI k (a 28) 4 f_10), ((a 0), .inr (8, (fX8 a (nI tx) fp__5 (nI t0__13) wd__3 (nI we__3) nu__5 na__5 (nI rd) ts (nI ru) (nI rw) (nI ca) df db sd))), (aI k (a 5) 240 ftext)] H := hP
      replace hD : va_D A [(aI k (a 25) 4 (nF d_9)), (aI k (a 26) 48 f_6), (aI k (a 27) 48 f_7), (aI k (a 28) 4 f_10), ((a 0), .inr (8, (fX8 a (nI tx) fp__5 (nI t0__13) wd__3 (nI we__3) nu__5 na__5 (nI rd) ts (nI ru) (nI rw) (nI ca) df db sd))), (aI k (a 5) 240 ftext)] := hD
      try dsimp only at hw_13
      refine lv_if_lt (tgt := 101) hx hb dX8_takeRule_94 (by decide) (fun c_14 => ?_) (fun c_14 => ?_)
      · refine lv_iconst (v := 0) hx hb dX8_takeRule_101 (by decide) ?_
        refine lv_istore (lv' := [(4, .int 0), (3, .int (nI er_5)), (1, .long 131638), (0, .ref (a 0))]) hx hb dX8_takeRule_102 hl (by decide) rfl (fun ls hl => ?_)
        refine lv_iload hx hb dX8_takeRule_104 (lv_at hl 0 rfl) ?_
        refine lv_if_eq (tgt := 198) hx hb dX8_takeRule_106 (by decide) (fun _ => ?_) (fun h => absurd (by decide) h)
        refine lv_iload_n hx hb dX8_takeRule_198 rfl (lv_at hl 1 rfl) ?_
        refine lv_if_le (tgt := 206) hx hb dX8_takeRule_199 (by decide) (fun _ => ?_) (fun h => absurd ((nI_leI (a := er_5) (b := 0) (by omega) (by omega)).mpr (by omega)) h)
        refine lv_aload_n hx hb dX8_takeRule_206 rfl (lv_at hl 3 rfl) ?_
        refine rw_i (D := D) (wr := [(aI k (a 25) 4 (nF d_9)), (aI k (a 26) 48 f_6), (aI k (a 27) 48 f_7), (aI k (a 28) 4 f_10)]) (va_runV (As := []) (rest := []) ⟨hx, hb, hml, hown, hts⟩ ((m_here l D k st lo a tx t0__13 we__3 rd ru rw ca fp__5 wd__3 nu__5 na__5 ts df db sd ftext (by omega) (by omega)) H.size) (cwV 0 hts (gV tw_1120 tw_1122 tw_27 tw_87 tw_1123) rfl rfl rfl (by decide +kernel) ⟨Nat.le_of_ble_eq_true rfl, Nat.le_of_ble_eq_true rfl⟩) (pV hS hAlo hlo hP hK (va_Dlo hD hAlo) hZ [4, 5] (by decide) rfl (ci := 8) (q := (RX8, TX8, 44)) (q0 := 0) rfl rfl) rfl rfl hl.1 rfl (lv_room (Nat.le_of_ble_eq_true rfl)) dX8_takeRule_207 ⟨Nat.le_of_ble_eq_true rfl, Nat.le_of_ble_eq_true rfl⟩) hS hA hP hD [4, 5] [0, 1, 2, 3] rfl rfl (by decide) (by decide) (fun r_16 u H locs hw_16 hP hD hS => ?_)
        obtain ⟨t0__16, rfl⟩ : ∃ z, z = u := ⟨_, rfl⟩
        replace hP : va_P D classes [(aI k (a 25) 4 (nF d_9)), (aI k (a 26) 48 f_6), (aI k (a 27) 48 f_7), (aI k (a 28) 4 f_10), ((a 0), .inr (8, (fX8 a (nI tx) fp__5 (nI t0__16) wd__3 (nI we__3) nu__5 na__5 (nI rd) ts (nI ru) (nI rw) (nI ca) df db sd))), (aI k (a 5) 240 ftext)] H := hP
        replace hD : va_D A [(aI k (a 25) 4 (nF d_9)), (aI k (a 26) 48 f_6), (aI k (a 27) 48 f_7), (aI k (a 28) 4 f_10), ((a 0), .inr (8, (fX8 a (nI tx) fp__5 (nI t0__16) wd__3 (nI we__3) nu__5 na__5 (nI rd) ts (nI ru) (nI rw) (nI ca) df db sd))), (aI k (a 5) 240 ftext)] := hD
        try dsimp only at hw_16
        refine lv_if_lt (tgt := 225) hx hb dX8_takeRule_210 (by decide) (fun c_17 => ?_) (fun c_17 => ?_)
        · refine lv_iconst (v := 0) hx hb dX8_takeRule_225 (by decide) ?_
          have hP9 := hP.sub (ws' := [((a 0), .inr (8, (fX8 a (nI tx) fp__5 (nI t0__16) wd__3 (nI we__3) nu__5 na__5 (nI rd) ts (nI ru) (nI rw) (nI ca) df db sd))), (aI k (a 5) 240 ftext), (aI k (a 25) 4 (nF d_9)), (aI k (a 26) 48 f_6), (aI k (a 27) 48 f_7), (aI k (a 28) 4 f_10)]) [4, 5, 0, 1, 2, 3] rfl
          have hD9 := hD.sub (ws' := [((a 0), .inr (8, (fX8 a (nI tx) fp__5 (nI t0__16) wd__3 (nI we__3) nu__5 na__5 (nI rd) ts (nI ru) (nI rw) (nI ca) df db sd))), (aI k (a 5) 240 ftext), (aI k (a 25) 4 (nF d_9)), (aI k (a 26) 48 f_6), (aI k (a 27) 48 f_7), (aI k (a 28) 4 f_10)]) [4, 5, 0, 1, 2, 3] (by decide) rfl
          exact W.iret (v := 0) hx hb hr (fun t ht hW => ⟨⟨0, (t0__16, wd__3, we__3, fp__5, nu__5, na__5, d_9, f_6, f_7, f_10, 0), rfl, ⟨rfl, by omega, hbb_9⟩, by rw [ht]; exact hP9, hD9⟩, hS.F ht⟩) hS.2.2 dX8_takeRule_226
        · refine lv_aload_n hx hb dX8_takeRule_213 rfl (lv_at hl 3 rfl) ?_
          refine lv_iconst (v := 1) hx hb dX8_takeRule_214 (by decide) ?_
          refine lv_aload_n hx hb dX8_takeRule_215 rfl (lv_at hl 3 rfl) ?_
          refine va_get (D := D) (ci := 8) (v := .int (nI t0__16)) (C := RX8) (T := TX8) (N := 44) hx hb hts inX8 hown hK hP 4 rfl rfl 7 (by decide) (hts _ tw_980) (fun _ h9 => h9) rfl dX8_takeRule_216 ?_
          refine rw_i (D := D) (wr := [(aI k (a 25) 4 (nF d_9)), (aI k (a 26) 48 f_6), (aI k (a 27) 48 f_7), (aI k (a 28) 4 f_10), (aI k (a 5) 240 ftext)]) (va_runV (As := [.int 1, .int (nI t0__16)]) (rest := []) ⟨hx, hb, hml, hown, hts⟩ ((m_fails l D k st lo a tx t0__16 we__3 rd ru rw ca fp__5 wd__3 nu__5 na__5 ts df db sd 1 (nI t0__16)) H.size) (cwV 2 hts (gV tw_1151 tw_1153 tw_31 tw_87 tw_1154) rfl rfl rfl (by decide +kernel) ⟨Nat.le_of_ble_eq_true rfl, Nat.le_of_ble_eq_true rfl⟩) (pV hS hAlo hlo hP hK (va_Dlo hD hAlo) hZ [4] (by decide) rfl (ci := 8) (q := (RX8, TX8, 44)) (q0 := 0) rfl rfl) rfl rfl hl.1 rfl (lv_room (Nat.le_of_ble_eq_true rfl)) dX8_takeRule_219 ⟨Nat.le_of_ble_eq_true rfl, Nat.le_of_ble_eq_true rfl⟩) hS hA hP hD [4] [0, 1, 2, 3, 5] rfl rfl (by decide) (by decide) (fun r_18 u H locs hw_18 hP hD hS => ?_)
          obtain ⟨fp__18, rfl⟩ : ∃ z, z = u := ⟨_, rfl⟩
          replace hP : va_P D classes [(aI k (a 25) 4 (nF d_9)), (aI k (a 26) 48 f_6), (aI k (a 27) 48 f_7), (aI k (a 28) 4 f_10), (aI k (a 5) 240 ftext), ((a 0), .inr (8, (fX8 a (nI tx) fp__18 (nI t0__16) wd__3 (nI we__3) nu__5 na__5 (nI rd) ts (nI ru) (nI rw) (nI ca) df db sd)))] H := hP
          replace hD : va_D A [(aI k (a 25) 4 (nF d_9)), (aI k (a 26) 48 f_6), (aI k (a 27) 48 f_7), (aI k (a 28) 4 f_10), (aI k (a 5) 240 ftext), ((a 0), .inr (8, (fX8 a (nI tx) fp__18 (nI t0__16) wd__3 (nI we__3) nu__5 na__5 (nI rd) ts (nI ru) (nI rw) (nI ca) df db sd)))] := hD
          try dsimp only at hw_18
          subst hw_18
          refine lv_goto (tgt := 226) hx hb dX8_takeRule_222 (by decide) ?_
          have hP9 := hP.sub (ws' := [((a 0), .inr (8, (fX8 a (nI tx) fp__18 (nI t0__16) wd__3 (nI we__3) nu__5 na__5 (nI rd) ts (nI ru) (nI rw) (nI ca) df db sd))), (aI k (a 5) 240 ftext), (aI k (a 25) 4 (nF d_9)), (aI k (a 26) 48 f_6), (aI k (a 27) 48 f_7), (aI k (a 28) 4 f_10)]) [5, 4, 0, 1, 2, 3] rfl
          have hD9 := hD.sub (ws' := [((a 0), .inr (8, (fX8 a (nI tx) fp__18 (nI t0__16) wd__3 (nI we__3) nu__5 na__5 (nI rd) ts (nI ru) (nI rw) (nI ca) df db sd))), (aI k (a 5) 240 ftext), (aI k (a 25) 4 (nF d_9)), (aI k (a 26) 48 f_6), (aI k (a 27) 48 f_7), (aI k (a 28) 4 f_10)]) [5, 4, 0, 1, 2, 3] (by decide) rfl
          exact W.iret (v := 1) hx hb hr (fun t ht hW => ⟨⟨1, (t0__16, wd__3, we__3, fp__18, nu__5, na__5, d_9, f_6, f_7, f_10, 1), rfl, ⟨rfl, by omega, hbb_9⟩, by rw [ht]; exact hP9, hD9⟩, hS.F ht⟩) hS.2.2 dX8_takeRule_226
      · refine lv_iconst (v := 1) hx hb dX8_takeRule_97 (by decide) ?_
        refine lv_goto (tgt := 102) hx hb dX8_takeRule_98 (by decide) ?_
        refine lv_istore (lv' := [(4, .int 1), (3, .int (nI er_5)), (1, .long 131638), (0, .ref (a 0))]) hx hb dX8_takeRule_102 hl (by decide) rfl (fun ls hl => ?_)
        refine W_loop (σ := Nat × Int64 × Nat × Int32 × Int32 × Int32 × (Nat → Int32) × (Nat → Int32) × (Nat → Nat)) (fun (n_ : Nat) (x_ : Nat × Int64 × Nat × Int32 × Int32 × Int32 × (Nat → Int32) × (Nat → Int32) × (Nat → Nat)) (H : Heap) (locs : List Loc) (ls : Array Slot) => match x_ with | (t_19, wd2_19, we2_19, fp2_19, nu2_19, na2_19, fs2_19, ff2_19, b2_19) => n_ = tx - t_19 ∧ (t_19 ≤ tx ∧ 1 ≤ b2_19 ru ∧ 8 * b2_19 ru ≤ t_19 + 4 ∧ (∀ j, b2_19 j ≤ 12)) ∧ va_P D classes [(aI k (a 25) 4 (nF b2_19)), (aI k (a 26) 48 fs2_19), (aI k (a 27) 48 ff2_19), (aI k (a 28) 4 f_10), ((a 0), .inr (8, (fX8 a (nI tx) fp2_19 (nI t_19) wd2_19 (nI we2_19) nu2_19 na2_19 (nI rd) ts (nI ru) (nI rw) (nI ca) df db sd))), (aI k (a 5) 240 ftext)] H ∧ va_D A [(aI k (a 25) 4 (nF b2_19)), (aI k (a 26) 48 fs2_19), (aI k (a 27) 48 ff2_19), (aI k (a 28) 4 f_10), ((a 0), .inr (8, (fX8 a (nI tx) fp2_19 (nI t_19) wd2_19 (nI we2_19) nu2_19 na2_19 (nI rd) ts (nI ru) (nI rw) (nI ca) df db sd))), (aI k (a 5) 240 ftext)] ∧ va_S A s.heap H locs ∧ lv_has ls 5 [(4, .int 1), (1, .long 131638), (0, .ref (a 0))]) (fun n_19 x_19 H locs ls hI ih_19 => ?_) _ (t0__13, wd__3, we__3, fp__5, nu__5, na__5, f_6, f_7, d_9) ⟨rfl, ⟨by omega, by omega, by omega, hbb_9⟩, hP, hD, hS, (lv_sub hl [0, 2, 3] rfl)⟩
        obtain ⟨t_19, wd2_19, we2_19, fp2_19, nu2_19, na2_19, fs2_19, ff2_19, b2_19⟩ := x_19
        obtain ⟨hm_19, hv_19, hP, hD, hS, hl⟩ := hI
        subst hm_19
        have hbl_19 := hv_19.2.2.2
        refine lv_iload hx hb dX8_takeRule_104 (lv_at hl 0 rfl) ?_
        refine lv_if_eq (tgt := 198) hx hb dX8_takeRule_106 (by decide) (fun h => absurd h (by decide)) (fun _ => ?_)
        refine lv_aload_n hx hb dX8_takeRule_109 rfl (lv_at hl 2 rfl) ?_
        refine rw_v (D := D) (wr := [(aI k (a 25) 4 (nF b2_19)), (aI k (a 26) 48 fs2_19), (aI k (a 27) 48 ff2_19), (aI k (a 28) 4 f_10)]) (va_runV (As := []) (rest := []) ⟨hx, hb, hml, hown, hts⟩ ((m_readWord l D k st lo a tx t_19 we2_19 rd ru rw ca fp2_19 wd2_19 nu2_19 na2_19 ts df db sd ftext (by omega) (by omega)) H.size) (cwV 0 hts (gV tw_1128 tw_1130 tw_29 tw_87 tw_1131) rfl rfl rfl (by decide +kernel) ⟨Nat.le_of_ble_eq_true rfl, Nat.le_of_ble_eq_true rfl⟩) (pV hS hAlo hlo hP hK (va_Dlo hD hAlo) hZ [4, 5] (by decide) rfl (ci := 8) (q := (RX8, TX8, 44)) (q0 := 0) rfl rfl) rfl rfl hl.1 rfl (lv_room (Nat.le_of_ble_eq_true rfl)) dX8_takeRule_110 ⟨Nat.le_of_ble_eq_true rfl, Nat.le_of_ble_eq_true rfl⟩) hS hA hP hD [4, 5] [0, 1, 2, 3] rfl rfl (by decide) (by decide) (fun u H locs hw_20 hP hD hS => ?_)
        obtain ⟨t0__20, wd__20, we__20⟩ := u
        replace hP : va_P D classes [(aI k (a 25) 4 (nF b2_19)), (aI k (a 26) 48 fs2_19), (aI k (a 27) 48 ff2_19), (aI k (a 28) 4 f_10), ((a 0), .inr (8, (fX8 a (nI tx) fp2_19 (nI t0__20) wd__20 (nI we__20) nu2_19 na2_19 (nI rd) ts (nI ru) (nI rw) (nI ca) df db sd))), (aI k (a 5) 240 ftext)] H := hP
        replace hD : va_D A [(aI k (a 25) 4 (nF b2_19)), (aI k (a 26) 48 fs2_19), (aI k (a 27) 48 ff2_19), (aI k (a 28) 4 f_10), ((a 0), .inr (8, (fX8 a (nI tx) fp2_19 (nI t0__20) wd__20 (nI we__20) nu2_19 na2_19 (nI rd) ts (nI ru) (nI rw) (nI ca) df db sd))), (aI k (a 5) 240 ftext)] := hD
        try dsimp only at hw_20
        refine lv_aload_n hx hb dX8_takeRule_113 rfl (lv_at hl 2 rfl) ?_
        refine va_get (D := D) (ci := 8) (v := .long wd__20) (C := RX8) (T := TX8) (N := 44) hx hb hts inX8 hown hK hP 4 rfl rfl 8 (by decide) (hts _ tw_981) (fun _ h9 => h9) rfl dX8_takeRule_114 ?_
        refine lv_bipush (v := 114) hx hb dX8_takeRule_117 (by decide) ?_
        refine lv_bipush (v := 111) hx hb dX8_takeRule_119 (by decide) ?_
        refine lv_bipush (v := 117) hx hb dX8_takeRule_121 (by decide) ?_
        refine ro_l (D := D) (va_runS (As := [.int 114, .int 111, .int 117]) (rest := [.long wd__20]) ⟨hx, hb, hml, hown, hts⟩ ((m_code l D k st lo 114 111 117) H.size) (va_cwS 3 hts (gS tw_1142 tw_1143 tw_87 tw_1144) rfl rfl rfl (by decide +kernel) ⟨Nat.le_of_ble_eq_true rfl, Nat.le_of_ble_eq_true rfl⟩) (pS hS hAlo hlo hP hK (va_Dlo hD hAlo) hZ [] (by decide) rfl) rfl rfl hl.1 rfl (lv_room (Nat.le_of_ble_eq_true rfl)) dX8_takeRule_123 ⟨Nat.le_of_ble_eq_true rfl, Nat.le_of_ble_eq_true rfl⟩) hS hA hP (fun r_21 H locs hw_21 hP hS => ?_)
        try dsimp only at hw_21
        refine lv_bipush (v := 110) hx hb dX8_takeRule_126 (by decide) ?_
        refine lv_bipush (v := 100) hx hb dX8_takeRule_128 (by decide) ?_
        refine ro_l (D := D) (va_runS (As := [.long r_21, .int 110, .int 100]) (rest := [.long wd__20]) ⟨hx, hb, hml, hown, hts⟩ ((m_longest l D k st lo r_21 110 100) H.size) (va_cwS 3 hts (gS tw_1145 tw_1146 tw_87 tw_1147) rfl rfl rfl (by decide +kernel) ⟨Nat.le_of_ble_eq_true rfl, Nat.le_of_ble_eq_true rfl⟩) (pS hS hAlo hlo hP hK (va_Dlo hD hAlo) hZ [] (by decide) rfl) rfl rfl hl.1 rfl (lv_room (Nat.le_of_ble_eq_true rfl)) dX8_takeRule_130 ⟨Nat.le_of_ble_eq_true rfl, Nat.le_of_ble_eq_true rfl⟩) hS hA hP (fun r_22 H locs hw_22 hP hS => ?_)
        try dsimp only at hw_22
        refine W.lcmp hx hb dX8_takeRule_133 ?_
        refine lv_if_ne (tgt := 171) hx hb dX8_takeRule_134 (by decide) (fun c_23 => ?_) (fun c_23 => ?_)
        · refine lv_aload_n hx hb dX8_takeRule_171 rfl (lv_at hl 2 rfl) ?_
          refine lv_lload_n hx hb dX8_takeRule_172 rfl (lv_at hl 1 rfl) ?_
          refine rw_i (D := D) (wr := [(aI k (a 28) 4 f_10)]) (va_runV (As := [.long 131638]) (rest := []) ⟨hx, hb, hml, hown, hts⟩ ((m_takeSeen l D k st lo a tx t0__20 we__20 rd ru rw ca fp2_19 wd__20 nu2_19 na2_19 ts df db sd ftext b2_19 fs2_19 ff2_19 131638 (by omega) (by omega) hbl_19 (by omega) (by decide +kernel) (by omega)) H.size) (cwV 1 hts (gV tw_1313 tw_1315 tw_56 tw_87 tw_1316) rfl rfl rfl (by decide +kernel) ⟨Nat.le_of_ble_eq_true rfl, Nat.le_of_ble_eq_true rfl⟩) (pV hS hAlo hlo hP hK (va_Dlo hD hAlo) hZ [4, 5, 0, 1, 2] (by decide) rfl (ci := 8) (q := (RX8, TX8, 44)) (q0 := 0) rfl rfl) rfl rfl hl.1 rfl (lv_room (Nat.le_of_ble_eq_true rfl)) dX8_takeRule_173 ⟨Nat.le_of_ble_eq_true rfl, Nat.le_of_ble_eq_true rfl⟩) hS hA hP hD [4, 5, 0, 1, 2] [3] rfl rfl (by decide) (by decide) (fun r_24 u H locs hw_24 hP hD hS => ?_)
          obtain ⟨t0__24, wd__24, we__24, fp__24, nu__24, na__24, bm__24, fbarSeen__24, fbarFrom__24, er_24⟩ := u
          replace hP : va_P D classes [(aI k (a 28) 4 f_10), ((a 0), .inr (8, (fX8 a (nI tx) fp__24 (nI t0__24) wd__24 (nI we__24) nu__24 na__24 (nI rd) ts (nI ru) (nI rw) (nI ca) df db sd))), (aI k (a 5) 240 ftext), (aI k (a 25) 4 (nF bm__24)), (aI k (a 26) 48 fbarSeen__24), (aI k (a 27) 48 fbarFrom__24)] H := hP
          replace hD : va_D A [(aI k (a 28) 4 f_10), ((a 0), .inr (8, (fX8 a (nI tx) fp__24 (nI t0__24) wd__24 (nI we__24) nu__24 na__24 (nI rd) ts (nI ru) (nI rw) (nI ca) df db sd))), (aI k (a 5) 240 ftext), (aI k (a 25) 4 (nF bm__24)), (aI k (a 26) 48 fbarSeen__24), (aI k (a 27) 48 fbarFrom__24)] := hD
          try dsimp only at hw_24
          obtain ⟨rfl, hw_24⟩ := hw_24
          refine lv_istore_n (lv' := [(3, .int (nI er_24)), (4, .int 1), (1, .long 131638), (0, .ref (a 0))]) hx hb dX8_takeRule_176 rfl hl (by decide) rfl (fun ls hl => ?_)
          refine lv_iload_n hx hb dX8_takeRule_177 rfl (lv_at hl 0 rfl) ?_
          refine lv_if_ne (tgt := 192) hx hb dX8_takeRule_178 (by decide) (fun c_25 => ?_) (fun c_25 => ?_)
          · have c_25 : ¬ (er_24 = 0) := fun h => c_25 ((nI_eq (a := er_24) (b := 0) (by omega) (by omega)).mpr h)
            refine lv_iconst (v := 0) hx hb dX8_takeRule_192 (by decide) ?_
            refine lv_istore (lv' := [(4, .int 0), (3, .int (nI er_24)), (1, .long 131638), (0, .ref (a 0))]) hx hb dX8_takeRule_193 hl (by decide) rfl (fun ls hl => ?_)
            refine lv_goto (tgt := 104) hx hb dX8_takeRule_195 (by decide) ?_
            refine lv_iload hx hb dX8_takeRule_104 (lv_at hl 0 rfl) ?_
            refine lv_if_eq (tgt := 198) hx hb dX8_takeRule_106 (by decide) (fun _ => ?_) (fun h => absurd (by decide) h)
            refine lv_iload_n hx hb dX8_takeRule_198 rfl (lv_at hl 1 rfl) ?_
            refine lv_if_le (tgt := 206) hx hb dX8_takeRule_199 (by decide) (fun h => absurd ((nI_leI (a := er_24) (b := 0) (by omega) (by omega)).mp h) (by omega)) (fun _ => ?_)
            refine lv_iload_n hx hb dX8_takeRule_202 rfl (lv_at hl 1 rfl) ?_
            refine lv_goto (tgt := 226) hx hb dX8_takeRule_203 (by decide) ?_
            have hP9 := hP.sub (ws' := [((a 0), .inr (8, (fX8 a (nI tx) fp__24 (nI t0__24) wd__24 (nI we__24) nu__24 na__24 (nI rd) ts (nI ru) (nI rw) (nI ca) df db sd))), (aI k (a 5) 240 ftext), (aI k (a 25) 4 (nF bm__24)), (aI k (a 26) 48 fbarSeen__24), (aI k (a 27) 48 fbarFrom__24), (aI k (a 28) 4 f_10)]) [1, 2, 3, 4, 5, 0] rfl
            have hD9 := hD.sub (ws' := [((a 0), .inr (8, (fX8 a (nI tx) fp__24 (nI t0__24) wd__24 (nI we__24) nu__24 na__24 (nI rd) ts (nI ru) (nI rw) (nI ca) df db sd))), (aI k (a 5) 240 ftext), (aI k (a 25) 4 (nF bm__24)), (aI k (a 26) 48 fbarSeen__24), (aI k (a 27) 48 fbarFrom__24), (aI k (a 28) 4 f_10)]) [1, 2, 3, 4, 5, 0] (by decide) rfl
            exact W.iret (v := (nI er_24)) hx hb hr (fun t ht hW => ⟨⟨(nI er_24), (t0__24, wd__24, we__24, fp__24, nu__24, na__24, bm__24, fbarSeen__24, fbarFrom__24, f_10, er_24), rfl, ⟨rfl, by omega, hw_24.2.2.2.1⟩, by rw [ht]; exact hP9, hD9⟩, hS.F ht⟩) hS.2.2 dX8_takeRule_226
          · have c_25 := (nI_eq (a := er_24) (b := 0) (by omega) (by omega)).mp c_25
            refine lv_aload_n hx hb dX8_takeRule_181 rfl (lv_at hl 3 rfl) ?_
            refine rw_i (D := D) (wr := [(aI k (a 28) 4 f_10), (aI k (a 25) 4 (nF bm__24)), (aI k (a 26) 48 fbarSeen__24), (aI k (a 27) 48 fbarFrom__24)]) (va_runV (As := []) (rest := []) ⟨hx, hb, hml, hown, hts⟩ ((m_here l D k st lo a tx t0__24 we__24 rd ru rw ca fp__24 wd__24 nu__24 na__24 ts df db sd ftext (by omega) (by omega)) H.size) (cwV 0 hts (gV tw_1120 tw_1122 tw_27 tw_87 tw_1123) rfl rfl rfl (by decide +kernel) ⟨Nat.le_of_ble_eq_true rfl, Nat.le_of_ble_eq_true rfl⟩) (pV hS hAlo hlo hP hK (va_Dlo hD hAlo) hZ [1, 2] (by decide) rfl (ci := 8) (q := (RX8, TX8, 44)) (q0 := 0) rfl rfl) rfl rfl hl.1 rfl (lv_room (Nat.le_of_ble_eq_true rfl)) dX8_takeRule_182 ⟨Nat.le_of_ble_eq_true rfl, Nat.le_of_ble_eq_true rfl⟩) hS hA hP hD [1, 2] [0, 3, 4, 5] rfl rfl (by decide) (by decide) (fun r_27 u H locs hw_27 hP hD hS => ?_)
            obtain ⟨t0__27, rfl⟩ : ∃ z, z = u := ⟨_, rfl⟩
            replace hP : va_P D classes [(aI k (a 28) 4 f_10), (aI k (a 25) 4 (nF bm__24)), (aI k (a 26) 48 fbarSeen__24), (aI k (a 27) 48 fbarFrom__24), ((a 0), .inr (8, (fX8 a (nI tx) fp__24 (nI t0__27) wd__24 (nI we__24) nu__24 na__24 (nI rd) ts (nI ru) (nI rw) (nI ca) df db sd))), (aI k (a 5) 240 ftext)] H := hP
            replace hD : va_D A [(aI k (a 28) 4 f_10), (aI k (a 25) 4 (nF bm__24)), (aI k (a 26) 48 fbarSeen__24), (aI k (a 27) 48 fbarFrom__24), ((a 0), .inr (8, (fX8 a (nI tx) fp__24 (nI t0__27) wd__24 (nI we__24) nu__24 na__24 (nI rd) ts (nI ru) (nI rw) (nI ca) df db sd))), (aI k (a 5) 240 ftext)] := hD
            try dsimp only at hw_27
            refine lv_if_lt (tgt := 192) hx hb dX8_takeRule_185 (by decide) (fun c_28 => ?_) (fun c_28 => ?_)
            · refine lv_iconst (v := 0) hx hb dX8_takeRule_192 (by decide) ?_
              refine lv_istore (lv' := [(4, .int 0), (3, .int (nI er_24)), (1, .long 131638), (0, .ref (a 0))]) hx hb dX8_takeRule_193 hl (by decide) rfl (fun ls hl => ?_)
              refine lv_goto (tgt := 104) hx hb dX8_takeRule_195 (by decide) ?_
              refine lv_iload hx hb dX8_takeRule_104 (lv_at hl 0 rfl) ?_
              refine lv_if_eq (tgt := 198) hx hb dX8_takeRule_106 (by decide) (fun _ => ?_) (fun h => absurd (by decide) h)
              refine lv_iload_n hx hb dX8_takeRule_198 rfl (lv_at hl 1 rfl) ?_
              refine lv_if_le (tgt := 206) hx hb dX8_takeRule_199 (by decide) (fun _ => ?_) (fun h => absurd ((nI_leI (a := er_24) (b := 0) (by omega) (by omega)).mpr (by omega)) h)
              refine lv_aload_n hx hb dX8_takeRule_206 rfl (lv_at hl 3 rfl) ?_
              refine rw_i (D := D) (wr := [(aI k (a 28) 4 f_10), (aI k (a 25) 4 (nF bm__24)), (aI k (a 26) 48 fbarSeen__24), (aI k (a 27) 48 fbarFrom__24)]) (va_runV (As := []) (rest := []) ⟨hx, hb, hml, hown, hts⟩ ((m_here l D k st lo a tx t0__27 we__24 rd ru rw ca fp__24 wd__24 nu__24 na__24 ts df db sd ftext (by omega) (by omega)) H.size) (cwV 0 hts (gV tw_1120 tw_1122 tw_27 tw_87 tw_1123) rfl rfl rfl (by decide +kernel) ⟨Nat.le_of_ble_eq_true rfl, Nat.le_of_ble_eq_true rfl⟩) (pV hS hAlo hlo hP hK (va_Dlo hD hAlo) hZ [4, 5] (by decide) rfl (ci := 8) (q := (RX8, TX8, 44)) (q0 := 0) rfl rfl) rfl rfl hl.1 rfl (lv_room (Nat.le_of_ble_eq_true rfl)) dX8_takeRule_207 ⟨Nat.le_of_ble_eq_true rfl, Nat.le_of_ble_eq_true rfl⟩) hS hA hP hD [4, 5] [0, 1, 2, 3] rfl rfl (by decide) (by decide) (fun r_30 u H locs hw_30 hP hD hS => ?_)
              obtain ⟨t0__30, rfl⟩ : ∃ z, z = u := ⟨_, rfl⟩
              replace hP : va_P D classes [(aI k (a 28) 4 f_10), (aI k (a 25) 4 (nF bm__24)), (aI k (a 26) 48 fbarSeen__24), (aI k (a 27) 48 fbarFrom__24), ((a 0), .inr (8, (fX8 a (nI tx) fp__24 (nI t0__30) wd__24 (nI we__24) nu__24 na__24 (nI rd) ts (nI ru) (nI rw) (nI ca) df db sd))), (aI k (a 5) 240 ftext)] H := hP
              replace hD : va_D A [(aI k (a 28) 4 f_10), (aI k (a 25) 4 (nF bm__24)), (aI k (a 26) 48 fbarSeen__24), (aI k (a 27) 48 fbarFrom__24), ((a 0), .inr (8, (fX8 a (nI tx) fp__24 (nI t0__30) wd__24 (nI we__24) nu__24 na__24 (nI rd) ts (nI ru) (nI rw) (nI ca) df db sd))), (aI k (a 5) 240 ftext)] := hD
              try dsimp only at hw_30
              refine lv_if_lt (tgt := 225) hx hb dX8_takeRule_210 (by decide) (fun c_31 => ?_) (fun c_31 => ?_)
              · refine lv_iconst (v := 0) hx hb dX8_takeRule_225 (by decide) ?_
                have hP9 := hP.sub (ws' := [((a 0), .inr (8, (fX8 a (nI tx) fp__24 (nI t0__30) wd__24 (nI we__24) nu__24 na__24 (nI rd) ts (nI ru) (nI rw) (nI ca) df db sd))), (aI k (a 5) 240 ftext), (aI k (a 25) 4 (nF bm__24)), (aI k (a 26) 48 fbarSeen__24), (aI k (a 27) 48 fbarFrom__24), (aI k (a 28) 4 f_10)]) [4, 5, 1, 2, 3, 0] rfl
                have hD9 := hD.sub (ws' := [((a 0), .inr (8, (fX8 a (nI tx) fp__24 (nI t0__30) wd__24 (nI we__24) nu__24 na__24 (nI rd) ts (nI ru) (nI rw) (nI ca) df db sd))), (aI k (a 5) 240 ftext), (aI k (a 25) 4 (nF bm__24)), (aI k (a 26) 48 fbarSeen__24), (aI k (a 27) 48 fbarFrom__24), (aI k (a 28) 4 f_10)]) [4, 5, 1, 2, 3, 0] (by decide) rfl
                exact W.iret (v := 0) hx hb hr (fun t ht hW => ⟨⟨0, (t0__30, wd__24, we__24, fp__24, nu__24, na__24, bm__24, fbarSeen__24, fbarFrom__24, f_10, 0), rfl, ⟨rfl, by omega, hw_24.2.2.2.1⟩, by rw [ht]; exact hP9, hD9⟩, hS.F ht⟩) hS.2.2 dX8_takeRule_226
              · refine lv_aload_n hx hb dX8_takeRule_213 rfl (lv_at hl 3 rfl) ?_
                refine lv_iconst (v := 1) hx hb dX8_takeRule_214 (by decide) ?_
                refine lv_aload_n hx hb dX8_takeRule_215 rfl (lv_at hl 3 rfl) ?_
                refine va_get (D := D) (ci := 8) (v := .int (nI t0__30)) (C := RX8) (T := TX8) (N := 44) hx hb hts inX8 hown hK hP 4 rfl rfl 7 (by decide) (hts _ tw_980) (fun _ h9 => h9) rfl dX8_takeRule_216 ?_
                refine rw_i (D := D) (wr := [(aI k (a 28) 4 f_10), (aI k (a 25) 4 (nF bm__24)), (aI k (a 26) 48 fbarSeen__24), (aI k (a 27) 48 fbarFrom__24), (aI k (a 5) 240 ftext)]) (va_runV (As := [.int 1, .int (nI t0__30)]) (rest := []) ⟨hx, hb, hml, hown, hts⟩ ((m_fails l D k st lo a tx t0__30 we__24 rd ru rw ca fp__24 wd__24 nu__24 na__24 ts df db sd 1 (nI t0__30)) H.size) (cwV 2 hts (gV tw_1151 tw_1153 tw_31 tw_87 tw_1154) rfl rfl rfl (by decide +kernel) ⟨Nat.le_of_ble_eq_true rfl, Nat.le_of_ble_eq_true rfl⟩) (pV hS hAlo hlo hP hK (va_Dlo hD hAlo) hZ [4] (by decide) rfl (ci := 8) (q := (RX8, TX8, 44)) (q0 := 0) rfl rfl) rfl rfl hl.1 rfl (lv_room (Nat.le_of_ble_eq_true rfl)) dX8_takeRule_219 ⟨Nat.le_of_ble_eq_true rfl, Nat.le_of_ble_eq_true rfl⟩) hS hA hP hD [4] [0, 1, 2, 3, 5] rfl rfl (by decide) (by decide) (fun r_32 u H locs hw_32 hP hD hS => ?_)
                obtain ⟨fp__32, rfl⟩ : ∃ z, z = u := ⟨_, rfl⟩
                replace hP : va_P D classes [(aI k (a 28) 4 f_10), (aI k (a 25) 4 (nF bm__24)), (aI k (a 26) 48 fbarSeen__24), (aI k (a 27) 48 fbarFrom__24), (aI k (a 5) 240 ftext), ((a 0), .inr (8, (fX8 a (nI tx) fp__32 (nI t0__30) wd__24 (nI we__24) nu__24 na__24 (nI rd) ts (nI ru) (nI rw) (nI ca) df db sd)))] H := hP
                replace hD : va_D A [(aI k (a 28) 4 f_10), (aI k (a 25) 4 (nF bm__24)), (aI k (a 26) 48 fbarSeen__24), (aI k (a 27) 48 fbarFrom__24), (aI k (a 5) 240 ftext), ((a 0), .inr (8, (fX8 a (nI tx) fp__32 (nI t0__30) wd__24 (nI we__24) nu__24 na__24 (nI rd) ts (nI ru) (nI rw) (nI ca) df db sd)))] := hD
                try dsimp only at hw_32
                subst hw_32
                refine lv_goto (tgt := 226) hx hb dX8_takeRule_222 (by decide) ?_
                have hP9 := hP.sub (ws' := [((a 0), .inr (8, (fX8 a (nI tx) fp__32 (nI t0__30) wd__24 (nI we__24) nu__24 na__24 (nI rd) ts (nI ru) (nI rw) (nI ca) df db sd))), (aI k (a 5) 240 ftext), (aI k (a 25) 4 (nF bm__24)), (aI k (a 26) 48 fbarSeen__24), (aI k (a 27) 48 fbarFrom__24), (aI k (a 28) 4 f_10)]) [5, 4, 1, 2, 3, 0] rfl
                have hD9 := hD.sub (ws' := [((a 0), .inr (8, (fX8 a (nI tx) fp__32 (nI t0__30) wd__24 (nI we__24) nu__24 na__24 (nI rd) ts (nI ru) (nI rw) (nI ca) df db sd))), (aI k (a 5) 240 ftext), (aI k (a 25) 4 (nF bm__24)), (aI k (a 26) 48 fbarSeen__24), (aI k (a 27) 48 fbarFrom__24), (aI k (a 28) 4 f_10)]) [5, 4, 1, 2, 3, 0] (by decide) rfl
                exact W.iret (v := 1) hx hb hr (fun t ht hW => ⟨⟨1, (t0__30, wd__24, we__24, fp__32, nu__24, na__24, bm__24, fbarSeen__24, fbarFrom__24, f_10, 1), rfl, ⟨rfl, by omega, hw_24.2.2.2.1⟩, by rw [ht]; exact hP9, hD9⟩, hS.F ht⟩) hS.2.2 dX8_takeRule_226
            · refine lv_iconst (v := 1) hx hb dX8_takeRule_188 (by decide) ?_
              refine lv_goto (tgt := 193) hx hb dX8_takeRule_189 (by decide) ?_
              refine lv_istore (lv' := [(4, .int 1), (3, .int (nI er_24)), (1, .long 131638), (0, .ref (a 0))]) hx hb dX8_takeRule_193 hl (by decide) rfl (fun ls hl => ?_)
              refine lv_goto (tgt := 104) hx hb dX8_takeRule_195 (by decide) ?_
              exact ih_19 _ (t0__27, wd__24, we__24, fp__24, nu__24, na__24, fbarSeen__24, fbarFrom__24, bm__24) _ _ _ (by omega) ⟨rfl, ⟨by omega, by omega, by omega, hw_24.2.2.2.1⟩, (hP.sub [1, 2, 3, 0, 4, 5] rfl), (hD.sub [1, 2, 3, 0, 4, 5] (by decide) rfl), hS, (lv_sub hl [0, 2, 3] rfl)⟩
        · refine lv_aload_n hx hb dX8_takeRule_137 rfl (lv_at hl 2 rfl) ?_
          refine lv_aload_n hx hb dX8_takeRule_138 rfl (lv_at hl 2 rfl) ?_
          refine va_get (D := D) (ci := 8) (v := .int (nI we__20)) (C := RX8) (T := TX8) (N := 44) hx hb hts inX8 hown hK hP 4 rfl rfl 9 (by decide) (hts _ tw_982) (fun _ h9 => h9) rfl dX8_takeRule_139 ?_
          refine va_put (D := D) (ci := 8) (v := .int (nI we__20)) (ty := .int) (C := RX8) (T := TX8) (N := 44) hx hb hts inX8 tyX8 tyX8_ok nmX8 hown hK hP hD hS 4 rfl rfl 7 (by decide) (hts _ tw_980) (fun _ h9 => h9) rfl (by decide +kernel) rfl rfl (Nat.le_of_ble_eq_true rfl) dX8_takeRule_142 (fun H locs hP hD hS => ?_)
          replace hP : va_P D classes [(aI k (a 25) 4 (nF b2_19)), (aI k (a 26) 48 fs2_19), (aI k (a 27) 48 ff2_19), (aI k (a 28) 4 f_10), ((a 0), .inr (8, (fX8 a (nI tx) fp2_19 (nI we__20) wd__20 (nI we__20) nu2_19 na2_19 (nI rd) ts (nI ru) (nI rw) (nI ca) df db sd))), (aI k (a 5) 240 ftext)] H := hP
          replace hD : va_D A [(aI k (a 25) 4 (nF b2_19)), (aI k (a 26) 48 fs2_19), (aI k (a 27) 48 ff2_19), (aI k (a 28) 4 f_10), ((a 0), .inr (8, (fX8 a (nI tx) fp2_19 (nI we__20) wd__20 (nI we__20) nu2_19 na2_19 (nI rd) ts (nI ru) (nI rw) (nI ca) df db sd))), (aI k (a 5) 240 ftext)] := hD
          refine lv_aload_n hx hb dX8_takeRule_145 rfl (lv_at hl 2 rfl) ?_
          refine lv_iconst (v := 0) hx hb dX8_takeRule_146 (by decide) ?_
          refine lv_iconst (v := 3) hx hb dX8_takeRule_147 (by decide) ?_
          refine rw_i (D := D) (wr := [(aI k (a 25) 4 (nF b2_19)), (aI k (a 26) 48 fs2_19), (aI k (a 27) 48 ff2_19), (aI k (a 28) 4 f_10)]) (va_runV (As := [.int 0, .int 3]) (rest := []) ⟨hx, hb, hml, hown, hts⟩ ((m_takeNumber l D k st lo a tx we__20 we__20 rd ru rw ca fp2_19 wd__20 nu2_19 na2_19 ts df db sd ftext 0 3 (by omega) (by omega)) H.size) (cwV 2 hts (gV tw_1159 tw_1161 tw_33 tw_87 tw_1162) rfl rfl rfl (by decide +kernel) ⟨Nat.le_of_ble_eq_true rfl, Nat.le_of_ble_eq_true rfl⟩) (pV hS hAlo hlo hP hK (va_Dlo hD hAlo) hZ [4, 5] (by decide) rfl (ci := 8) (q := (RX8, TX8, 44)) (q0 := 0) rfl rfl) rfl rfl hl.1 rfl (lv_room (Nat.le_of_ble_eq_true rfl)) dX8_takeRule_148 ⟨Nat.le_of_ble_eq_true rfl, Nat.le_of_ble_eq_true rfl⟩) hS hA hP hD [4, 5] [0, 1, 2, 3] rfl rfl (by decide) (by decide) (fun r_33 u H locs hw_33 hP hD hS => ?_)
          obtain ⟨t0__33, nu__33, na__33, fp__33, er_33⟩ := u
          replace hP : va_P D classes [(aI k (a 25) 4 (nF b2_19)), (aI k (a 26) 48 fs2_19), (aI k (a 27) 48 ff2_19), (aI k (a 28) 4 f_10), ((a 0), .inr (8, (fX8 a (nI tx) fp__33 (nI t0__33) wd__20 (nI we__20) nu__33 na__33 (nI rd) ts (nI ru) (nI rw) (nI ca) df db sd))), (aI k (a 5) 240 ftext)] H := hP
          replace hD : va_D A [(aI k (a 25) 4 (nF b2_19)), (aI k (a 26) 48 fs2_19), (aI k (a 27) 48 ff2_19), (aI k (a 28) 4 f_10), ((a 0), .inr (8, (fX8 a (nI tx) fp__33 (nI t0__33) wd__20 (nI we__20) nu__33 na__33 (nI rd) ts (nI ru) (nI rw) (nI ca) df db sd))), (aI k (a 5) 240 ftext)] := hD
          try dsimp only at hw_33
          obtain ⟨rfl, hw_33⟩ := hw_33
          refine lv_istore_n (lv' := [(3, .int (nI er_33)), (4, .int 1), (1, .long 131638), (0, .ref (a 0))]) hx hb dX8_takeRule_151 rfl hl (by decide) rfl (fun ls hl => ?_)
          refine lv_aload_n hx hb dX8_takeRule_152 rfl (lv_at hl 3 rfl) ?_
          refine va_get (D := D) (ci := 8) (v := .ref (a 28)) (C := RX8) (T := TX8) (N := 44) hx hb hts inX8 hown hK hP 4 rfl rfl 27 (by decide) (hts _ tw_1000) (fun _ h9 => h9) rfl dX8_takeRule_153 ?_
          refine lv_aload_n hx hb dX8_takeRule_156 rfl (lv_at hl 3 rfl) ?_
          refine va_get (D := D) (ci := 8) (v := .int (nI ru)) (C := RX8) (T := TX8) (N := 44) hx hb hts inX8 hown hK hP 4 rfl rfl 23 (by decide) (hts _ tw_996) (fun _ h9 => h9) rfl dX8_takeRule_157 ?_
          refine lv_aload_n hx hb dX8_takeRule_160 rfl (lv_at hl 3 rfl) ?_
          refine va_get (D := D) (ci := 8) (v := .int nu__33) (C := RX8) (T := TX8) (N := 44) hx hb hts inX8 hown hK hP 4 rfl rfl 10 (by decide) (hts _ tw_983) (fun _ h9 => h9) rfl dX8_takeRule_161 ?_
          refine va_iast hx hb hK hP hD hS 3 1 rfl rfl (vp_in_nI (by omega) (by decide)) dX8_takeRule_164 (fun H locs hP hD hS => ?_)
          replace hP : va_P D classes [(aI k (a 25) 4 (nF b2_19)), (aI k (a 26) 48 fs2_19), (aI k (a 27) 48 ff2_19), (aI k (a 28) 4 (upd f_10 (Int32.toNatClampNeg (nI ru)) nu__33)), ((a 0), .inr (8, (fX8 a (nI tx) fp__33 (nI t0__33) wd__20 (nI we__20) nu__33 na__33 (nI rd) ts (nI ru) (nI rw) (nI ca) df db sd))), (aI k (a 5) 240 ftext)] H := hP
          replace hD : va_D A [(aI k (a 25) 4 (nF b2_19)), (aI k (a 26) 48 fs2_19), (aI k (a 27) 48 ff2_19), (aI k (a 28) 4 (upd f_10 (Int32.toNatClampNeg (nI ru)) nu__33)), ((a 0), .inr (8, (fX8 a (nI tx) fp__33 (nI t0__33) wd__20 (nI we__20) nu__33 na__33 (nI rd) ts (nI ru) (nI rw) (nI ca) df db sd))), (aI k (a 5) 240 ftext)] := hD
          generalize (upd f_10 (Int32.toNatClampNeg (nI ru)) nu__33) = f_34 at hP hD
          refine lv_iconst (v := 0) hx hb dX8_takeRule_165 (by decide) ?_
          refine lv_istore (lv' := [(4, .int 0), (3, .int (nI er_33)), (1, .long 131638), (0, .ref (a 0))]) hx hb dX8_takeRule_166 hl (by decide) rfl (fun ls hl => ?_)
          refine lv_goto (tgt := 104) hx hb dX8_takeRule_168 (by decide) ?_
          refine lv_iload hx hb dX8_takeRule_104 (lv_at hl 0 rfl) ?_
          refine lv_if_eq (tgt := 198) hx hb dX8_takeRule_106 (by decide) (fun _ => ?_) (fun h => absurd (by decide) h)
          refine lv_iload_n hx hb dX8_takeRule_198 rfl (lv_at hl 1 rfl) ?_
          refine lv_if_le (tgt := 206) hx hb dX8_takeRule_199 (by decide) (fun c_35 => ?_) (fun c_35 => ?_)
          · have c_35 := (nI_leI (a := er_33) (b := 0) (by omega) (by omega)).mp c_35
            refine lv_aload_n hx hb dX8_takeRule_206 rfl (lv_at hl 3 rfl) ?_
            refine rw_i (D := D) (wr := [(aI k (a 25) 4 (nF b2_19)), (aI k (a 26) 48 fs2_19), (aI k (a 27) 48 ff2_19), (aI k (a 28) 4 f_34)]) (va_runV (As := []) (rest := []) ⟨hx, hb, hml, hown, hts⟩ ((m_here l D k st lo a tx t0__33 we__20 rd ru rw ca fp__33 wd__20 nu__33 na__33 ts df db sd ftext (by omega) (by omega)) H.size) (cwV 0 hts (gV tw_1120 tw_1122 tw_27 tw_87 tw_1123) rfl rfl rfl (by decide +kernel) ⟨Nat.le_of_ble_eq_true rfl, Nat.le_of_ble_eq_true rfl⟩) (pV hS hAlo hlo hP hK (va_Dlo hD hAlo) hZ [4, 5] (by decide) rfl (ci := 8) (q := (RX8, TX8, 44)) (q0 := 0) rfl rfl) rfl rfl hl.1 rfl (lv_room (Nat.le_of_ble_eq_true rfl)) dX8_takeRule_207 ⟨Nat.le_of_ble_eq_true rfl, Nat.le_of_ble_eq_true rfl⟩) hS hA hP hD [4, 5] [0, 1, 2, 3] rfl rfl (by decide) (by decide) (fun r_36 u H locs hw_36 hP hD hS => ?_)
            obtain ⟨t0__36, rfl⟩ : ∃ z, z = u := ⟨_, rfl⟩
            replace hP : va_P D classes [(aI k (a 25) 4 (nF b2_19)), (aI k (a 26) 48 fs2_19), (aI k (a 27) 48 ff2_19), (aI k (a 28) 4 f_34), ((a 0), .inr (8, (fX8 a (nI tx) fp__33 (nI t0__36) wd__20 (nI we__20) nu__33 na__33 (nI rd) ts (nI ru) (nI rw) (nI ca) df db sd))), (aI k (a 5) 240 ftext)] H := hP
            replace hD : va_D A [(aI k (a 25) 4 (nF b2_19)), (aI k (a 26) 48 fs2_19), (aI k (a 27) 48 ff2_19), (aI k (a 28) 4 f_34), ((a 0), .inr (8, (fX8 a (nI tx) fp__33 (nI t0__36) wd__20 (nI we__20) nu__33 na__33 (nI rd) ts (nI ru) (nI rw) (nI ca) df db sd))), (aI k (a 5) 240 ftext)] := hD
            try dsimp only at hw_36
            refine lv_if_lt (tgt := 225) hx hb dX8_takeRule_210 (by decide) (fun c_37 => ?_) (fun c_37 => ?_)
            · refine lv_iconst (v := 0) hx hb dX8_takeRule_225 (by decide) ?_
              have hP9 := hP.sub (ws' := [((a 0), .inr (8, (fX8 a (nI tx) fp__33 (nI t0__36) wd__20 (nI we__20) nu__33 na__33 (nI rd) ts (nI ru) (nI rw) (nI ca) df db sd))), (aI k (a 5) 240 ftext), (aI k (a 25) 4 (nF b2_19)), (aI k (a 26) 48 fs2_19), (aI k (a 27) 48 ff2_19), (aI k (a 28) 4 f_34)]) [4, 5, 0, 1, 2, 3] rfl
              have hD9 := hD.sub (ws' := [((a 0), .inr (8, (fX8 a (nI tx) fp__33 (nI t0__36) wd__20 (nI we__20) nu__33 na__33 (nI rd) ts (nI ru) (nI rw) (nI ca) df db sd))), (aI k (a 5) 240 ftext), (aI k (a 25) 4 (nF b2_19)), (aI k (a 26) 48 fs2_19), (aI k (a 27) 48 ff2_19), (aI k (a 28) 4 f_34)]) [4, 5, 0, 1, 2, 3] (by decide) rfl
              exact W.iret (v := 0) hx hb hr (fun t ht hW => ⟨⟨0, (t0__36, wd__20, we__20, fp__33, nu__33, na__33, b2_19, fs2_19, ff2_19, f_34, 0), rfl, ⟨rfl, by omega, hbl_19⟩, by rw [ht]; exact hP9, hD9⟩, hS.F ht⟩) hS.2.2 dX8_takeRule_226
            · refine lv_aload_n hx hb dX8_takeRule_213 rfl (lv_at hl 3 rfl) ?_
              refine lv_iconst (v := 1) hx hb dX8_takeRule_214 (by decide) ?_
              refine lv_aload_n hx hb dX8_takeRule_215 rfl (lv_at hl 3 rfl) ?_
              refine va_get (D := D) (ci := 8) (v := .int (nI t0__36)) (C := RX8) (T := TX8) (N := 44) hx hb hts inX8 hown hK hP 4 rfl rfl 7 (by decide) (hts _ tw_980) (fun _ h9 => h9) rfl dX8_takeRule_216 ?_
              refine rw_i (D := D) (wr := [(aI k (a 25) 4 (nF b2_19)), (aI k (a 26) 48 fs2_19), (aI k (a 27) 48 ff2_19), (aI k (a 28) 4 f_34), (aI k (a 5) 240 ftext)]) (va_runV (As := [.int 1, .int (nI t0__36)]) (rest := []) ⟨hx, hb, hml, hown, hts⟩ ((m_fails l D k st lo a tx t0__36 we__20 rd ru rw ca fp__33 wd__20 nu__33 na__33 ts df db sd 1 (nI t0__36)) H.size) (cwV 2 hts (gV tw_1151 tw_1153 tw_31 tw_87 tw_1154) rfl rfl rfl (by decide +kernel) ⟨Nat.le_of_ble_eq_true rfl, Nat.le_of_ble_eq_true rfl⟩) (pV hS hAlo hlo hP hK (va_Dlo hD hAlo) hZ [4] (by decide) rfl (ci := 8) (q := (RX8, TX8, 44)) (q0 := 0) rfl rfl) rfl rfl hl.1 rfl (lv_room (Nat.le_of_ble_eq_true rfl)) dX8_takeRule_219 ⟨Nat.le_of_ble_eq_true rfl, Nat.le_of_ble_eq_true rfl⟩) hS hA hP hD [4] [0, 1, 2, 3, 5] rfl rfl (by decide) (by decide) (fun r_38 u H locs hw_38 hP hD hS => ?_)
              obtain ⟨fp__38, rfl⟩ : ∃ z, z = u := ⟨_, rfl⟩
              replace hP : va_P D classes [(aI k (a 25) 4 (nF b2_19)), (aI k (a 26) 48 fs2_19), (aI k (a 27) 48 ff2_19), (aI k (a 28) 4 f_34), (aI k (a 5) 240 ftext), ((a 0), .inr (8, (fX8 a (nI tx) fp__38 (nI t0__36) wd__20 (nI we__20) nu__33 na__33 (nI rd) ts (nI ru) (nI rw) (nI ca) df db sd)))] H := hP
              replace hD : va_D A [(aI k (a 25) 4 (nF b2_19)), (aI k (a 26) 48 fs2_19), (aI k (a 27) 48 ff2_19), (aI k (a 28) 4 f_34), (aI k (a 5) 240 ftext), ((a 0), .inr (8, (fX8 a (nI tx) fp__38 (nI t0__36) wd__20 (nI we__20) nu__33 na__33 (nI rd) ts (nI ru) (nI rw) (nI ca) df db sd)))] := hD
              try dsimp only at hw_38
              subst hw_38
              refine lv_goto (tgt := 226) hx hb dX8_takeRule_222 (by decide) ?_
              have hP9 := hP.sub (ws' := [((a 0), .inr (8, (fX8 a (nI tx) fp__38 (nI t0__36) wd__20 (nI we__20) nu__33 na__33 (nI rd) ts (nI ru) (nI rw) (nI ca) df db sd))), (aI k (a 5) 240 ftext), (aI k (a 25) 4 (nF b2_19)), (aI k (a 26) 48 fs2_19), (aI k (a 27) 48 ff2_19), (aI k (a 28) 4 f_34)]) [5, 4, 0, 1, 2, 3] rfl
              have hD9 := hD.sub (ws' := [((a 0), .inr (8, (fX8 a (nI tx) fp__38 (nI t0__36) wd__20 (nI we__20) nu__33 na__33 (nI rd) ts (nI ru) (nI rw) (nI ca) df db sd))), (aI k (a 5) 240 ftext), (aI k (a 25) 4 (nF b2_19)), (aI k (a 26) 48 fs2_19), (aI k (a 27) 48 ff2_19), (aI k (a 28) 4 f_34)]) [5, 4, 0, 1, 2, 3] (by decide) rfl
              exact W.iret (v := 1) hx hb hr (fun t ht hW => ⟨⟨1, (t0__36, wd__20, we__20, fp__38, nu__33, na__33, b2_19, fs2_19, ff2_19, f_34, 1), rfl, ⟨rfl, by omega, hbl_19⟩, by rw [ht]; exact hP9, hD9⟩, hS.F ht⟩) hS.2.2 dX8_takeRule_226
          · have c_35 : ¬ (er_33 ≤ 0) := fun h => c_35 ((nI_leI (a := er_33) (b := 0) (by omega) (by omega)).mpr h)
            refine lv_iload_n hx hb dX8_takeRule_202 rfl (lv_at hl 1 rfl) ?_
            refine lv_goto (tgt := 226) hx hb dX8_takeRule_203 (by decide) ?_
            have hP9 := hP.sub (ws' := [((a 0), .inr (8, (fX8 a (nI tx) fp__33 (nI t0__33) wd__20 (nI we__20) nu__33 na__33 (nI rd) ts (nI ru) (nI rw) (nI ca) df db sd))), (aI k (a 5) 240 ftext), (aI k (a 25) 4 (nF b2_19)), (aI k (a 26) 48 fs2_19), (aI k (a 27) 48 ff2_19), (aI k (a 28) 4 f_34)]) [4, 5, 0, 1, 2, 3] rfl
            have hD9 := hD.sub (ws' := [((a 0), .inr (8, (fX8 a (nI tx) fp__33 (nI t0__33) wd__20 (nI we__20) nu__33 na__33 (nI rd) ts (nI ru) (nI rw) (nI ca) df db sd))), (aI k (a 5) 240 ftext), (aI k (a 25) 4 (nF b2_19)), (aI k (a 26) 48 fs2_19), (aI k (a 27) 48 ff2_19), (aI k (a 28) 4 f_34)]) [4, 5, 0, 1, 2, 3] (by decide) rfl
            exact W.iret (v := (nI er_33)) hx hb hr (fun t ht hW => ⟨⟨(nI er_33), (t0__33, wd__20, we__20, fp__33, nu__33, na__33, b2_19, fs2_19, ff2_19, f_34, er_33), rfl, ⟨rfl, by omega, hbl_19⟩, by rw [ht]; exact hP9, hD9⟩, hS.F ht⟩) hS.2.2 dX8_takeRule_226
  · have c_4 : ¬ (er_3 ≤ 0) := fun h => c_4 ((nI_leI (a := er_3) (b := 0) (by omega) (by omega)).mpr h)
    refine lv_iload_n hx hb dX8_takeRule_25 rfl (lv_at hl 0 rfl) ?_
    refine lv_goto (tgt := 36) hx hb dX8_takeRule_26 (by decide) ?_
    refine lv_istore_n (lv' := [(3, .int (nI er_3)), (1, .long 131638), (0, .ref (a 0))]) hx hb dX8_takeRule_36 rfl hl (by decide) rfl (fun ls hl => ?_)
    refine lv_aload_n hx hb dX8_takeRule_37 rfl (lv_at hl 2 rfl) ?_
    refine va_get (D := D) (ci := 8) (v := .ref (a 26)) (C := RX8) (T := TX8) (N := 44) hx hb hts inX8 hown hK hP 4 rfl rfl 25 (by decide) (hts _ tw_998) (fun _ h9 => h9) rfl dX8_takeRule_38 ?_
    refine lv_bipush (v := 12) hx hb dX8_takeRule_41 (by decide) ?_
    refine lv_aload_n hx hb dX8_takeRule_43 rfl (lv_at hl 2 rfl) ?_
    refine va_get (D := D) (ci := 8) (v := .int (nI ru)) (C := RX8) (T := TX8) (N := 44) hx hb hts inX8 hown hK hP 4 rfl rfl 23 (by decide) (hts _ tw_996) (fun _ h9 => h9) rfl dX8_takeRule_44 ?_
    refine lv_imul hx hb dX8_takeRule_47 ?_
    refine lv_ti (y := (nI (12 * ru))) (pk_mul 12 ru) ?_
    refine lv_iconst (v := 0) hx hb dX8_takeRule_48 (by decide) ?_
    refine va_iast hx hb hK hP hD hS 1 1 rfl rfl (vp_in_nI (by omega) (by decide)) dX8_takeRule_49 (fun H locs hP hD hS => ?_)
    replace hP : va_P D classes [(aI k (a 25) 4 (nF bm)), (aI k (a 26) 48 (upd fbarSeen (Int32.toNatClampNeg (nI (12 * ru))) 0)), (aI k (a 27) 48 fbarFrom), (aI k (a 28) 4 fruleRounds), ((a 0), .inr (8, (fX8 a (nI tx) fp__3 (nI t0__3) wd__3 (nI we__3) nu na (nI rd) ts (nI ru) (nI rw) (nI ca) df db sd))), (aI k (a 5) 240 ftext)] H := hP
    replace hD : va_D A [(aI k (a 25) 4 (nF bm)), (aI k (a 26) 48 (upd fbarSeen (Int32.toNatClampNeg (nI (12 * ru))) 0)), (aI k (a 27) 48 fbarFrom), (aI k (a 28) 4 fruleRounds), ((a 0), .inr (8, (fX8 a (nI tx) fp__3 (nI t0__3) wd__3 (nI we__3) nu na (nI rd) ts (nI ru) (nI rw) (nI ca) df db sd))), (aI k (a 5) 240 ftext)] := hD
    generalize (upd fbarSeen (Int32.toNatClampNeg (nI (12 * ru))) 0) = f_39 at hP hD
    refine lv_aload_n hx hb dX8_takeRule_50 rfl (lv_at hl 2 rfl) ?_
    refine va_get (D := D) (ci := 8) (v := .ref (a 27)) (C := RX8) (T := TX8) (N := 44) hx hb hts inX8 hown hK hP 4 rfl rfl 26 (by decide) (hts _ tw_999) (fun _ h9 => h9) rfl dX8_takeRule_51 ?_
    refine lv_bipush (v := 12) hx hb dX8_takeRule_54 (by decide) ?_
    refine lv_aload_n hx hb dX8_takeRule_56 rfl (lv_at hl 2 rfl) ?_
    refine va_get (D := D) (ci := 8) (v := .int (nI ru)) (C := RX8) (T := TX8) (N := 44) hx hb hts inX8 hown hK hP 4 rfl rfl 23 (by decide) (hts _ tw_996) (fun _ h9 => h9) rfl dX8_takeRule_57 ?_
    refine lv_imul hx hb dX8_takeRule_60 ?_
    refine lv_ti (y := (nI (12 * ru))) (pk_mul 12 ru) ?_
    refine lv_aload_n hx hb dX8_takeRule_61 rfl (lv_at hl 2 rfl) ?_
    refine va_get (D := D) (ci := 8) (v := .int nu) (C := RX8) (T := TX8) (N := 44) hx hb hts inX8 hown hK hP 4 rfl rfl 10 (by decide) (hts _ tw_983) (fun _ h9 => h9) rfl dX8_takeRule_62 ?_
    refine va_iast hx hb hK hP hD hS 2 1 rfl rfl (vp_in_nI (by omega) (by decide)) dX8_takeRule_65 (fun H locs hP hD hS => ?_)
    replace hP : va_P D classes [(aI k (a 25) 4 (nF bm)), (aI k (a 26) 48 f_39), (aI k (a 27) 48 (upd fbarFrom (Int32.toNatClampNeg (nI (12 * ru))) nu)), (aI k (a 28) 4 fruleRounds), ((a 0), .inr (8, (fX8 a (nI tx) fp__3 (nI t0__3) wd__3 (nI we__3) nu na (nI rd) ts (nI ru) (nI rw) (nI ca) df db sd))), (aI k (a 5) 240 ftext)] H := hP
    replace hD : va_D A [(aI k (a 25) 4 (nF bm)), (aI k (a 26) 48 f_39), (aI k (a 27) 48 (upd fbarFrom (Int32.toNatClampNeg (nI (12 * ru))) nu)), (aI k (a 28) 4 fruleRounds), ((a 0), .inr (8, (fX8 a (nI tx) fp__3 (nI t0__3) wd__3 (nI we__3) nu na (nI rd) ts (nI ru) (nI rw) (nI ca) df db sd))), (aI k (a 5) 240 ftext)] := hD
    generalize (upd fbarFrom (Int32.toNatClampNeg (nI (12 * ru))) nu) = f_40 at hP hD
    refine lv_aload_n hx hb dX8_takeRule_66 rfl (lv_at hl 2 rfl) ?_
    refine va_get (D := D) (ci := 8) (v := .ref (a 25)) (C := RX8) (T := TX8) (N := 44) hx hb hts inX8 hown hK hP 4 rfl rfl 24 (by decide) (hts _ tw_997) (fun _ h9 => h9) rfl dX8_takeRule_67 ?_
    refine lv_aload_n hx hb dX8_takeRule_70 rfl (lv_at hl 2 rfl) ?_
    refine va_get (D := D) (ci := 8) (v := .int (nI ru)) (C := RX8) (T := TX8) (N := 44) hx hb hts inX8 hown hK hP 4 rfl rfl 23 (by decide) (hts _ tw_996) (fun _ h9 => h9) rfl dX8_takeRule_71 ?_
    refine lv_iconst (v := 1) hx hb dX8_takeRule_74 (by decide) ?_
    refine va_iast hx hb hK hP hD hS 0 1 rfl rfl (vp_in_nI (by omega) (by decide)) dX8_takeRule_75 (fun H locs hP hD hS => ?_)
    replace hP : va_P D classes [(aI k (a 25) 4 (upd (nF bm) (Int32.toNatClampNeg (nI ru)) 1)), (aI k (a 26) 48 f_39), (aI k (a 27) 48 f_40), (aI k (a 28) 4 fruleRounds), ((a 0), .inr (8, (fX8 a (nI tx) fp__3 (nI t0__3) wd__3 (nI we__3) nu na (nI rd) ts (nI ru) (nI rw) (nI ca) df db sd))), (aI k (a 5) 240 ftext)] H := hP
    replace hD : va_D A [(aI k (a 25) 4 (upd (nF bm) (Int32.toNatClampNeg (nI ru)) 1)), (aI k (a 26) 48 f_39), (aI k (a 27) 48 f_40), (aI k (a 28) 4 fruleRounds), ((a 0), .inr (8, (fX8 a (nI tx) fp__3 (nI t0__3) wd__3 (nI we__3) nu na (nI rd) ts (nI ru) (nI rw) (nI ca) df db sd))), (aI k (a 5) 240 ftext)] := hD
    rw [nI_clamp (n := ru) (by omega)] at hP hD
    rw [show upd (nF bm) ru 1 = nF (fun j => if j = ru then 1 else bm j) from nF_upd _ _ _] at hP hD
    obtain ⟨d_42, hd_42⟩ : ∃ z : Nat → Nat, z = (fun j => if j = ru then 1 else bm j) := ⟨_, rfl⟩
    rw [← hd_42] at hP hD
    have hbb_42 : ∀ j, d_42 j ≤ 12 := by rw [hd_42]; exact up_le hbm (by omega)
    have hbu_42 : d_42 ru = 1 := by rw [hd_42]; exact if_pos rfl
    refine lv_aload_n hx hb dX8_takeRule_76 rfl (lv_at hl 2 rfl) ?_
    refine va_get (D := D) (ci := 8) (v := .ref (a 28)) (C := RX8) (T := TX8) (N := 44) hx hb hts inX8 hown hK hP 4 rfl rfl 27 (by decide) (hts _ tw_1000) (fun _ h9 => h9) rfl dX8_takeRule_77 ?_
    refine lv_aload_n hx hb dX8_takeRule_80 rfl (lv_at hl 2 rfl) ?_
    refine va_get (D := D) (ci := 8) (v := .int (nI ru)) (C := RX8) (T := TX8) (N := 44) hx hb hts inX8 hown hK hP 4 rfl rfl 23 (by decide) (hts _ tw_996) (fun _ h9 => h9) rfl dX8_takeRule_81 ?_
    refine lv_iconst (v := 0) hx hb dX8_takeRule_84 (by decide) ?_
    refine va_iast hx hb hK hP hD hS 3 1 rfl rfl (vp_in_nI (by omega) (by decide)) dX8_takeRule_85 (fun H locs hP hD hS => ?_)
    replace hP : va_P D classes [(aI k (a 25) 4 (nF d_42)), (aI k (a 26) 48 f_39), (aI k (a 27) 48 f_40), (aI k (a 28) 4 (upd fruleRounds (Int32.toNatClampNeg (nI ru)) 0)), ((a 0), .inr (8, (fX8 a (nI tx) fp__3 (nI t0__3) wd__3 (nI we__3) nu na (nI rd) ts (nI ru) (nI rw) (nI ca) df db sd))), (aI k (a 5) 240 ftext)] H := hP
    replace hD : va_D A [(aI k (a 25) 4 (nF d_42)), (aI k (a 26) 48 f_39), (aI k (a 27) 48 f_40), (aI k (a 28) 4 (upd fruleRounds (Int32.toNatClampNeg (nI ru)) 0)), ((a 0), .inr (8, (fX8 a (nI tx) fp__3 (nI t0__3) wd__3 (nI we__3) nu na (nI rd) ts (nI ru) (nI rw) (nI ca) df db sd))), (aI k (a 5) 240 ftext)] := hD
    generalize (upd fruleRounds (Int32.toNatClampNeg (nI ru)) 0) = f_43 at hP hD
    refine lv_iload_n hx hb dX8_takeRule_86 rfl (lv_at hl 0 rfl) ?_
    refine lv_if_ne (tgt := 101) hx hb dX8_takeRule_87 (by decide) (fun _ => ?_) (fun h => absurd ((nI_eq (a := er_3) (b := 0) (by omega) (by omega)).mp h) (by omega))
    refine lv_iconst (v := 0) hx hb dX8_takeRule_101 (by decide) ?_
    refine lv_istore (lv' := [(4, .int 0), (3, .int (nI er_3)), (1, .long 131638), (0, .ref (a 0))]) hx hb dX8_takeRule_102 hl (by decide) rfl (fun ls hl => ?_)
    refine lv_iload hx hb dX8_takeRule_104 (lv_at hl 0 rfl) ?_
    refine lv_if_eq (tgt := 198) hx hb dX8_takeRule_106 (by decide) (fun _ => ?_) (fun h => absurd (by decide) h)
    refine lv_iload_n hx hb dX8_takeRule_198 rfl (lv_at hl 1 rfl) ?_
    refine lv_if_le (tgt := 206) hx hb dX8_takeRule_199 (by decide) (fun h => absurd ((nI_leI (a := er_3) (b := 0) (by omega) (by omega)).mp h) (by omega)) (fun _ => ?_)
    refine lv_iload_n hx hb dX8_takeRule_202 rfl (lv_at hl 1 rfl) ?_
    refine lv_goto (tgt := 226) hx hb dX8_takeRule_203 (by decide) ?_
    have hP9 := hP.sub (ws' := [((a 0), .inr (8, (fX8 a (nI tx) fp__3 (nI t0__3) wd__3 (nI we__3) nu na (nI rd) ts (nI ru) (nI rw) (nI ca) df db sd))), (aI k (a 5) 240 ftext), (aI k (a 25) 4 (nF d_42)), (aI k (a 26) 48 f_39), (aI k (a 27) 48 f_40), (aI k (a 28) 4 f_43)]) [4, 5, 0, 1, 2, 3] rfl
    have hD9 := hD.sub (ws' := [((a 0), .inr (8, (fX8 a (nI tx) fp__3 (nI t0__3) wd__3 (nI we__3) nu na (nI rd) ts (nI ru) (nI rw) (nI ca) df db sd))), (aI k (a 5) 240 ftext), (aI k (a 25) 4 (nF d_42)), (aI k (a 26) 48 f_39), (aI k (a 27) 48 f_40), (aI k (a 28) 4 f_43)]) [4, 5, 0, 1, 2, 3] (by decide) rfl
    exact W.iret (v := (nI er_3)) hx hb hr (fun t ht hW => ⟨⟨(nI er_3), (t0__3, wd__3, we__3, fp__3, nu, na, d_42, f_39, f_40, f_43, er_3), rfl, ⟨rfl, by omega, hbb_42⟩, by rw [ht]; exact hP9, hD9⟩, hS.F ht⟩) hS.2.2 dX8_takeRule_226

theorem dX8_rule_0 : decode cX8_rule 0 = .ok (.aload_n 0, 1) := by decide +kernel
theorem dX8_rule_1 : decode cX8_rule 1 = .ok (.getfield 113, 3) := by decide +kernel
theorem dX8_rule_4 : decode cX8_rule 4 = .ok (.bipush 80, 2) := by decide +kernel
theorem dX8_rule_6 : decode cX8_rule 6 = .ok (.if_icmp .le 7, 3) := by decide +kernel
theorem dX8_rule_9 : decode cX8_rule 9 = .ok (.sipush (-1003), 3) := by decide +kernel
theorem dX8_rule_12 : decode cX8_rule 12 = .ok (.ireturn, 1) := by decide +kernel
theorem dX8_rule_13 : decode cX8_rule 13 = .ok (.aload_n 0, 1) := by decide +kernel
theorem dX8_rule_14 : decode cX8_rule 14 = .ok (.getfield 276, 3) := by decide +kernel
theorem dX8_rule_17 : decode cX8_rule 17 = .ok (.iconst 4, 1) := by decide +kernel
theorem dX8_rule_18 : decode cX8_rule 18 = .ok (.if_icmp .ne 7, 3) := by decide +kernel
theorem dX8_rule_21 : decode cX8_rule 21 = .ok (.sipush (-1004), 3) := by decide +kernel
theorem dX8_rule_24 : decode cX8_rule 24 = .ok (.ireturn, 1) := by decide +kernel
theorem dX8_rule_25 : decode cX8_rule 25 = .ok (.aload_n 0, 1) := by decide +kernel
theorem dX8_rule_26 : decode cX8_rule 26 = .ok (.iconst (-1), 1) := by decide +kernel
theorem dX8_rule_27 : decode cX8_rule 27 = .ok (.putfield 25, 3) := by decide +kernel
theorem dX8_rule_30 : decode cX8_rule 30 = .ok (.aload_n 0, 1) := by decide +kernel
theorem dX8_rule_31 : decode cX8_rule 31 = .ok (.iconst 0, 1) := by decide +kernel
theorem dX8_rule_32 : decode cX8_rule 32 = .ok (.putfield 118, 3) := by decide +kernel
theorem dX8_rule_35 : decode cX8_rule 35 = .ok (.aload_n 0, 1) := by decide +kernel
theorem dX8_rule_36 : decode cX8_rule 36 = .ok (.invokevirtual 282, 3) := by decide +kernel
theorem dX8_rule_39 : decode cX8_rule 39 = .ok (.istore_n 1, 1) := by decide +kernel
theorem dX8_rule_40 : decode cX8_rule 40 = .ok (.aload_n 0, 1) := by decide +kernel
theorem dX8_rule_41 : decode cX8_rule 41 = .ok (.iconst 0, 1) := by decide +kernel
theorem dX8_rule_42 : decode cX8_rule 42 = .ok (.putfield 113, 3) := by decide +kernel
theorem dX8_rule_45 : decode cX8_rule 45 = .ok (.iload_n 1, 1) := by decide +kernel
theorem dX8_rule_46 : decode cX8_rule 46 = .ok (.ifCond .le 8, 3) := by decide +kernel
theorem dX8_rule_49 : decode cX8_rule 49 = .ok (.bipush (-10), 2) := by decide +kernel
theorem dX8_rule_51 : decode cX8_rule 51 = .ok (.iload_n 1, 1) := by decide +kernel
theorem dX8_rule_52 : decode cX8_rule 52 = .ok (.isub, 1) := by decide +kernel
theorem dX8_rule_53 : decode cX8_rule 53 = .ok (.ireturn, 1) := by decide +kernel
theorem dX8_rule_54 : decode cX8_rule 54 = .ok (.aload_n 0, 1) := by decide +kernel
theorem dX8_rule_55 : decode cX8_rule 55 = .ok (.dup, 1) := by decide +kernel
theorem dX8_rule_56 : decode cX8_rule 56 = .ok (.getfield 276, 3) := by decide +kernel
theorem dX8_rule_59 : decode cX8_rule 59 = .ok (.iconst 1, 1) := by decide +kernel
theorem dX8_rule_60 : decode cX8_rule 60 = .ok (.iadd, 1) := by decide +kernel
theorem dX8_rule_61 : decode cX8_rule 61 = .ok (.putfield 276, 3) := by decide +kernel
theorem dX8_rule_64 : decode cX8_rule 64 = .ok (.aload_n 0, 1) := by decide +kernel
theorem dX8_rule_65 : decode cX8_rule 65 = .ok (.getfield 276, 3) := by decide +kernel
theorem dX8_rule_68 : decode cX8_rule 68 = .ok (.iconst 1, 1) := by decide +kernel
theorem dX8_rule_69 : decode cX8_rule 69 = .ok (.isub, 1) := by decide +kernel
theorem dX8_rule_70 : decode cX8_rule 70 = .ok (.ireturn, 1) := by decide +kernel
set_option maxHeartbeats 4000000 in
set_option maxRecDepth 100000 in
theorem m_rule (l : Launch) (D : va_G) (k : Nat → ClassId) (st : Nat → Nat) (lo : Nat) (a : Nat → Nat) (tx : Nat) (t0 : Nat) (we : Nat) (rd : Nat) (ru : Nat) (rw : Nat) (ca : Nat) (fp : Int32) (wd : Int64) (nu : Int32) (na : Int32) (ts : Int32) (df : Int32) (db : Int32) (sd : Int32) (ftext : Nat → Int32) (bm : Nat → Nat) (fbarSeen : Nat → Int32) (fbarFrom : Nat → Int32) (fruleRounds : Nat → Int32) (htx : tx ≤ 240) (hbm : ∀ j, bm j ≤ 12) (hru : ru ≤ 4) : CWi l D k st lo yX8_rule cX8_rule 2 (some .int) ({ frames := 5, cells := 0, slots := 0, locals := 122 }) 0 0 [.ref (a 0)] [((a 0), .inr (8, (fX8 a (nI tx) fp (nI t0) wd (nI we) nu na (nI rd) ts (nI ru) (nI rw) (nI ca) df db sd))), (aI k (a 5) 240 ftext), (aI k (a 25) 4 (nF bm)), (aI k (a 26) 48 fbarSeen), (aI k (a 27) 48 fbarFrom), (aI k (a 28) 4 fruleRounds)] (fun (r : Int32) (u : Nat × Int64 × Nat × Int32 × Int32 × Int32 × Nat × Nat × (Nat → Nat) × (Nat → Int32) × (Nat → Int32) × (Nat → Int32)) => match u with | (t0_, wd_, we_, fp_, nu_, na_, tx_, ru_, bm_, fbarSeen_, fbarFrom_, fruleRounds_) => tx_ ≤ 240 ∧ ru_ ≤ 4 ∧ (∀ j, bm_ j ≤ 12)) (fun (u : Nat × Int64 × Nat × Int32 × Int32 × Int32 × Nat × Nat × (Nat → Nat) × (Nat → Int32) × (Nat → Int32) × (Nat → Int32)) => match u with | (t0_, wd_, we_, fp_, nu_, na_, tx_, ru_, bm_, fbarSeen_, fbarFrom_, fruleRounds_) => [((a 0), .inr (8, (fX8 a (nI tx_) fp_ (nI t0_) wd_ (nI we_) nu_ na_ (nI rd) ts (nI ru_) (nI rw) (nI ca) df db sd))), (aI k (a 5) 240 ftext), (aI k (a 25) 4 (nF bm_)), (aI k (a 26) 48 fbarSeen_), (aI k (a 27) 48 fbarFrom_), (aI k (a 28) 4 fruleRounds_)]) := by
  intro sz
  refine Met.ofW (cc := cX8_rule) (maxL := 2) (ret := (some .int)) (by decide) rfl ?_
  intro p e s m args below meth c s₁ B hml hv
  obtain ⟨rfl, hsz, hlo, hP, hK, hDL, hZ⟩ := hv
  have hx := B.exec
  have hb := B.bytes
  have hr := B.returns
  have hts := WS_ts B.pre
  have hown : s.vm.findClass RX8 = some m.cls := findClass_of_methodNamed B.named
  have hlocks := B.notSynchronized
  subst hsz
  have hD := hDL.self (sz := s.heap.size)
  have hAlo := A_lo hDL hlo
  generalize hAe : va_A [((a 0), .inr (8, (fX8 a (nI tx) fp (nI t0) wd (nI we) nu na (nI rd) ts (nI ru) (nI rw) (nI ca) df db sd))), (aI k (a 5) 240 ftext), (aI k (a 25) 4 (nF bm)), (aI k (a 26) 48 fbarSeen), (aI k (a 27) 48 fbarFrom), (aI k (a 28) 4 fruleRounds)] s.heap.size = A at hD hAlo ⊢
  have hA : ∀ q : Nat, s.heap.size ≤ q → A q := fun q h => by rw [← hAe]; exact Or.inr h
  have hS : va_S A s.heap s.heap [] := va_S.rf
  have hl := lv_entry ([.ref (a 0)]) (n := 2) (Nat.le_of_ble_eq_true rfl)
  rw [lg_entry_eq]
  generalize (lg_sl ([.ref (a 0)]) ++ List.replicate (2 - (lg_sl ([.ref (a 0)])).length) Slot.unset).toArray = ls at hl ⊢
  have hl : lv_has ls 2 [(0, .ref (a 0))] := hl
  refine lv_aload_n hx hb dX8_rule_0 rfl (lv_at hl 0 rfl) ?_
  refine va_get (D := D) (ci := 8) (v := .int (nI tx)) (C := RX8) (T := TX8) (N := 44) hx hb hts inX8 hown hK hP 0 rfl rfl 5 (by decide) (hts _ tw_978) (fun _ h9 => h9) rfl dX8_rule_1 ?_
  refine lv_bipush (v := 80) hx hb dX8_rule_4 (by decide) ?_
  refine lv_icmp_le (tgt := 13) hx hb dX8_rule_6 (by decide) (fun c_1 => ?_) (fun c_1 => ?_)
  · have c_1 := (nI_leI (a := tx) (b := 80) (by omega) (by omega)).mp c_1
    refine lv_aload_n hx hb dX8_rule_13 rfl (lv_at hl 0 rfl) ?_
    refine va_get (D := D) (ci := 8) (v := .int (nI ru)) (C := RX8) (T := TX8) (N := 44) hx hb hts inX8 hown hK hP 0 rfl rfl 23 (by decide) (hts _ tw_996) (fun _ h9 => h9) rfl dX8_rule_14 ?_
    refine lv_iconst (v := 4) hx hb dX8_rule_17 (by decide) ?_
    refine lv_icmp_ne (tgt := 25) hx hb dX8_rule_18 (by decide) (fun c_2 => ?_) (fun c_2 => ?_)
    · have c_2 : ¬ (ru = 4) := fun h => c_2 ((nI_eq (a := ru) (b := 4) (by omega) (by omega)).mpr h)
      refine lv_aload_n hx hb dX8_rule_25 rfl (lv_at hl 0 rfl) ?_
      refine lv_iconst (v := (-1)) hx hb dX8_rule_26 (by decide) ?_
      refine va_put (D := D) (ci := 8) (v := .int (-1)) (ty := .int) (C := RX8) (T := TX8) (N := 44) hx hb hts inX8 tyX8 tyX8_ok nmX8 hown hK hP hD hS 0 rfl rfl 6 (by decide) (hts _ tw_979) (fun _ h9 => h9) rfl (by decide +kernel) rfl rfl (Nat.le_of_ble_eq_true rfl) dX8_rule_27 (fun H locs hP hD hS => ?_)
      replace hP : va_P D classes [((a 0), .inr (8, (fX8 a (nI tx) (-1) (nI t0) wd (nI we) nu na (nI rd) ts (nI ru) (nI rw) (nI ca) df db sd))), (aI k (a 5) 240 ftext), (aI k (a 25) 4 (nF bm)), (aI k (a 26) 48 fbarSeen), (aI k (a 27) 48 fbarFrom), (aI k (a 28) 4 fruleRounds)] H := hP
      replace hD : va_D A [((a 0), .inr (8, (fX8 a (nI tx) (-1) (nI t0) wd (nI we) nu na (nI rd) ts (nI ru) (nI rw) (nI ca) df db sd))), (aI k (a 5) 240 ftext), (aI k (a 25) 4 (nF bm)), (aI k (a 26) 48 fbarSeen), (aI k (a 27) 48 fbarFrom), (aI k (a 28) 4 fruleRounds)] := hD
      refine lv_aload_n hx hb dX8_rule_30 rfl (lv_at hl 0 rfl) ?_
      refine lv_iconst (v := 0) hx hb dX8_rule_31 (by decide) ?_
      refine va_put (D := D) (ci := 8) (v := .int 0) (ty := .int) (C := RX8) (T := TX8) (N := 44) hx hb hts inX8 tyX8 tyX8_ok nmX8 hown hK hP hD hS 0 rfl rfl 7 (by decide) (hts _ tw_980) (fun _ h9 => h9) rfl (by decide +kernel) rfl rfl (Nat.le_of_ble_eq_true rfl) dX8_rule_32 (fun H locs hP hD hS => ?_)
      replace hP : va_P D classes [((a 0), .inr (8, (fX8 a (nI tx) (-1) 0 wd (nI we) nu na (nI rd) ts (nI ru) (nI rw) (nI ca) df db sd))), (aI k (a 5) 240 ftext), (aI k (a 25) 4 (nF bm)), (aI k (a 26) 48 fbarSeen), (aI k (a 27) 48 fbarFrom), (aI k (a 28) 4 fruleRounds)] H := hP
      replace hD : va_D A [((a 0), .inr (8, (fX8 a (nI tx) (-1) 0 wd (nI we) nu na (nI rd) ts (nI ru) (nI rw) (nI ca) df db sd))), (aI k (a 5) 240 ftext), (aI k (a 25) 4 (nF bm)), (aI k (a 26) 48 fbarSeen), (aI k (a 27) 48 fbarFrom), (aI k (a 28) 4 fruleRounds)] := hD
      refine lv_aload_n hx hb dX8_rule_35 rfl (lv_at hl 0 rfl) ?_
      refine rw_i (D := D) (wr := []) (va_runV (As := []) (rest := []) ⟨hx, hb, hml, hown, hts⟩ ((m_takeRule l D k st lo a tx 0 we rd ru rw ca (-1) wd nu na ts df db sd ftext bm fbarSeen fbarFrom fruleRounds (by omega) (by omega) hbm (by omega) (by omega)) H.size) (cwV 0 hts (gV tw_1309 tw_1311 tw_55 tw_87 tw_1312) rfl rfl rfl (by decide +kernel) ⟨Nat.le_of_ble_eq_true rfl, Nat.le_of_ble_eq_true rfl⟩) (pV hS hAlo hlo hP hK (va_Dlo hD hAlo) hZ [0, 1, 2, 3, 4, 5] (by decide) rfl (ci := 8) (q := (RX8, TX8, 44)) (q0 := 0) rfl rfl) rfl rfl hl.1 rfl (lv_room (Nat.le_of_ble_eq_true rfl)) dX8_rule_36 ⟨Nat.le_of_ble_eq_true rfl, Nat.le_of_ble_eq_true rfl⟩) hS hA hP hD [0, 1, 2, 3, 4, 5] [] rfl rfl (by decide) (by decide) (fun r_3 u H locs hw_3 hP hD hS => ?_)
      obtain ⟨t0__3, wd__3, we__3, fp__3, nu__3, na__3, bm__3, fbarSeen__3, fbarFrom__3, fruleRounds__3, er_3⟩ := u
      replace hP : va_P D classes [((a 0), .inr (8, (fX8 a (nI tx) fp__3 (nI t0__3) wd__3 (nI we__3) nu__3 na__3 (nI rd) ts (nI ru) (nI rw) (nI ca) df db sd))), (aI k (a 5) 240 ftext), (aI k (a 25) 4 (nF bm__3)), (aI k (a 26) 48 fbarSeen__3), (aI k (a 27) 48 fbarFrom__3), (aI k (a 28) 4 fruleRounds__3)] H := hP
      replace hD : va_D A [((a 0), .inr (8, (fX8 a (nI tx) fp__3 (nI t0__3) wd__3 (nI we__3) nu__3 na__3 (nI rd) ts (nI ru) (nI rw) (nI ca) df db sd))), (aI k (a 5) 240 ftext), (aI k (a 25) 4 (nF bm__3)), (aI k (a 26) 48 fbarSeen__3), (aI k (a 27) 48 fbarFrom__3), (aI k (a 28) 4 fruleRounds__3)] := hD
      try dsimp only at hw_3
      obtain ⟨rfl, hw_3⟩ := hw_3
      refine lv_istore_n (lv' := [(1, .int (nI er_3)), (0, .ref (a 0))]) hx hb dX8_rule_39 rfl hl (by decide) rfl (fun ls hl => ?_)
      refine lv_aload_n hx hb dX8_rule_40 rfl (lv_at hl 1 rfl) ?_
      refine lv_iconst (v := 0) hx hb dX8_rule_41 (by decide) ?_
      refine va_put (D := D) (ci := 8) (v := .int 0) (ty := .int) (C := RX8) (T := TX8) (N := 44) hx hb hts inX8 tyX8 tyX8_ok nmX8 hown hK hP hD hS 0 rfl rfl 5 (by decide) (hts _ tw_978) (fun _ h9 => h9) rfl (by decide +kernel) rfl rfl (Nat.le_of_ble_eq_true rfl) dX8_rule_42 (fun H locs hP hD hS => ?_)
      replace hP : va_P D classes [((a 0), .inr (8, (fX8 a 0 fp__3 (nI t0__3) wd__3 (nI we__3) nu__3 na__3 (nI rd) ts (nI ru) (nI rw) (nI ca) df db sd))), (aI k (a 5) 240 ftext), (aI k (a 25) 4 (nF bm__3)), (aI k (a 26) 48 fbarSeen__3), (aI k (a 27) 48 fbarFrom__3), (aI k (a 28) 4 fruleRounds__3)] H := hP
      replace hD : va_D A [((a 0), .inr (8, (fX8 a 0 fp__3 (nI t0__3) wd__3 (nI we__3) nu__3 na__3 (nI rd) ts (nI ru) (nI rw) (nI ca) df db sd))), (aI k (a 5) 240 ftext), (aI k (a 25) 4 (nF bm__3)), (aI k (a 26) 48 fbarSeen__3), (aI k (a 27) 48 fbarFrom__3), (aI k (a 28) 4 fruleRounds__3)] := hD
      refine lv_iload_n hx hb dX8_rule_45 rfl (lv_at hl 0 rfl) ?_
      refine lv_if_le (tgt := 54) hx hb dX8_rule_46 (by decide) (fun c_4 => ?_) (fun c_4 => ?_)
      · have c_4 := (nI_leI (a := er_3) (b := 0) (by omega) (by omega)).mp c_4
        refine lv_aload_n hx hb dX8_rule_54 rfl (lv_at hl 1 rfl) ?_
        refine lv_dup hx hb dX8_rule_55 rfl ?_
        refine va_get (D := D) (ci := 8) (v := .int (nI ru)) (C := RX8) (T := TX8) (N := 44) hx hb hts inX8 hown hK hP 0 rfl rfl 23 (by decide) (hts _ tw_996) (fun _ h9 => h9) rfl dX8_rule_56 ?_
        refine lv_iconst (v := 1) hx hb dX8_rule_59 (by decide) ?_
        refine lv_iadd hx hb dX8_rule_60 ?_
        refine lv_ti (y := (nI (ru + 1))) (nI_add ru 1) ?_
        refine va_put (D := D) (ci := 8) (v := .int (nI (ru + 1))) (ty := .int) (C := RX8) (T := TX8) (N := 44) hx hb hts inX8 tyX8 tyX8_ok nmX8 hown hK hP hD hS 0 rfl rfl 23 (by decide) (hts _ tw_996) (fun _ h9 => h9) rfl (by decide +kernel) rfl rfl (Nat.le_of_ble_eq_true rfl) dX8_rule_61 (fun H locs hP hD hS => ?_)
        replace hP : va_P D classes [((a 0), .inr (8, (fX8 a 0 fp__3 (nI t0__3) wd__3 (nI we__3) nu__3 na__3 (nI rd) ts (nI (ru + 1)) (nI rw) (nI ca) df db sd))), (aI k (a 5) 240 ftext), (aI k (a 25) 4 (nF bm__3)), (aI k (a 26) 48 fbarSeen__3), (aI k (a 27) 48 fbarFrom__3), (aI k (a 28) 4 fruleRounds__3)] H := hP
        replace hD : va_D A [((a 0), .inr (8, (fX8 a 0 fp__3 (nI t0__3) wd__3 (nI we__3) nu__3 na__3 (nI rd) ts (nI (ru + 1)) (nI rw) (nI ca) df db sd))), (aI k (a 5) 240 ftext), (aI k (a 25) 4 (nF bm__3)), (aI k (a 26) 48 fbarSeen__3), (aI k (a 27) 48 fbarFrom__3), (aI k (a 28) 4 fruleRounds__3)] := hD
        refine lv_aload_n hx hb dX8_rule_64 rfl (lv_at hl 1 rfl) ?_
        refine va_get (D := D) (ci := 8) (v := .int (nI (ru + 1))) (C := RX8) (T := TX8) (N := 44) hx hb hts inX8 hown hK hP 0 rfl rfl 23 (by decide) (hts _ tw_996) (fun _ h9 => h9) rfl dX8_rule_65 ?_
        refine lv_iconst (v := 1) hx hb dX8_rule_68 (by decide) ?_
        refine lv_isub hx hb dX8_rule_69 ?_
        refine lv_ti (y := (nI (ru + 1) - 1)) rfl ?_
        have hP9 := hP.sub (ws' := [((a 0), .inr (8, (fX8 a 0 fp__3 (nI t0__3) wd__3 (nI we__3) nu__3 na__3 (nI rd) ts (nI (ru + 1)) (nI rw) (nI ca) df db sd))), (aI k (a 5) 240 ftext), (aI k (a 25) 4 (nF bm__3)), (aI k (a 26) 48 fbarSeen__3), (aI k (a 27) 48 fbarFrom__3), (aI k (a 28) 4 fruleRounds__3)]) [0, 1, 2, 3, 4, 5] rfl
        have hD9 := hD.sub (ws' := [((a 0), .inr (8, (fX8 a 0 fp__3 (nI t0__3) wd__3 (nI we__3) nu__3 na__3 (nI rd) ts (nI (ru + 1)) (nI rw) (nI ca) df db sd))), (aI k (a 5) 240 ftext), (aI k (a 25) 4 (nF bm__3)), (aI k (a 26) 48 fbarSeen__3), (aI k (a 27) 48 fbarFrom__3), (aI k (a 28) 4 fruleRounds__3)]) [0, 1, 2, 3, 4, 5] (by decide) rfl
        exact W.iret (v := (nI (ru + 1) - 1)) hx hb hr (fun t ht hW => ⟨⟨(nI (ru + 1) - 1), (t0__3, wd__3, we__3, fp__3, nu__3, na__3, 0, (ru + 1), bm__3, fbarSeen__3, fbarFrom__3, fruleRounds__3), rfl, ⟨by omega, by omega, hw_3.2⟩, by rw [ht]; exact hP9, hD9⟩, hS.F ht⟩) hS.2.2 dX8_rule_70
      · have c_4 : ¬ (er_3 ≤ 0) := fun h => c_4 ((nI_leI (a := er_3) (b := 0) (by omega) (by omega)).mpr h)
        refine lv_bipush (v := (-10)) hx hb dX8_rule_49 (by decide) ?_
        refine lv_iload_n hx hb dX8_rule_51 rfl (lv_at hl 0 rfl) ?_
        refine lv_isub hx hb dX8_rule_52 ?_
        refine lv_topi (fun x_5 ex_5 => ?_)
        have hP9 := hP.sub (ws' := [((a 0), .inr (8, (fX8 a 0 fp__3 (nI t0__3) wd__3 (nI we__3) nu__3 na__3 (nI rd) ts (nI ru) (nI rw) (nI ca) df db sd))), (aI k (a 5) 240 ftext), (aI k (a 25) 4 (nF bm__3)), (aI k (a 26) 48 fbarSeen__3), (aI k (a 27) 48 fbarFrom__3), (aI k (a 28) 4 fruleRounds__3)]) [0, 1, 2, 3, 4, 5] rfl
        have hD9 := hD.sub (ws' := [((a 0), .inr (8, (fX8 a 0 fp__3 (nI t0__3) wd__3 (nI we__3) nu__3 na__3 (nI rd) ts (nI ru) (nI rw) (nI ca) df db sd))), (aI k (a 5) 240 ftext), (aI k (a 25) 4 (nF bm__3)), (aI k (a 26) 48 fbarSeen__3), (aI k (a 27) 48 fbarFrom__3), (aI k (a 28) 4 fruleRounds__3)]) [0, 1, 2, 3, 4, 5] (by decide) rfl
        exact W.iret (v := x_5) hx hb hr (fun t ht hW => ⟨⟨x_5, (t0__3, wd__3, we__3, fp__3, nu__3, na__3, 0, ru, bm__3, fbarSeen__3, fbarFrom__3, fruleRounds__3), rfl, ⟨by omega, by omega, hw_3.2⟩, by rw [ht]; exact hP9, hD9⟩, hS.F ht⟩) hS.2.2 dX8_rule_53
    · have c_2 := (nI_eq (a := ru) (b := 4) (by omega) (by omega)).mp c_2
      refine lv_sipush (v := (-1004)) hx hb dX8_rule_21 (by decide) ?_
      have hP9 := hP.sub (ws' := [((a 0), .inr (8, (fX8 a (nI tx) fp (nI t0) wd (nI we) nu na (nI rd) ts (nI ru) (nI rw) (nI ca) df db sd))), (aI k (a 5) 240 ftext), (aI k (a 25) 4 (nF bm)), (aI k (a 26) 48 fbarSeen), (aI k (a 27) 48 fbarFrom), (aI k (a 28) 4 fruleRounds)]) [0, 1, 2, 3, 4, 5] rfl
      have hD9 := hD.sub (ws' := [((a 0), .inr (8, (fX8 a (nI tx) fp (nI t0) wd (nI we) nu na (nI rd) ts (nI ru) (nI rw) (nI ca) df db sd))), (aI k (a 5) 240 ftext), (aI k (a 25) 4 (nF bm)), (aI k (a 26) 48 fbarSeen), (aI k (a 27) 48 fbarFrom), (aI k (a 28) 4 fruleRounds)]) [0, 1, 2, 3, 4, 5] (by decide) rfl
      exact W.iret (v := (-1004)) hx hb hr (fun t ht hW => ⟨⟨(-1004), (t0, wd, we, fp, nu, na, tx, ru, bm, fbarSeen, fbarFrom, fruleRounds), rfl, ⟨by omega, by omega, hbm⟩, by rw [ht]; exact hP9, hD9⟩, hS.F ht⟩) hS.2.2 dX8_rule_24
  · have c_1 : ¬ (tx ≤ 80) := fun h => c_1 ((nI_leI (a := tx) (b := 80) (by omega) (by omega)).mpr h)
    refine lv_sipush (v := (-1003)) hx hb dX8_rule_9 (by decide) ?_
    have hP9 := hP.sub (ws' := [((a 0), .inr (8, (fX8 a (nI tx) fp (nI t0) wd (nI we) nu na (nI rd) ts (nI ru) (nI rw) (nI ca) df db sd))), (aI k (a 5) 240 ftext), (aI k (a 25) 4 (nF bm)), (aI k (a 26) 48 fbarSeen), (aI k (a 27) 48 fbarFrom), (aI k (a 28) 4 fruleRounds)]) [0, 1, 2, 3, 4, 5] rfl
    have hD9 := hD.sub (ws' := [((a 0), .inr (8, (fX8 a (nI tx) fp (nI t0) wd (nI we) nu na (nI rd) ts (nI ru) (nI rw) (nI ca) df db sd))), (aI k (a 5) 240 ftext), (aI k (a 25) 4 (nF bm)), (aI k (a 26) 48 fbarSeen), (aI k (a 27) 48 fbarFrom), (aI k (a 28) 4 fruleRounds)]) [0, 1, 2, 3, 4, 5] (by decide) rfl
    exact W.iret (v := (-1003)) hx hb hr (fun t ht hW => ⟨⟨(-1003), (t0, wd, we, fp, nu, na, tx, ru, bm, fbarSeen, fbarFrom, fruleRounds), rfl, ⟨by omega, by omega, hbm⟩, by rw [ht]; exact hP9, hD9⟩, hS.F ht⟩) hS.2.2 dX8_rule_12

theorem f_m_keep_rows : True := trivial
theorem dX8_keep_0 : decode cX8_keep 0 = .ok (.iload_n 1, 1) := by decide +kernel
theorem dX8_keep_1 : decode cX8_keep 1 = .ok (.i2l, 1) := by decide +kernel
theorem dX8_keep_2 : decode cX8_keep 2 = .ok (.lconst 0, 1) := by decide +kernel
theorem dX8_keep_3 : decode cX8_keep 3 = .ok (.lconst 1, 1) := by decide +kernel
theorem dX8_keep_4 : decode cX8_keep 4 = .ok (.invokestatic 107, 3) := by decide +kernel
theorem dX8_keep_7 : decode cX8_keep 7 = .ok (.ifCond .ne 7, 3) := by decide +kernel
theorem dX8_keep_10 : decode cX8_keep 10 = .ok (.sipush (-1001), 3) := by decide +kernel
theorem dX8_keep_13 : decode cX8_keep 13 = .ok (.ireturn, 1) := by decide +kernel
theorem dX8_keep_14 : decode cX8_keep 14 = .ok (.bipush 35, 2) := by decide +kernel
theorem dX8_keep_16 : decode cX8_keep 16 = .ok (.iload_n 1, 1) := by decide +kernel
theorem dX8_keep_17 : decode cX8_keep 17 = .ok (.imul, 1) := by decide +kernel
theorem dX8_keep_18 : decode cX8_keep 18 = .ok (.istore_n 2, 1) := by decide +kernel
theorem dX8_keep_19 : decode cX8_keep 19 = .ok (.aload_n 0, 1) := by decide +kernel
theorem dX8_keep_20 : decode cX8_keep 20 = .ok (.getfield 99, 3) := by decide +kernel
theorem dX8_keep_23 : decode cX8_keep 23 = .ok (.iload_n 2, 1) := by decide +kernel
theorem dX8_keep_24 : decode cX8_keep 24 = .ok (.aload_n 0, 1) := by decide +kernel
theorem dX8_keep_25 : decode cX8_keep 25 = .ok (.getfield 304, 3) := by decide +kernel
theorem dX8_keep_28 : decode cX8_keep 28 = .ok (.iastore, 1) := by decide +kernel
theorem dX8_keep_29 : decode cX8_keep 29 = .ok (.aload_n 0, 1) := by decide +kernel
theorem dX8_keep_30 : decode cX8_keep 30 = .ok (.getfield 99, 3) := by decide +kernel
theorem dX8_keep_33 : decode cX8_keep 33 = .ok (.iload_n 2, 1) := by decide +kernel
theorem dX8_keep_34 : decode cX8_keep 34 = .ok (.iconst 1, 1) := by decide +kernel
theorem dX8_keep_35 : decode cX8_keep 35 = .ok (.iadd, 1) := by decide +kernel
theorem dX8_keep_36 : decode cX8_keep 36 = .ok (.aload_n 0, 1) := by decide +kernel
theorem dX8_keep_37 : decode cX8_keep 37 = .ok (.getfield 315, 3) := by decide +kernel
theorem dX8_keep_40 : decode cX8_keep 40 = .ok (.iastore, 1) := by decide +kernel
theorem dX8_keep_41 : decode cX8_keep 41 = .ok (.aload_n 0, 1) := by decide +kernel
theorem dX8_keep_42 : decode cX8_keep 42 = .ok (.getfield 99, 3) := by decide +kernel
theorem dX8_keep_45 : decode cX8_keep 45 = .ok (.iload_n 2, 1) := by decide +kernel
theorem dX8_keep_46 : decode cX8_keep 46 = .ok (.iconst 2, 1) := by decide +kernel
theorem dX8_keep_47 : decode cX8_keep 47 = .ok (.iadd, 1) := by decide +kernel
theorem dX8_keep_48 : decode cX8_keep 48 = .ok (.aload_n 0, 1) := by decide +kernel
theorem dX8_keep_49 : decode cX8_keep 49 = .ok (.getfield 374, 3) := by decide +kernel
theorem dX8_keep_52 : decode cX8_keep 52 = .ok (.iastore, 1) := by decide +kernel
theorem dX8_keep_53 : decode cX8_keep 53 = .ok (.iconst 0, 1) := by decide +kernel
theorem dX8_keep_54 : decode cX8_keep 54 = .ok (.istore_n 3, 1) := by decide +kernel
theorem dX8_keep_55 : decode cX8_keep 55 = .ok (.iload_n 3, 1) := by decide +kernel
theorem dX8_keep_56 : decode cX8_keep 56 = .ok (.bipush 24, 2) := by decide +kernel
theorem dX8_keep_58 : decode cX8_keep 58 = .ok (.if_icmp .ge 33, 3) := by decide +kernel
theorem dX8_keep_61 : decode cX8_keep 61 = .ok (.aload_n 0, 1) := by decide +kernel
theorem dX8_keep_62 : decode cX8_keep 62 = .ok (.getfield 99, 3) := by decide +kernel
theorem dX8_keep_65 : decode cX8_keep 65 = .ok (.iload_n 2, 1) := by decide +kernel
theorem dX8_keep_66 : decode cX8_keep 66 = .ok (.iconst 3, 1) := by decide +kernel
theorem dX8_keep_67 : decode cX8_keep 67 = .ok (.iadd, 1) := by decide +kernel
theorem dX8_keep_68 : decode cX8_keep 68 = .ok (.iload_n 3, 1) := by decide +kernel
theorem dX8_keep_69 : decode cX8_keep 69 = .ok (.iadd, 1) := by decide +kernel
theorem dX8_keep_70 : decode cX8_keep 70 = .ok (.aload_n 0, 1) := by decide +kernel
theorem dX8_keep_71 : decode cX8_keep 71 = .ok (.getfield 75, 3) := by decide +kernel
theorem dX8_keep_74 : decode cX8_keep 74 = .ok (.iload_n 3, 1) := by decide +kernel
theorem dX8_keep_75 : decode cX8_keep 75 = .ok (.baload, 1) := by decide +kernel
theorem dX8_keep_76 : decode cX8_keep 76 = .ok (.ifCond .eq 7, 3) := by decide +kernel
theorem dX8_keep_79 : decode cX8_keep 79 = .ok (.iconst 1, 1) := by decide +kernel
theorem dX8_keep_80 : decode cX8_keep 80 = .ok (.goto 4, 3) := by decide +kernel
theorem dX8_keep_83 : decode cX8_keep 83 = .ok (.iconst 0, 1) := by decide +kernel
theorem dX8_keep_84 : decode cX8_keep 84 = .ok (.iastore, 1) := by decide +kernel
theorem dX8_keep_85 : decode cX8_keep 85 = .ok (.iinc 3 1, 3) := by decide +kernel
theorem dX8_keep_88 : decode cX8_keep 88 = .ok (.goto (-33), 3) := by decide +kernel
theorem dX8_keep_91 : decode cX8_keep 91 = .ok (.iconst 0, 1) := by decide +kernel
theorem dX8_keep_92 : decode cX8_keep 92 = .ok (.istore_n 3, 1) := by decide +kernel
theorem dX8_keep_93 : decode cX8_keep 93 = .ok (.iload_n 3, 1) := by decide +kernel
theorem dX8_keep_94 : decode cX8_keep 94 = .ok (.iconst 4, 1) := by decide +kernel
theorem dX8_keep_95 : decode cX8_keep 95 = .ok (.if_icmp .ge 43, 3) := by decide +kernel
theorem dX8_keep_98 : decode cX8_keep 98 = .ok (.aload_n 0, 1) := by decide +kernel
theorem dX8_keep_99 : decode cX8_keep 99 = .ok (.getfield 99, 3) := by decide +kernel
theorem dX8_keep_102 : decode cX8_keep 102 = .ok (.iload_n 2, 1) := by decide +kernel
theorem dX8_keep_103 : decode cX8_keep 103 = .ok (.bipush 27, 2) := by decide +kernel
theorem dX8_keep_105 : decode cX8_keep 105 = .ok (.iadd, 1) := by decide +kernel
theorem dX8_keep_106 : decode cX8_keep 106 = .ok (.iload_n 3, 1) := by decide +kernel
theorem dX8_keep_107 : decode cX8_keep 107 = .ok (.iadd, 1) := by decide +kernel
theorem dX8_keep_108 : decode cX8_keep 108 = .ok (.aload_n 0, 1) := by decide +kernel
theorem dX8_keep_109 : decode cX8_keep 109 = .ok (.getfield 84, 3) := by decide +kernel
theorem dX8_keep_112 : decode cX8_keep 112 = .ok (.iload_n 3, 1) := by decide +kernel
theorem dX8_keep_113 : decode cX8_keep 113 = .ok (.iaload, 1) := by decide +kernel
theorem dX8_keep_114 : decode cX8_keep 114 = .ok (.iastore, 1) := by decide +kernel
theorem dX8_keep_115 : decode cX8_keep 115 = .ok (.aload_n 0, 1) := by decide +kernel
theorem dX8_keep_116 : decode cX8_keep 116 = .ok (.getfield 99, 3) := by decide +kernel
theorem dX8_keep_119 : decode cX8_keep 119 = .ok (.iload_n 2, 1) := by decide +kernel
theorem dX8_keep_120 : decode cX8_keep 120 = .ok (.bipush 31, 2) := by decide +kernel
theorem dX8_keep_122 : decode cX8_keep 122 = .ok (.iadd, 1) := by decide +kernel
theorem dX8_keep_123 : decode cX8_keep 123 = .ok (.iload_n 3, 1) := by decide +kernel
theorem dX8_keep_124 : decode cX8_keep 124 = .ok (.iadd, 1) := by decide +kernel
theorem dX8_keep_125 : decode cX8_keep 125 = .ok (.aload_n 0, 1) := by decide +kernel
theorem dX8_keep_126 : decode cX8_keep 126 = .ok (.getfield 87, 3) := by decide +kernel
theorem dX8_keep_129 : decode cX8_keep 129 = .ok (.iload_n 3, 1) := by decide +kernel
theorem dX8_keep_130 : decode cX8_keep 130 = .ok (.iaload, 1) := by decide +kernel
theorem dX8_keep_131 : decode cX8_keep 131 = .ok (.iastore, 1) := by decide +kernel
theorem dX8_keep_132 : decode cX8_keep 132 = .ok (.iinc 3 1, 3) := by decide +kernel
theorem dX8_keep_135 : decode cX8_keep 135 = .ok (.goto (-42), 3) := by decide +kernel
theorem dX8_keep_138 : decode cX8_keep 138 = .ok (.aload_n 0, 1) := by decide +kernel
theorem dX8_keep_139 : decode cX8_keep 139 = .ok (.getfield 96, 3) := by decide +kernel
theorem dX8_keep_142 : decode cX8_keep 142 = .ok (.iload_n 1, 1) := by decide +kernel
theorem dX8_keep_143 : decode cX8_keep 143 = .ok (.iconst 1, 1) := by decide +kernel
theorem dX8_keep_144 : decode cX8_keep 144 = .ok (.bastore, 1) := by decide +kernel
theorem dX8_keep_145 : decode cX8_keep 145 = .ok (.iconst 1, 1) := by decide +kernel
theorem dX8_keep_146 : decode cX8_keep 146 = .ok (.ireturn, 1) := by decide +kernel
theorem f_m_goBack_rows : True := trivial
theorem dX8_goBack_0 : decode cX8_goBack 0 = .ok (.iload_n 1, 1) := by decide +kernel
theorem dX8_goBack_1 : decode cX8_goBack 1 = .ok (.i2l, 1) := by decide +kernel
theorem dX8_goBack_2 : decode cX8_goBack 2 = .ok (.lconst 0, 1) := by decide +kernel
theorem dX8_goBack_3 : decode cX8_goBack 3 = .ok (.lconst 1, 1) := by decide +kernel
theorem dX8_goBack_4 : decode cX8_goBack 4 = .ok (.invokestatic 107, 3) := by decide +kernel
theorem dX8_goBack_7 : decode cX8_goBack 7 = .ok (.ifCond .ne 7, 3) := by decide +kernel
theorem dX8_goBack_10 : decode cX8_goBack 10 = .ok (.sipush (-1001), 3) := by decide +kernel
theorem dX8_goBack_13 : decode cX8_goBack 13 = .ok (.ireturn, 1) := by decide +kernel
theorem dX8_goBack_14 : decode cX8_goBack 14 = .ok (.aload_n 0, 1) := by decide +kernel
theorem dX8_goBack_15 : decode cX8_goBack 15 = .ok (.getfield 96, 3) := by decide +kernel
theorem dX8_goBack_18 : decode cX8_goBack 18 = .ok (.iload_n 1, 1) := by decide +kernel
theorem dX8_goBack_19 : decode cX8_goBack 19 = .ok (.baload, 1) := by decide +kernel
theorem dX8_goBack_20 : decode cX8_goBack 20 = .ok (.ifCond .ne 7, 3) := by decide +kernel
theorem dX8_goBack_23 : decode cX8_goBack 23 = .ok (.sipush (-1003), 3) := by decide +kernel
theorem dX8_goBack_26 : decode cX8_goBack 26 = .ok (.ireturn, 1) := by decide +kernel
theorem dX8_goBack_27 : decode cX8_goBack 27 = .ok (.bipush 35, 2) := by decide +kernel
theorem dX8_goBack_29 : decode cX8_goBack 29 = .ok (.iload_n 1, 1) := by decide +kernel
theorem dX8_goBack_30 : decode cX8_goBack 30 = .ok (.imul, 1) := by decide +kernel
theorem dX8_goBack_31 : decode cX8_goBack 31 = .ok (.istore_n 2, 1) := by decide +kernel
theorem dX8_goBack_32 : decode cX8_goBack 32 = .ok (.aload_n 0, 1) := by decide +kernel
theorem dX8_goBack_33 : decode cX8_goBack 33 = .ok (.aload_n 0, 1) := by decide +kernel
theorem dX8_goBack_34 : decode cX8_goBack 34 = .ok (.getfield 99, 3) := by decide +kernel
theorem dX8_goBack_37 : decode cX8_goBack 37 = .ok (.iload_n 2, 1) := by decide +kernel
theorem dX8_goBack_38 : decode cX8_goBack 38 = .ok (.iaload, 1) := by decide +kernel
theorem dX8_goBack_39 : decode cX8_goBack 39 = .ok (.putfield 304, 3) := by decide +kernel
theorem dX8_goBack_42 : decode cX8_goBack 42 = .ok (.aload_n 0, 1) := by decide +kernel
theorem dX8_goBack_43 : decode cX8_goBack 43 = .ok (.aload_n 0, 1) := by decide +kernel
theorem dX8_goBack_44 : decode cX8_goBack 44 = .ok (.getfield 99, 3) := by decide +kernel
theorem dX8_goBack_47 : decode cX8_goBack 47 = .ok (.iload_n 2, 1) := by decide +kernel
theorem dX8_goBack_48 : decode cX8_goBack 48 = .ok (.iconst 1, 1) := by decide +kernel
theorem dX8_goBack_49 : decode cX8_goBack 49 = .ok (.iadd, 1) := by decide +kernel
theorem dX8_goBack_50 : decode cX8_goBack 50 = .ok (.iaload, 1) := by decide +kernel
theorem dX8_goBack_51 : decode cX8_goBack 51 = .ok (.putfield 315, 3) := by decide +kernel
theorem dX8_goBack_54 : decode cX8_goBack 54 = .ok (.aload_n 0, 1) := by decide +kernel
theorem dX8_goBack_55 : decode cX8_goBack 55 = .ok (.aload_n 0, 1) := by decide +kernel
theorem dX8_goBack_56 : decode cX8_goBack 56 = .ok (.getfield 99, 3) := by decide +kernel
theorem dX8_goBack_59 : decode cX8_goBack 59 = .ok (.iload_n 2, 1) := by decide +kernel
theorem dX8_goBack_60 : decode cX8_goBack 60 = .ok (.iconst 2, 1) := by decide +kernel
theorem dX8_goBack_61 : decode cX8_goBack 61 = .ok (.iadd, 1) := by decide +kernel
theorem dX8_goBack_62 : decode cX8_goBack 62 = .ok (.iaload, 1) := by decide +kernel
theorem dX8_goBack_63 : decode cX8_goBack 63 = .ok (.putfield 374, 3) := by decide +kernel
theorem dX8_goBack_66 : decode cX8_goBack 66 = .ok (.iconst 0, 1) := by decide +kernel
theorem dX8_goBack_67 : decode cX8_goBack 67 = .ok (.istore_n 3, 1) := by decide +kernel
theorem dX8_goBack_68 : decode cX8_goBack 68 = .ok (.iload_n 3, 1) := by decide +kernel
theorem dX8_goBack_69 : decode cX8_goBack 69 = .ok (.bipush 24, 2) := by decide +kernel
theorem dX8_goBack_71 : decode cX8_goBack 71 = .ok (.if_icmp .ge 34, 3) := by decide +kernel
theorem dX8_goBack_74 : decode cX8_goBack 74 = .ok (.aload_n 0, 1) := by decide +kernel
theorem dX8_goBack_75 : decode cX8_goBack 75 = .ok (.getfield 75, 3) := by decide +kernel
theorem dX8_goBack_78 : decode cX8_goBack 78 = .ok (.iload_n 3, 1) := by decide +kernel
theorem dX8_goBack_79 : decode cX8_goBack 79 = .ok (.aload_n 0, 1) := by decide +kernel
theorem dX8_goBack_80 : decode cX8_goBack 80 = .ok (.getfield 99, 3) := by decide +kernel
theorem dX8_goBack_83 : decode cX8_goBack 83 = .ok (.iload_n 2, 1) := by decide +kernel
theorem dX8_goBack_84 : decode cX8_goBack 84 = .ok (.iconst 3, 1) := by decide +kernel
theorem dX8_goBack_85 : decode cX8_goBack 85 = .ok (.iadd, 1) := by decide +kernel
theorem dX8_goBack_86 : decode cX8_goBack 86 = .ok (.iload_n 3, 1) := by decide +kernel
theorem dX8_goBack_87 : decode cX8_goBack 87 = .ok (.iadd, 1) := by decide +kernel
theorem dX8_goBack_88 : decode cX8_goBack 88 = .ok (.iaload, 1) := by decide +kernel
theorem dX8_goBack_89 : decode cX8_goBack 89 = .ok (.iconst 1, 1) := by decide +kernel
theorem dX8_goBack_90 : decode cX8_goBack 90 = .ok (.if_icmp .ne 7, 3) := by decide +kernel
theorem dX8_goBack_93 : decode cX8_goBack 93 = .ok (.iconst 1, 1) := by decide +kernel
theorem dX8_goBack_94 : decode cX8_goBack 94 = .ok (.goto 4, 3) := by decide +kernel
theorem dX8_goBack_97 : decode cX8_goBack 97 = .ok (.iconst 0, 1) := by decide +kernel
theorem dX8_goBack_98 : decode cX8_goBack 98 = .ok (.bastore, 1) := by decide +kernel
theorem dX8_goBack_99 : decode cX8_goBack 99 = .ok (.iinc 3 1, 3) := by decide +kernel
theorem dX8_goBack_102 : decode cX8_goBack 102 = .ok (.goto (-34), 3) := by decide +kernel
theorem dX8_goBack_105 : decode cX8_goBack 105 = .ok (.iconst 0, 1) := by decide +kernel
theorem dX8_goBack_106 : decode cX8_goBack 106 = .ok (.istore_n 3, 1) := by decide +kernel
theorem dX8_goBack_107 : decode cX8_goBack 107 = .ok (.iload_n 3, 1) := by decide +kernel
theorem dX8_goBack_108 : decode cX8_goBack 108 = .ok (.iconst 4, 1) := by decide +kernel
theorem dX8_goBack_109 : decode cX8_goBack 109 = .ok (.if_icmp .ge 43, 3) := by decide +kernel
theorem dX8_goBack_112 : decode cX8_goBack 112 = .ok (.aload_n 0, 1) := by decide +kernel
theorem dX8_goBack_113 : decode cX8_goBack 113 = .ok (.getfield 84, 3) := by decide +kernel
theorem dX8_goBack_116 : decode cX8_goBack 116 = .ok (.iload_n 3, 1) := by decide +kernel
theorem dX8_goBack_117 : decode cX8_goBack 117 = .ok (.aload_n 0, 1) := by decide +kernel
theorem dX8_goBack_118 : decode cX8_goBack 118 = .ok (.getfield 99, 3) := by decide +kernel
theorem dX8_goBack_121 : decode cX8_goBack 121 = .ok (.iload_n 2, 1) := by decide +kernel
theorem dX8_goBack_122 : decode cX8_goBack 122 = .ok (.bipush 27, 2) := by decide +kernel
theorem dX8_goBack_124 : decode cX8_goBack 124 = .ok (.iadd, 1) := by decide +kernel
theorem dX8_goBack_125 : decode cX8_goBack 125 = .ok (.iload_n 3, 1) := by decide +kernel
theorem dX8_goBack_126 : decode cX8_goBack 126 = .ok (.iadd, 1) := by decide +kernel
theorem dX8_goBack_127 : decode cX8_goBack 127 = .ok (.iaload, 1) := by decide +kernel
theorem dX8_goBack_128 : decode cX8_goBack 128 = .ok (.iastore, 1) := by decide +kernel
theorem dX8_goBack_129 : decode cX8_goBack 129 = .ok (.aload_n 0, 1) := by decide +kernel
theorem dX8_goBack_130 : decode cX8_goBack 130 = .ok (.getfield 87, 3) := by decide +kernel
theorem dX8_goBack_133 : decode cX8_goBack 133 = .ok (.iload_n 3, 1) := by decide +kernel
theorem dX8_goBack_134 : decode cX8_goBack 134 = .ok (.aload_n 0, 1) := by decide +kernel
theorem dX8_goBack_135 : decode cX8_goBack 135 = .ok (.getfield 99, 3) := by decide +kernel
theorem dX8_goBack_138 : decode cX8_goBack 138 = .ok (.iload_n 2, 1) := by decide +kernel
theorem dX8_goBack_139 : decode cX8_goBack 139 = .ok (.bipush 31, 2) := by decide +kernel
theorem dX8_goBack_141 : decode cX8_goBack 141 = .ok (.iadd, 1) := by decide +kernel
theorem dX8_goBack_142 : decode cX8_goBack 142 = .ok (.iload_n 3, 1) := by decide +kernel
theorem dX8_goBack_143 : decode cX8_goBack 143 = .ok (.iadd, 1) := by decide +kernel
theorem dX8_goBack_144 : decode cX8_goBack 144 = .ok (.iaload, 1) := by decide +kernel
theorem dX8_goBack_145 : decode cX8_goBack 145 = .ok (.iastore, 1) := by decide +kernel
theorem dX8_goBack_146 : decode cX8_goBack 146 = .ok (.iinc 3 1, 3) := by decide +kernel
theorem dX8_goBack_149 : decode cX8_goBack 149 = .ok (.goto (-42), 3) := by decide +kernel
theorem dX8_goBack_152 : decode cX8_goBack 152 = .ok (.iconst 1, 1) := by decide +kernel
theorem dX8_goBack_153 : decode cX8_goBack 153 = .ok (.ireturn, 1) := by decide +kernel

theorem dX8_thought_0 : decode cX8_thought 0 = .ok (.aload_n 0, 1) := by decide +kernel
theorem dX8_thought_1 : decode cX8_thought 1 = .ok (.iload_n 1, 1) := by decide +kernel
theorem dX8_thought_2 : decode cX8_thought 2 = .ok (.invokevirtual 206, 3) := by decide +kernel
theorem dX8_thought_5 : decode cX8_thought 5 = .ok (.ifCond .eq 11, 3) := by decide +kernel
theorem dX8_thought_8 : decode cX8_thought 8 = .ok (.aload_n 0, 1) := by decide +kernel
theorem dX8_thought_9 : decode cX8_thought 9 = .ok (.iload_n 2, 1) := by decide +kernel
theorem dX8_thought_10 : decode cX8_thought 10 = .ok (.invokevirtual 206, 3) := by decide +kernel
theorem dX8_thought_13 : decode cX8_thought 13 = .ok (.ifCond .ne 7, 3) := by decide +kernel
theorem dX8_thought_16 : decode cX8_thought 16 = .ok (.sipush (-1001), 3) := by decide +kernel
theorem dX8_thought_19 : decode cX8_thought 19 = .ok (.ireturn, 1) := by decide +kernel
theorem dX8_thought_20 : decode cX8_thought 20 = .ok (.ldc2_w 307, 3) := by decide +kernel
theorem dX8_thought_23 : decode cX8_thought 23 = .ok (.lstore_n 3, 1) := by decide +kernel
theorem dX8_thought_24 : decode cX8_thought 24 = .ok (.ldc2_w 307, 3) := by decide +kernel
theorem dX8_thought_27 : decode cX8_thought 27 = .ok (.lstore 5, 2) := by decide +kernel
theorem dX8_thought_29 : decode cX8_thought 29 = .ok (.iconst 0, 1) := by decide +kernel
theorem dX8_thought_30 : decode cX8_thought 30 = .ok (.istore 7, 2) := by decide +kernel
theorem dX8_thought_32 : decode cX8_thought 32 = .ok (.iload 7, 2) := by decide +kernel
theorem dX8_thought_34 : decode cX8_thought 34 = .ok (.aload_n 0, 1) := by decide +kernel
theorem dX8_thought_35 : decode cX8_thought 35 = .ok (.getfield 304, 3) := by decide +kernel
theorem dX8_thought_38 : decode cX8_thought 38 = .ok (.if_icmp .ge 186, 3) := by decide +kernel
theorem dX8_thought_41 : decode cX8_thought 41 = .ok (.iload 7, 2) := by decide +kernel
theorem dX8_thought_43 : decode cX8_thought 43 = .ok (.aload_n 0, 1) := by decide +kernel
theorem dX8_thought_44 : decode cX8_thought 44 = .ok (.getfield 7, 3) := by decide +kernel
theorem dX8_thought_47 : decode cX8_thought 47 = .ok (.iload_n 1, 1) := by decide +kernel
theorem dX8_thought_48 : decode cX8_thought 48 = .ok (.iaload, 1) := by decide +kernel
theorem dX8_thought_49 : decode cX8_thought 49 = .ok (.if_icmp .ge 175, 3) := by decide +kernel
theorem dX8_thought_52 : decode cX8_thought 52 = .ok (.iload 7, 2) := by decide +kernel
theorem dX8_thought_54 : decode cX8_thought 54 = .ok (.aload_n 0, 1) := by decide +kernel
theorem dX8_thought_55 : decode cX8_thought 55 = .ok (.getfield 7, 3) := by decide +kernel
theorem dX8_thought_58 : decode cX8_thought 58 = .ok (.iload_n 2, 1) := by decide +kernel
theorem dX8_thought_59 : decode cX8_thought 59 = .ok (.iaload, 1) := by decide +kernel
theorem dX8_thought_60 : decode cX8_thought 60 = .ok (.if_icmp .ge 164, 3) := by decide +kernel
theorem dX8_thought_63 : decode cX8_thought 63 = .ok (.iload 7, 2) := by decide +kernel
theorem dX8_thought_65 : decode cX8_thought 65 = .ok (.ifCond .le 28, 3) := by decide +kernel
theorem dX8_thought_68 : decode cX8_thought 68 = .ok (.aload_n 0, 1) := by decide +kernel
theorem dX8_thought_69 : decode cX8_thought 69 = .ok (.getfield 75, 3) := by decide +kernel
theorem dX8_thought_72 : decode cX8_thought 72 = .ok (.iload 7, 2) := by decide +kernel
theorem dX8_thought_74 : decode cX8_thought 74 = .ok (.ifCond .le 10, 3) := by decide +kernel
theorem dX8_thought_77 : decode cX8_thought 77 = .ok (.iload 7, 2) := by decide +kernel
theorem dX8_thought_79 : decode cX8_thought 79 = .ok (.iconst 1, 1) := by decide +kernel
theorem dX8_thought_80 : decode cX8_thought 80 = .ok (.isub, 1) := by decide +kernel
theorem dX8_thought_81 : decode cX8_thought 81 = .ok (.goto 4, 3) := by decide +kernel
theorem dX8_thought_85 : decode cX8_thought 85 = .ok (.baload, 1) := by decide +kernel
theorem dX8_thought_86 : decode cX8_thought 86 = .ok (.ifCond .eq 7, 3) := by decide +kernel
theorem dX8_thought_89 : decode cX8_thought 89 = .ok (.iconst 1, 1) := by decide +kernel
theorem dX8_thought_90 : decode cX8_thought 90 = .ok (.goto 4, 3) := by decide +kernel
theorem dX8_thought_93 : decode cX8_thought 93 = .ok (.iconst 0, 1) := by decide +kernel
theorem dX8_thought_94 : decode cX8_thought 94 = .ok (.istore 8, 2) := by decide +kernel
theorem dX8_thought_96 : decode cX8_thought 96 = .ok (.aload_n 0, 1) := by decide +kernel
theorem dX8_thought_97 : decode cX8_thought 97 = .ok (.iload_n 1, 1) := by decide +kernel
theorem dX8_thought_98 : decode cX8_thought 98 = .ok (.iload 7, 2) := by decide +kernel
theorem dX8_thought_100 : decode cX8_thought 100 = .ok (.iload 8, 2) := by decide +kernel
theorem dX8_thought_102 : decode cX8_thought 102 = .ok (.invokevirtual 219, 3) := by decide +kernel
theorem dX8_thought_105 : decode cX8_thought 105 = .ok (.istore 9, 2) := by decide +kernel
theorem dX8_thought_107 : decode cX8_thought 107 = .ok (.aload_n 0, 1) := by decide +kernel
theorem dX8_thought_108 : decode cX8_thought 108 = .ok (.iload_n 2, 1) := by decide +kernel
theorem dX8_thought_109 : decode cX8_thought 109 = .ok (.iload 7, 2) := by decide +kernel
theorem dX8_thought_111 : decode cX8_thought 111 = .ok (.iload 8, 2) := by decide +kernel
theorem dX8_thought_113 : decode cX8_thought 113 = .ok (.invokevirtual 219, 3) := by decide +kernel
theorem dX8_thought_116 : decode cX8_thought 116 = .ok (.istore 10, 2) := by decide +kernel
theorem dX8_thought_118 : decode cX8_thought 118 = .ok (.lload_n 3, 1) := by decide +kernel
theorem dX8_thought_119 : decode cX8_thought 119 = .ok (.aload_n 0, 1) := by decide +kernel
theorem dX8_thought_120 : decode cX8_thought 120 = .ok (.getfield 75, 3) := by decide +kernel
theorem dX8_thought_123 : decode cX8_thought 123 = .ok (.iload 7, 2) := by decide +kernel
theorem dX8_thought_125 : decode cX8_thought 125 = .ok (.baload, 1) := by decide +kernel
theorem dX8_thought_126 : decode cX8_thought 126 = .ok (.ifCond .eq 8, 3) := by decide +kernel
theorem dX8_thought_129 : decode cX8_thought 129 = .ok (.iload 9, 2) := by decide +kernel
theorem dX8_thought_131 : decode cX8_thought 131 = .ok (.goto 8, 3) := by decide +kernel
theorem dX8_thought_134 : decode cX8_thought 134 = .ok (.bipush 100, 2) := by decide +kernel
theorem dX8_thought_136 : decode cX8_thought 136 = .ok (.iload 9, 2) := by decide +kernel
theorem dX8_thought_138 : decode cX8_thought 138 = .ok (.isub, 1) := by decide +kernel
theorem dX8_thought_139 : decode cX8_thought 139 = .ok (.i2l, 1) := by decide +kernel
theorem dX8_thought_140 : decode cX8_thought 140 = .ok (.lmul, 1) := by decide +kernel
theorem dX8_thought_141 : decode cX8_thought 141 = .ok (.ldc2_w 240, 3) := by decide +kernel
theorem dX8_thought_144 : decode cX8_thought 144 = .ok (.ldiv, 1) := by decide +kernel
theorem dX8_thought_145 : decode cX8_thought 145 = .ok (.lstore_n 3, 1) := by decide +kernel
theorem dX8_thought_146 : decode cX8_thought 146 = .ok (.lload 5, 2) := by decide +kernel
theorem dX8_thought_148 : decode cX8_thought 148 = .ok (.aload_n 0, 1) := by decide +kernel
theorem dX8_thought_149 : decode cX8_thought 149 = .ok (.getfield 75, 3) := by decide +kernel
theorem dX8_thought_152 : decode cX8_thought 152 = .ok (.iload 7, 2) := by decide +kernel
theorem dX8_thought_154 : decode cX8_thought 154 = .ok (.baload, 1) := by decide +kernel
theorem dX8_thought_155 : decode cX8_thought 155 = .ok (.ifCond .eq 8, 3) := by decide +kernel
theorem dX8_thought_158 : decode cX8_thought 158 = .ok (.iload 10, 2) := by decide +kernel
theorem dX8_thought_160 : decode cX8_thought 160 = .ok (.goto 8, 3) := by decide +kernel
theorem dX8_thought_163 : decode cX8_thought 163 = .ok (.bipush 100, 2) := by decide +kernel
theorem dX8_thought_165 : decode cX8_thought 165 = .ok (.iload 10, 2) := by decide +kernel
theorem dX8_thought_167 : decode cX8_thought 167 = .ok (.isub, 1) := by decide +kernel
theorem dX8_thought_168 : decode cX8_thought 168 = .ok (.i2l, 1) := by decide +kernel
theorem dX8_thought_169 : decode cX8_thought 169 = .ok (.lmul, 1) := by decide +kernel
theorem dX8_thought_170 : decode cX8_thought 170 = .ok (.ldc2_w 240, 3) := by decide +kernel
theorem dX8_thought_173 : decode cX8_thought 173 = .ok (.ldiv, 1) := by decide +kernel
theorem dX8_thought_174 : decode cX8_thought 174 = .ok (.lstore 5, 2) := by decide +kernel
theorem dX8_thought_176 : decode cX8_thought 176 = .ok (.lload_n 3, 1) := by decide +kernel
theorem dX8_thought_177 : decode cX8_thought 177 = .ok (.lload 5, 2) := by decide +kernel
theorem dX8_thought_179 : decode cX8_thought 179 = .ok (.lcmp, 1) := by decide +kernel
theorem dX8_thought_180 : decode cX8_thought 180 = .ok (.ifCond .le 7, 3) := by decide +kernel
theorem dX8_thought_183 : decode cX8_thought 183 = .ok (.lload_n 3, 1) := by decide +kernel
theorem dX8_thought_184 : decode cX8_thought 184 = .ok (.goto 5, 3) := by decide +kernel
theorem dX8_thought_187 : decode cX8_thought 187 = .ok (.lload 5, 2) := by decide +kernel
theorem dX8_thought_189 : decode cX8_thought 189 = .ok (.lstore 11, 2) := by decide +kernel
theorem dX8_thought_191 : decode cX8_thought 191 = .ok (.lload 11, 2) := by decide +kernel
theorem dX8_thought_193 : decode cX8_thought 193 = .ok (.lconst 0, 1) := by decide +kernel
theorem dX8_thought_194 : decode cX8_thought 194 = .ok (.lcmp, 1) := by decide +kernel
theorem dX8_thought_195 : decode cX8_thought 195 = .ok (.ifCond .le 23, 3) := by decide +kernel
theorem dX8_thought_198 : decode cX8_thought 198 = .ok (.lload_n 3, 1) := by decide +kernel
theorem dX8_thought_199 : decode cX8_thought 199 = .ok (.ldc2_w 309, 3) := by decide +kernel
theorem dX8_thought_202 : decode cX8_thought 202 = .ok (.lmul, 1) := by decide +kernel
theorem dX8_thought_203 : decode cX8_thought 203 = .ok (.lload 11, 2) := by decide +kernel
theorem dX8_thought_205 : decode cX8_thought 205 = .ok (.ldiv, 1) := by decide +kernel
theorem dX8_thought_206 : decode cX8_thought 206 = .ok (.lstore_n 3, 1) := by decide +kernel
theorem dX8_thought_207 : decode cX8_thought 207 = .ok (.lload 5, 2) := by decide +kernel
theorem dX8_thought_209 : decode cX8_thought 209 = .ok (.ldc2_w 309, 3) := by decide +kernel
theorem dX8_thought_212 : decode cX8_thought 212 = .ok (.lmul, 1) := by decide +kernel
theorem dX8_thought_213 : decode cX8_thought 213 = .ok (.lload 11, 2) := by decide +kernel
theorem dX8_thought_215 : decode cX8_thought 215 = .ok (.ldiv, 1) := by decide +kernel
theorem dX8_thought_216 : decode cX8_thought 216 = .ok (.lstore 5, 2) := by decide +kernel
theorem dX8_thought_218 : decode cX8_thought 218 = .ok (.iinc 7 1, 3) := by decide +kernel
theorem dX8_thought_221 : decode cX8_thought 221 = .ok (.goto (-189), 3) := by decide +kernel
theorem dX8_thought_224 : decode cX8_thought 224 = .ok (.lload_n 3, 1) := by decide +kernel
theorem dX8_thought_225 : decode cX8_thought 225 = .ok (.lload 5, 2) := by decide +kernel
theorem dX8_thought_227 : decode cX8_thought 227 = .ok (.ladd, 1) := by decide +kernel
theorem dX8_thought_228 : decode cX8_thought 228 = .ok (.lconst 0, 1) := by decide +kernel
theorem dX8_thought_229 : decode cX8_thought 229 = .ok (.lcmp, 1) := by decide +kernel
theorem dX8_thought_230 : decode cX8_thought 230 = .ok (.ifCond .ne 7, 3) := by decide +kernel
theorem dX8_thought_233 : decode cX8_thought 233 = .ok (.iconst 0, 1) := by decide +kernel
theorem dX8_thought_234 : decode cX8_thought 234 = .ok (.goto 14, 3) := by decide +kernel
theorem dX8_thought_237 : decode cX8_thought 237 = .ok (.lload_n 3, 1) := by decide +kernel
theorem dX8_thought_238 : decode cX8_thought 238 = .ok (.ldc2_w 309, 3) := by decide +kernel
theorem dX8_thought_241 : decode cX8_thought 241 = .ok (.lmul, 1) := by decide +kernel
theorem dX8_thought_242 : decode cX8_thought 242 = .ok (.lload_n 3, 1) := by decide +kernel
theorem dX8_thought_243 : decode cX8_thought 243 = .ok (.lload 5, 2) := by decide +kernel
theorem dX8_thought_245 : decode cX8_thought 245 = .ok (.ladd, 1) := by decide +kernel
theorem dX8_thought_246 : decode cX8_thought 246 = .ok (.ldiv, 1) := by decide +kernel
theorem dX8_thought_247 : decode cX8_thought 247 = .ok (.l2i, 1) := by decide +kernel
theorem dX8_thought_248 : decode cX8_thought 248 = .ok (.ireturn, 1) := by decide +kernel
set_option maxHeartbeats 4000000 in
set_option maxRecDepth 100000 in
theorem m_thought (l : Launch) (D : va_G) (k : Nat → ClassId) (st : Nat → Nat) (lo : Nat) (a : Nat → Nat) (tx : Nat) (t0 : Nat) (we : Nat) (rd : Nat) (ru : Nat) (rw : Nat) (ca : Nat) (fp : Int32) (wd : Int64) (nu : Int32) (na : Int32) (ts : Int32) (df : Int32) (db : Int32) (sd : Int32) (dn : Nat → Nat) (se : Nat → Nat) (tm : Nat → Nat) (gs : Nat → Int32) (ffrees : Nat → Int32) (frow : Nat → Int32) (p0 : Int32) (p1 : Int32) (hdn : ∀ j, dn j ≤ 24) (hrw : rw ≤ 24) : CRi l D k st lo yX8_thought cX8_thought 13 (some .int) ({ frames := 2, cells := 0, slots := 0, locals := 47 }) [.ref (a 0), .int p0, .int p1] [((a 0), .inr (8, (fX8 a (nI tx) fp (nI t0) wd (nI we) nu na (nI rd) ts (nI ru) (nI rw) (nI ca) df db sd))), (aI k (a 1) 3 (nF dn)), (aI k (a 4) 27 (sg se tm gs)), (aI k (a 2) 72 ffrees), (aZ k (a 32) 24 frow)] (fun r => True) := by
  intro sz
  refine Met.ofW (cc := cX8_thought) (maxL := 13) (ret := (some .int)) (by decide) rfl ?_
  intro p e s m args below meth c s₁ B hml hv
  obtain ⟨rfl, hsz, hlo, hP, hK, hDL, hZ⟩ := hv
  have hx := B.exec
  have hb := B.bytes
  have hr := B.returns
  have hts := WS_ts B.pre
  have hown : s.vm.findClass RX8 = some m.cls := findClass_of_methodNamed B.named
  have hlocks := B.notSynchronized
  subst hsz
  have hA : ∀ q : Nat, s.heap.size ≤ q → (fun q : Nat => s.heap.size ≤ q) q := fun _ h => h
  have hAlo : ∀ q : Nat, (fun q : Nat => s.heap.size ≤ q) q → lo ≤ q := fun q h => Nat.le_trans hlo h
  have hS : va_S (fun q : Nat => s.heap.size ≤ q) s.heap s.heap [] := va_S.rf
  have hl := lv_entry ([.ref (a 0), .int p0, .int p1]) (n := 13) (Nat.le_of_ble_eq_true rfl)
  rw [lg_entry_eq]
  generalize (lg_sl ([.ref (a 0), .int p0, .int p1]) ++ List.replicate (13 - (lg_sl ([.ref (a 0), .int p0, .int p1])).length) Slot.unset).toArray = ls at hl ⊢
  have hl : lv_has ls 13 [(0, .ref (a 0)), (1, .int p0), (2, .int p1)] := hl
  refine lv_aload_n hx hb dX8_thought_0 rfl (lv_at hl 0 rfl) ?_
  refine lv_iload_n hx hb dX8_thought_1 rfl (lv_at hl 1 rfl) ?_
  refine ro_i (D := D) (va_runV (As := [.int p0]) (rest := []) ⟨hx, hb, hml, hown, hts⟩ ((m_isStreet l D k st lo a tx t0 we rd ru rw ca fp wd nu na ts df db sd dn p0 hdn) s.heap.size) (cwV 1 hts (gV tw_1189 tw_1191 tw_38 tw_87 tw_1192) rfl rfl rfl (by decide +kernel) ⟨Nat.le_of_ble_eq_true rfl, Nat.le_of_ble_eq_true rfl⟩) (pV hS hAlo hlo hP hK hDL hZ [0, 1] (by decide) rfl (ci := 8) (q := (RX8, TX8, 44)) (q0 := 0) rfl rfl) rfl rfl hl.1 rfl (lv_room (Nat.le_of_ble_eq_true rfl)) dX8_thought_2 ⟨Nat.le_of_ble_eq_true rfl, Nat.le_of_ble_eq_true rfl⟩) hS hA hP (fun r_1 H locs hw_1 hP hS => ?_)
  try dsimp only at hw_1
  rcases hw_1 with ⟨rfl, j_2, hj_2, rfl, hw_1⟩ | rfl
  · have hdj_2 := hdn j_2
    refine lv_if_eq (tgt := 16) hx hb dX8_thought_5 (by decide) (fun h => absurd h (by decide)) (fun _ => ?_)
    refine lv_aload_n hx hb dX8_thought_8 rfl (lv_at hl 0 rfl) ?_
    refine lv_iload_n hx hb dX8_thought_9 rfl (lv_at hl 2 rfl) ?_
    refine ro_i (D := D) (va_runV (As := [.int p1]) (rest := []) ⟨hx, hb, hml, hown, hts⟩ ((m_isStreet l D k st lo a tx t0 we rd ru rw ca fp wd nu na ts df db sd dn p1 hdn) H.size) (cwV 1 hts (gV tw_1189 tw_1191 tw_38 tw_87 tw_1192) rfl rfl rfl (by decide +kernel) ⟨Nat.le_of_ble_eq_true rfl, Nat.le_of_ble_eq_true rfl⟩) (pV hS hAlo hlo hP hK hDL hZ [0, 1] (by decide) rfl (ci := 8) (q := (RX8, TX8, 44)) (q0 := 0) rfl rfl) rfl rfl hl.1 rfl (lv_room (Nat.le_of_ble_eq_true rfl)) dX8_thought_10 ⟨Nat.le_of_ble_eq_true rfl, Nat.le_of_ble_eq_true rfl⟩) hS hA hP (fun r_3 H locs hw_3 hP hS => ?_)
    try dsimp only at hw_3
    rcases hw_3 with ⟨rfl, j_4, hj_4, rfl, hw_3⟩ | rfl
    · have hdj_4 := hdn j_4
      refine lv_if_ne (tgt := 20) hx hb dX8_thought_13 (by decide) (fun _ => ?_) (fun h => absurd h (by decide))
      refine lv_ldc2 hx hb hown (hts _ tw_1362) dX8_thought_20 ?_
      refine lv_lstore_n (lv' := [(3, .long 500000), (0, .ref (a 0)), (1, .int (nI j_2)), (2, .int (nI j_4))]) hx hb dX8_thought_23 rfl hl (by decide) rfl (fun ls hl => ?_)
      refine lv_ldc2 hx hb hown (hts _ tw_1362) dX8_thought_24 ?_
      refine lv_lstore (lv' := [(5, .long 500000), (3, .long 500000), (0, .ref (a 0)), (1, .int (nI j_2)), (2, .int (nI j_4))]) hx hb dX8_thought_27 hl (by decide) rfl (fun ls hl => ?_)
      refine lv_iconst (v := 0) hx hb dX8_thought_29 (by decide) ?_
      refine lv_istore (lv' := [(7, .int 0), (5, .long 500000), (3, .long 500000), (0, .ref (a 0)), (1, .int (nI j_2)), (2, .int (nI j_4))]) hx hb dX8_thought_30 hl (by decide) rfl (fun ls hl => ?_)
      refine W_loop (σ := Nat × Int64 × Int64) (fun (n_ : Nat) (x_ : Nat × Int64 × Int64) (H : Heap) (locs : List Loc) (ls : Array Slot) => match x_ with | (ii_5, w2_5, v2_5) => n_ = rw - ii_5 ∧ (ii_5 ≤ rw) ∧ va_P D classes [((a 0), .inr (8, (fX8 a (nI tx) fp (nI t0) wd (nI we) nu na (nI rd) ts (nI ru) (nI rw) (nI ca) df db sd))), (aI k (a 1) 3 (nF dn)), (aI k (a 4) 27 (sg se tm gs)), (aI k (a 2) 72 ffrees), (aZ k (a 32) 24 frow)] H ∧ va_S (fun q : Nat => s.heap.size ≤ q) s.heap H locs ∧ lv_has ls 13 [(7, .int (nI ii_5)), (5, .long v2_5), (3, .long w2_5), (0, .ref (a 0)), (1, .int (nI j_2)), (2, .int (nI j_4))]) (fun n_5 x_5 H locs ls hI ih_5 => ?_) _ (0, 500000, 500000) ⟨rfl, (by omega), hP, hS, (lv_sub hl [0, 1, 2, 3, 4, 5] rfl)⟩
      obtain ⟨ii_5, w2_5, v2_5⟩ := x_5
      obtain ⟨hm_5, hv_5, hP, hS, hl⟩ := hI
      subst hm_5
      refine lv_iload hx hb dX8_thought_32 (lv_at hl 0 rfl) ?_
      refine lv_aload_n hx hb dX8_thought_34 rfl (lv_at hl 3 rfl) ?_
      refine va_get (D := D) (ci := 8) (v := .int (nI rw)) (C := RX8) (T := TX8) (N := 44) hx hb hts inX8 hown hK hP 0 rfl rfl 30 (by decide) (hts _ tw_1003) (fun _ h9 => h9) rfl dX8_thought_35 ?_
      refine lv_icmp_ge (tgt := 224) hx hb dX8_thought_38 (by decide) (fun c_6 => ?_) (fun c_6 => ?_)
      · have c_6 := (nI_leI (a := rw) (b := ii_5) (by omega) (by omega)).mp c_6
        refine lv_lload_n hx hb dX8_thought_224 rfl (lv_at hl 2 rfl) ?_
        refine lv_lload hx hb dX8_thought_225 (lv_at hl 1 rfl) ?_
        refine lv_ladd hx hb dX8_thought_227 ?_
        refine lv_topl (fun x_7 ex_7 => ?_)
        refine lv_lconst (v := 0) hx hb dX8_thought_228 (by decide) ?_
        refine W.lcmp hx hb dX8_thought_229 ?_
        refine lv_if_ne (tgt := 237) hx hb dX8_thought_230 (by decide) (fun c_8 => ?_) (fun c_8 => ?_)
        · refine lv_lload_n hx hb dX8_thought_237 rfl (lv_at hl 2 rfl) ?_
          refine lv_ldc2 hx hb hown (hts _ tw_1363) dX8_thought_238 ?_
          refine lv_lmul hx hb dX8_thought_241 ?_
          refine lv_topl (fun x_9 ex_9 => ?_)
          refine lv_lload_n hx hb dX8_thought_242 rfl (lv_at hl 2 rfl) ?_
          refine lv_lload hx hb dX8_thought_243 (lv_at hl 1 rfl) ?_
          refine lv_ladd hx hb dX8_thought_245 ?_
          refine lv_topl (fun x_10 ex_10 => ?_)
          refine lv_ldiv hx hb dX8_thought_246 (fun h => c_8 (by rw [ex_7, ← ex_10, h]; decide)) ?_
          refine lv_topl (fun x_11 ex_11 => ?_)
          refine lv_l2i hx hb dX8_thought_247 rfl ?_
          refine lv_topi (fun x_12 ex_12 => ?_)
          exact W.iret (v := x_12) hx hb hr (fun t ht hW => ⟨⟨x_12, (), rfl, trivial, trivial⟩, hS.F ht⟩) hS.2.2 dX8_thought_248
        · refine lv_iconst (v := 0) hx hb dX8_thought_233 (by decide) ?_
          refine lv_goto (tgt := 248) hx hb dX8_thought_234 (by decide) ?_
          exact W.iret (v := 0) hx hb hr (fun t ht hW => ⟨⟨0, (), rfl, trivial, trivial⟩, hS.F ht⟩) hS.2.2 dX8_thought_248
      · have c_6 : ¬ (rw ≤ ii_5) := fun h => c_6 ((nI_leI (a := rw) (b := ii_5) (by omega) (by omega)).mpr h)
        refine lv_iload hx hb dX8_thought_41 (lv_at hl 0 rfl) ?_
        refine lv_aload_n hx hb dX8_thought_43 rfl (lv_at hl 3 rfl) ?_
        refine va_get (D := D) (ci := 8) (v := .ref (a 1)) (C := RX8) (T := TX8) (N := 44) hx hb hts inX8 hown hK hP 0 rfl rfl 0 (by decide) (hts _ tw_973) (fun _ h9 => h9) rfl dX8_thought_44 ?_
        refine lv_iload_n hx hb dX8_thought_47 rfl (lv_at hl 4 rfl) ?_
        refine va_iald hx hb hK hP 1 1 rfl rfl (vp_in_nI (by omega) (by decide)) dX8_thought_48 ?_
        refine lv_ti (y := (nI (dn j_2))) (by rw [nI_clamp (by omega)]; rfl) ?_
        refine lv_icmp_ge (tgt := 224) hx hb dX8_thought_49 (by decide) (fun c_13 => ?_) (fun c_13 => ?_)
        · have c_13 := (nI_leI (a := (dn j_2)) (b := ii_5) (by omega) (by omega)).mp c_13
          refine lv_lload_n hx hb dX8_thought_224 rfl (lv_at hl 2 rfl) ?_
          refine lv_lload hx hb dX8_thought_225 (lv_at hl 1 rfl) ?_
          refine lv_ladd hx hb dX8_thought_227 ?_
          refine lv_topl (fun x_14 ex_14 => ?_)
          refine lv_lconst (v := 0) hx hb dX8_thought_228 (by decide) ?_
          refine W.lcmp hx hb dX8_thought_229 ?_
          refine lv_if_ne (tgt := 237) hx hb dX8_thought_230 (by decide) (fun c_15 => ?_) (fun c_15 => ?_)
          · refine lv_lload_n hx hb dX8_thought_237 rfl (lv_at hl 2 rfl) ?_
            refine lv_ldc2 hx hb hown (hts _ tw_1363) dX8_thought_238 ?_
            refine lv_lmul hx hb dX8_thought_241 ?_
            refine lv_topl (fun x_16 ex_16 => ?_)
            refine lv_lload_n hx hb dX8_thought_242 rfl (lv_at hl 2 rfl) ?_
            refine lv_lload hx hb dX8_thought_243 (lv_at hl 1 rfl) ?_
            refine lv_ladd hx hb dX8_thought_245 ?_
            refine lv_topl (fun x_17 ex_17 => ?_)
            refine lv_ldiv hx hb dX8_thought_246 (fun h => c_15 (by rw [ex_14, ← ex_17, h]; decide)) ?_
            refine lv_topl (fun x_18 ex_18 => ?_)
            refine lv_l2i hx hb dX8_thought_247 rfl ?_
            refine lv_topi (fun x_19 ex_19 => ?_)
            exact W.iret (v := x_19) hx hb hr (fun t ht hW => ⟨⟨x_19, (), rfl, trivial, trivial⟩, hS.F ht⟩) hS.2.2 dX8_thought_248
          · refine lv_iconst (v := 0) hx hb dX8_thought_233 (by decide) ?_
            refine lv_goto (tgt := 248) hx hb dX8_thought_234 (by decide) ?_
            exact W.iret (v := 0) hx hb hr (fun t ht hW => ⟨⟨0, (), rfl, trivial, trivial⟩, hS.F ht⟩) hS.2.2 dX8_thought_248
        · have c_13 : ¬ ((dn j_2) ≤ ii_5) := fun h => c_13 ((nI_leI (a := (dn j_2)) (b := ii_5) (by omega) (by omega)).mpr h)
          refine lv_iload hx hb dX8_thought_52 (lv_at hl 0 rfl) ?_
          refine lv_aload_n hx hb dX8_thought_54 rfl (lv_at hl 3 rfl) ?_
          refine va_get (D := D) (ci := 8) (v := .ref (a 1)) (C := RX8) (T := TX8) (N := 44) hx hb hts inX8 hown hK hP 0 rfl rfl 0 (by decide) (hts _ tw_973) (fun _ h9 => h9) rfl dX8_thought_55 ?_
          refine lv_iload_n hx hb dX8_thought_58 rfl (lv_at hl 5 rfl) ?_
          refine va_iald hx hb hK hP 1 1 rfl rfl (vp_in_nI (by omega) (by decide)) dX8_thought_59 ?_
          refine lv_ti (y := (nI (dn j_4))) (by rw [nI_clamp (by omega)]; rfl) ?_
          refine lv_icmp_ge (tgt := 224) hx hb dX8_thought_60 (by decide) (fun c_20 => ?_) (fun c_20 => ?_)
          · have c_20 := (nI_leI (a := (dn j_4)) (b := ii_5) (by omega) (by omega)).mp c_20
            refine lv_lload_n hx hb dX8_thought_224 rfl (lv_at hl 2 rfl) ?_
            refine lv_lload hx hb dX8_thought_225 (lv_at hl 1 rfl) ?_
            refine lv_ladd hx hb dX8_thought_227 ?_
            refine lv_topl (fun x_21 ex_21 => ?_)
            refine lv_lconst (v := 0) hx hb dX8_thought_228 (by decide) ?_
            refine W.lcmp hx hb dX8_thought_229 ?_
            refine lv_if_ne (tgt := 237) hx hb dX8_thought_230 (by decide) (fun c_22 => ?_) (fun c_22 => ?_)
            · refine lv_lload_n hx hb dX8_thought_237 rfl (lv_at hl 2 rfl) ?_
              refine lv_ldc2 hx hb hown (hts _ tw_1363) dX8_thought_238 ?_
              refine lv_lmul hx hb dX8_thought_241 ?_
              refine lv_topl (fun x_23 ex_23 => ?_)
              refine lv_lload_n hx hb dX8_thought_242 rfl (lv_at hl 2 rfl) ?_
              refine lv_lload hx hb dX8_thought_243 (lv_at hl 1 rfl) ?_
              refine lv_ladd hx hb dX8_thought_245 ?_
              refine lv_topl (fun x_24 ex_24 => ?_)
              refine lv_ldiv hx hb dX8_thought_246 (fun h => c_22 (by rw [ex_21, ← ex_24, h]; decide)) ?_
              refine lv_topl (fun x_25 ex_25 => ?_)
              refine lv_l2i hx hb dX8_thought_247 rfl ?_
              refine lv_topi (fun x_26 ex_26 => ?_)
              exact W.iret (v := x_26) hx hb hr (fun t ht hW => ⟨⟨x_26, (), rfl, trivial, trivial⟩, hS.F ht⟩) hS.2.2 dX8_thought_248
            · refine lv_iconst (v := 0) hx hb dX8_thought_233 (by decide) ?_
              refine lv_goto (tgt := 248) hx hb dX8_thought_234 (by decide) ?_
              exact W.iret (v := 0) hx hb hr (fun t ht hW => ⟨⟨0, (), rfl, trivial, trivial⟩, hS.F ht⟩) hS.2.2 dX8_thought_248
          · have c_20 : ¬ ((dn j_4) ≤ ii_5) := fun h => c_20 ((nI_leI (a := (dn j_4)) (b := ii_5) (by omega) (by omega)).mpr h)
            refine lv_iload hx hb dX8_thought_63 (lv_at hl 0 rfl) ?_
            refine lv_if_le (tgt := 93) hx hb dX8_thought_65 (by decide) (fun c_27 => ?_) (fun c_27 => ?_)
            · have c_27 := (nI_leI (a := ii_5) (b := 0) (by omega) (by omega)).mp c_27
              refine lv_iconst (v := 0) hx hb dX8_thought_93 (by decide) ?_
              refine lv_istore (lv' := [(8, .int 0), (7, .int (nI ii_5)), (5, .long v2_5), (3, .long w2_5), (0, .ref (a 0)), (1, .int (nI j_2)), (2, .int (nI j_4))]) hx hb dX8_thought_94 hl (by decide) rfl (fun ls hl => ?_)
              refine lv_aload_n hx hb dX8_thought_96 rfl (lv_at hl 4 rfl) ?_
              refine lv_iload_n hx hb dX8_thought_97 rfl (lv_at hl 5 rfl) ?_
              refine lv_iload hx hb dX8_thought_98 (lv_at hl 1 rfl) ?_
              refine lv_iload hx hb dX8_thought_100 (lv_at hl 0 rfl) ?_
              refine ro_i (D := D) (va_runV (As := [.int (nI j_2), .int (nI ii_5), .int 0]) (rest := []) ⟨hx, hb, hml, hown, hts⟩ ((m_chanceOf l D k st lo a tx t0 we rd ru rw ca fp wd nu na ts df db sd ffrees se tm gs j_2 ii_5 0 (by omega) (by omega)) H.size) (cwV 3 hts (gV tw_1210 tw_1212 tw_41 tw_87 tw_1213) rfl rfl rfl (by decide +kernel) ⟨Nat.le_of_ble_eq_true rfl, Nat.le_of_ble_eq_true rfl⟩) (pV hS hAlo hlo hP hK hDL hZ [0, 3, 2] (by decide) rfl (ci := 8) (q := (RX8, TX8, 44)) (q0 := 0) rfl rfl) rfl rfl hl.1 rfl (lv_room (Nat.le_of_ble_eq_true rfl)) dX8_thought_102 ⟨Nat.le_of_ble_eq_true rfl, Nat.le_of_ble_eq_true rfl⟩) hS hA hP (fun r_28 H locs hw_28 hP hS => ?_)
              try dsimp only at hw_28
              refine lv_istore (lv' := [(9, .int r_28), (8, .int 0), (7, .int (nI ii_5)), (5, .long v2_5), (3, .long w2_5), (0, .ref (a 0)), (1, .int (nI j_2)), (2, .int (nI j_4))]) hx hb dX8_thought_105 hl (by decide) rfl (fun ls hl => ?_)
              refine lv_aload_n hx hb dX8_thought_107 rfl (lv_at hl 5 rfl) ?_
              refine lv_iload_n hx hb dX8_thought_108 rfl (lv_at hl 7 rfl) ?_
              refine lv_iload hx hb dX8_thought_109 (lv_at hl 2 rfl) ?_
              refine lv_iload hx hb dX8_thought_111 (lv_at hl 1 rfl) ?_
              refine ro_i (D := D) (va_runV (As := [.int (nI j_4), .int (nI ii_5), .int 0]) (rest := []) ⟨hx, hb, hml, hown, hts⟩ ((m_chanceOf l D k st lo a tx t0 we rd ru rw ca fp wd nu na ts df db sd ffrees se tm gs j_4 ii_5 0 (by omega) (by omega)) H.size) (cwV 3 hts (gV tw_1210 tw_1212 tw_41 tw_87 tw_1213) rfl rfl rfl (by decide +kernel) ⟨Nat.le_of_ble_eq_true rfl, Nat.le_of_ble_eq_true rfl⟩) (pV hS hAlo hlo hP hK hDL hZ [0, 3, 2] (by decide) rfl (ci := 8) (q := (RX8, TX8, 44)) (q0 := 0) rfl rfl) rfl rfl hl.1 rfl (lv_room (Nat.le_of_ble_eq_true rfl)) dX8_thought_113 ⟨Nat.le_of_ble_eq_true rfl, Nat.le_of_ble_eq_true rfl⟩) hS hA hP (fun r_29 H locs hw_29 hP hS => ?_)
              try dsimp only at hw_29
              refine lv_istore (lv' := [(10, .int r_29), (9, .int r_28), (8, .int 0), (7, .int (nI ii_5)), (5, .long v2_5), (3, .long w2_5), (0, .ref (a 0)), (1, .int (nI j_2)), (2, .int (nI j_4))]) hx hb dX8_thought_116 hl (by decide) rfl (fun ls hl => ?_)
              refine lv_lload_n hx hb dX8_thought_118 rfl (lv_at hl 5 rfl) ?_
              refine lv_aload_n hx hb dX8_thought_119 rfl (lv_at hl 6 rfl) ?_
              refine va_get (D := D) (ci := 8) (v := .ref (a 32)) (C := RX8) (T := TX8) (N := 44) hx hb hts inX8 hown hK hP 0 rfl rfl 31 (by decide) (hts _ tw_1004) (fun _ h9 => h9) rfl dX8_thought_120 ?_
              refine lv_iload hx hb dX8_thought_123 (lv_at hl 3 rfl) ?_
              refine va_zald hx hb hK hP 4 2 rfl rfl (vp_in_nI (by omega) (by decide)) dX8_thought_125 ?_
              refine lv_ti (y := (frow ii_5)) (by rw [nI_clamp (by omega)]) ?_
              refine lv_if_eq (tgt := 134) hx hb dX8_thought_126 (by decide) (fun c_30 => ?_) (fun c_30 => ?_)
              · refine lv_bipush (v := 100) hx hb dX8_thought_134 (by decide) ?_
                refine lv_iload hx hb dX8_thought_136 (lv_at hl 1 rfl) ?_
                refine lv_isub hx hb dX8_thought_138 ?_
                refine lv_topi (fun x_31 ex_31 => ?_)
                refine lv_i2l (v := x_31.toInt64) hx hb dX8_thought_139 rfl ?_
                refine lv_lmul hx hb dX8_thought_140 ?_
                refine lv_topl (fun x_32 ex_32 => ?_)
                refine lv_ldc2 hx hb hown (hts _ tw_1272) dX8_thought_141 ?_
                refine lv_ldiv hx hb dX8_thought_144 (by decide) ?_
                refine lv_topl (fun x_33 ex_33 => ?_)
                refine lv_lstore_n (lv' := [(3, .long x_33), (10, .int r_29), (9, .int r_28), (8, .int 0), (7, .int (nI ii_5)), (5, .long v2_5), (0, .ref (a 0)), (1, .int (nI j_2)), (2, .int (nI j_4))]) hx hb dX8_thought_145 rfl hl (by decide) rfl (fun ls hl => ?_)
                refine lv_lload hx hb dX8_thought_146 (lv_at hl 5 rfl) ?_
                refine lv_aload_n hx hb dX8_thought_148 rfl (lv_at hl 6 rfl) ?_
                refine va_get (D := D) (ci := 8) (v := .ref (a 32)) (C := RX8) (T := TX8) (N := 44) hx hb hts inX8 hown hK hP 0 rfl rfl 31 (by decide) (hts _ tw_1004) (fun _ h9 => h9) rfl dX8_thought_149 ?_
                refine lv_iload hx hb dX8_thought_152 (lv_at hl 4 rfl) ?_
                refine va_zald hx hb hK hP 4 2 rfl rfl (vp_in_nI (by omega) (by decide)) dX8_thought_154 ?_
                refine lv_ti (y := (frow ii_5)) (by rw [nI_clamp (by omega)]) ?_
                refine lv_if_eq (tgt := 163) hx hb dX8_thought_155 (by decide) (fun c_34 => ?_) (fun c_34 => ?_)
                · refine lv_bipush (v := 100) hx hb dX8_thought_163 (by decide) ?_
                  refine lv_iload hx hb dX8_thought_165 (lv_at hl 1 rfl) ?_
                  refine lv_isub hx hb dX8_thought_167 ?_
                  refine lv_topi (fun x_35 ex_35 => ?_)
                  refine lv_i2l (v := x_35.toInt64) hx hb dX8_thought_168 rfl ?_
                  refine lv_lmul hx hb dX8_thought_169 ?_
                  refine lv_topl (fun x_36 ex_36 => ?_)
                  refine lv_ldc2 hx hb hown (hts _ tw_1272) dX8_thought_170 ?_
                  refine lv_ldiv hx hb dX8_thought_173 (by decide) ?_
                  refine lv_topl (fun x_37 ex_37 => ?_)
                  refine lv_lstore (lv' := [(5, .long x_37), (3, .long x_33), (10, .int r_29), (9, .int r_28), (8, .int 0), (7, .int (nI ii_5)), (0, .ref (a 0)), (1, .int (nI j_2)), (2, .int (nI j_4))]) hx hb dX8_thought_174 hl (by decide) rfl (fun ls hl => ?_)
                  refine lv_lload_n hx hb dX8_thought_176 rfl (lv_at hl 1 rfl) ?_
                  refine lv_lload hx hb dX8_thought_177 (lv_at hl 0 rfl) ?_
                  refine W.lcmp hx hb dX8_thought_179 ?_
                  refine lv_if_le (tgt := 187) hx hb dX8_thought_180 (by decide) (fun c_38 => ?_) (fun c_38 => ?_)
                  · refine lv_lload hx hb dX8_thought_187 (lv_at hl 0 rfl) ?_
                    refine lv_lstore (lv' := [(11, .long x_37), (5, .long x_37), (3, .long x_33), (10, .int r_29), (9, .int r_28), (8, .int 0), (7, .int (nI ii_5)), (0, .ref (a 0)), (1, .int (nI j_2)), (2, .int (nI j_4))]) hx hb dX8_thought_189 hl (by decide) rfl (fun ls hl => ?_)
                    refine lv_lload hx hb dX8_thought_191 (lv_at hl 0 rfl) ?_
                    refine lv_lconst (v := 0) hx hb dX8_thought_193 (by decide) ?_
                    refine W.lcmp hx hb dX8_thought_194 ?_
                    refine lv_if_le (tgt := 218) hx hb dX8_thought_195 (by decide) (fun c_39 => ?_) (fun c_39 => ?_)
                    · refine lv_iinc (v := (nI (ii_5 + 1))) (lv' := [(7, .int (nI (ii_5 + 1))), (11, .long x_37), (5, .long x_37), (3, .long x_33), (10, .int r_29), (9, .int r_28), (8, .int 0), (0, .ref (a 0)), (1, .int (nI j_2)), (2, .int (nI j_4))]) hx hb dX8_thought_218 hl (k := 6) rfl (nI_add ii_5 1) (by decide) rfl (fun ls hl => ?_)
                      refine lv_goto (tgt := 32) hx hb dX8_thought_221 (by decide) ?_
                      exact ih_5 _ (ii_5 + 1, x_33, x_37) _ _ _ (by omega) ⟨rfl, (by omega), hP, hS, (lv_sub hl [0, 2, 3, 7, 8, 9] rfl)⟩
                    · refine lv_lload_n hx hb dX8_thought_198 rfl (lv_at hl 2 rfl) ?_
                      refine lv_ldc2 hx hb hown (hts _ tw_1363) dX8_thought_199 ?_
                      refine lv_lmul hx hb dX8_thought_202 ?_
                      refine lv_topl (fun x_40 ex_40 => ?_)
                      refine lv_lload hx hb dX8_thought_203 (lv_at hl 0 rfl) ?_
                      refine lv_ldiv hx hb dX8_thought_205 (fun h => c_39 (by rw [h]; decide)) ?_
                      refine lv_topl (fun x_41 ex_41 => ?_)
                      refine lv_lstore_n (lv' := [(3, .long x_41), (11, .long x_37), (5, .long x_37), (10, .int r_29), (9, .int r_28), (8, .int 0), (7, .int (nI ii_5)), (0, .ref (a 0)), (1, .int (nI j_2)), (2, .int (nI j_4))]) hx hb dX8_thought_206 rfl hl (by decide) rfl (fun ls hl => ?_)
                      refine lv_lload hx hb dX8_thought_207 (lv_at hl 2 rfl) ?_
                      refine lv_ldc2 hx hb hown (hts _ tw_1363) dX8_thought_209 ?_
                      refine lv_lmul hx hb dX8_thought_212 ?_
                      refine lv_topl (fun x_42 ex_42 => ?_)
                      refine lv_lload hx hb dX8_thought_213 (lv_at hl 1 rfl) ?_
                      refine lv_ldiv hx hb dX8_thought_215 (fun h => c_39 (by rw [h]; decide)) ?_
                      refine lv_topl (fun x_43 ex_43 => ?_)
                      refine lv_lstore (lv' := [(5, .long x_43), (3, .long x_41), (11, .long x_37), (10, .int r_29), (9, .int r_28), (8, .int 0), (7, .int (nI ii_5)), (0, .ref (a 0)), (1, .int (nI j_2)), (2, .int (nI j_4))]) hx hb dX8_thought_216 hl (by decide) rfl (fun ls hl => ?_)
                      refine lv_iinc (v := (nI (ii_5 + 1))) (lv' := [(7, .int (nI (ii_5 + 1))), (5, .long x_43), (3, .long x_41), (11, .long x_37), (10, .int r_29), (9, .int r_28), (8, .int 0), (0, .ref (a 0)), (1, .int (nI j_2)), (2, .int (nI j_4))]) hx hb dX8_thought_218 hl (k := 6) rfl (nI_add ii_5 1) (by decide) rfl (fun ls hl => ?_)
                      refine lv_goto (tgt := 32) hx hb dX8_thought_221 (by decide) ?_
                      exact ih_5 _ (ii_5 + 1, x_41, x_43) _ _ _ (by omega) ⟨rfl, (by omega), hP, hS, (lv_sub hl [0, 1, 2, 7, 8, 9] rfl)⟩
                  · refine lv_lload_n hx hb dX8_thought_183 rfl (lv_at hl 1 rfl) ?_
                    refine lv_goto (tgt := 189) hx hb dX8_thought_184 (by decide) ?_
                    refine lv_lstore (lv' := [(11, .long x_33), (5, .long x_37), (3, .long x_33), (10, .int r_29), (9, .int r_28), (8, .int 0), (7, .int (nI ii_5)), (0, .ref (a 0)), (1, .int (nI j_2)), (2, .int (nI j_4))]) hx hb dX8_thought_189 hl (by decide) rfl (fun ls hl => ?_)
                    refine lv_lload hx hb dX8_thought_191 (lv_at hl 0 rfl) ?_
                    refine lv_lconst (v := 0) hx hb dX8_thought_193 (by decide) ?_
                    refine W.lcmp hx hb dX8_thought_194 ?_
                    refine lv_if_le (tgt := 218) hx hb dX8_thought_195 (by decide) (fun c_44 => ?_) (fun c_44 => ?_)
                    · refine lv_iinc (v := (nI (ii_5 + 1))) (lv' := [(7, .int (nI (ii_5 + 1))), (11, .long x_33), (5, .long x_37), (3, .long x_33), (10, .int r_29), (9, .int r_28), (8, .int 0), (0, .ref (a 0)), (1, .int (nI j_2)), (2, .int (nI j_4))]) hx hb dX8_thought_218 hl (k := 6) rfl (nI_add ii_5 1) (by decide) rfl (fun ls hl => ?_)
                      refine lv_goto (tgt := 32) hx hb dX8_thought_221 (by decide) ?_
                      exact ih_5 _ (ii_5 + 1, x_33, x_37) _ _ _ (by omega) ⟨rfl, (by omega), hP, hS, (lv_sub hl [0, 2, 3, 7, 8, 9] rfl)⟩
                    · refine lv_lload_n hx hb dX8_thought_198 rfl (lv_at hl 2 rfl) ?_
                      refine lv_ldc2 hx hb hown (hts _ tw_1363) dX8_thought_199 ?_
                      refine lv_lmul hx hb dX8_thought_202 ?_
                      refine lv_topl (fun x_45 ex_45 => ?_)
                      refine lv_lload hx hb dX8_thought_203 (lv_at hl 0 rfl) ?_
                      refine lv_ldiv hx hb dX8_thought_205 (fun h => c_44 (by rw [h]; decide)) ?_
                      refine lv_topl (fun x_46 ex_46 => ?_)
                      refine lv_lstore_n (lv' := [(3, .long x_46), (11, .long x_33), (5, .long x_37), (10, .int r_29), (9, .int r_28), (8, .int 0), (7, .int (nI ii_5)), (0, .ref (a 0)), (1, .int (nI j_2)), (2, .int (nI j_4))]) hx hb dX8_thought_206 rfl hl (by decide) rfl (fun ls hl => ?_)
                      refine lv_lload hx hb dX8_thought_207 (lv_at hl 2 rfl) ?_
                      refine lv_ldc2 hx hb hown (hts _ tw_1363) dX8_thought_209 ?_
                      refine lv_lmul hx hb dX8_thought_212 ?_
                      refine lv_topl (fun x_47 ex_47 => ?_)
                      refine lv_lload hx hb dX8_thought_213 (lv_at hl 1 rfl) ?_
                      refine lv_ldiv hx hb dX8_thought_215 (fun h => c_44 (by rw [h]; decide)) ?_
                      refine lv_topl (fun x_48 ex_48 => ?_)
                      refine lv_lstore (lv' := [(5, .long x_48), (3, .long x_46), (11, .long x_33), (10, .int r_29), (9, .int r_28), (8, .int 0), (7, .int (nI ii_5)), (0, .ref (a 0)), (1, .int (nI j_2)), (2, .int (nI j_4))]) hx hb dX8_thought_216 hl (by decide) rfl (fun ls hl => ?_)
                      refine lv_iinc (v := (nI (ii_5 + 1))) (lv' := [(7, .int (nI (ii_5 + 1))), (5, .long x_48), (3, .long x_46), (11, .long x_33), (10, .int r_29), (9, .int r_28), (8, .int 0), (0, .ref (a 0)), (1, .int (nI j_2)), (2, .int (nI j_4))]) hx hb dX8_thought_218 hl (k := 6) rfl (nI_add ii_5 1) (by decide) rfl (fun ls hl => ?_)
                      refine lv_goto (tgt := 32) hx hb dX8_thought_221 (by decide) ?_
                      exact ih_5 _ (ii_5 + 1, x_46, x_48) _ _ _ (by omega) ⟨rfl, (by omega), hP, hS, (lv_sub hl [0, 1, 2, 7, 8, 9] rfl)⟩
                · refine lv_iload hx hb dX8_thought_158 (lv_at hl 1 rfl) ?_
                  refine lv_goto (tgt := 168) hx hb dX8_thought_160 (by decide) ?_
                  refine lv_i2l (v := r_29.toInt64) hx hb dX8_thought_168 rfl ?_
                  refine lv_lmul hx hb dX8_thought_169 ?_
                  refine lv_topl (fun x_49 ex_49 => ?_)
                  refine lv_ldc2 hx hb hown (hts _ tw_1272) dX8_thought_170 ?_
                  refine lv_ldiv hx hb dX8_thought_173 (by decide) ?_
                  refine lv_topl (fun x_50 ex_50 => ?_)
                  refine lv_lstore (lv' := [(5, .long x_50), (3, .long x_33), (10, .int r_29), (9, .int r_28), (8, .int 0), (7, .int (nI ii_5)), (0, .ref (a 0)), (1, .int (nI j_2)), (2, .int (nI j_4))]) hx hb dX8_thought_174 hl (by decide) rfl (fun ls hl => ?_)
                  refine lv_lload_n hx hb dX8_thought_176 rfl (lv_at hl 1 rfl) ?_
                  refine lv_lload hx hb dX8_thought_177 (lv_at hl 0 rfl) ?_
                  refine W.lcmp hx hb dX8_thought_179 ?_
                  refine lv_if_le (tgt := 187) hx hb dX8_thought_180 (by decide) (fun c_51 => ?_) (fun c_51 => ?_)
                  · refine lv_lload hx hb dX8_thought_187 (lv_at hl 0 rfl) ?_
                    refine lv_lstore (lv' := [(11, .long x_50), (5, .long x_50), (3, .long x_33), (10, .int r_29), (9, .int r_28), (8, .int 0), (7, .int (nI ii_5)), (0, .ref (a 0)), (1, .int (nI j_2)), (2, .int (nI j_4))]) hx hb dX8_thought_189 hl (by decide) rfl (fun ls hl => ?_)
                    refine lv_lload hx hb dX8_thought_191 (lv_at hl 0 rfl) ?_
                    refine lv_lconst (v := 0) hx hb dX8_thought_193 (by decide) ?_
                    refine W.lcmp hx hb dX8_thought_194 ?_
                    refine lv_if_le (tgt := 218) hx hb dX8_thought_195 (by decide) (fun c_52 => ?_) (fun c_52 => ?_)
                    · refine lv_iinc (v := (nI (ii_5 + 1))) (lv' := [(7, .int (nI (ii_5 + 1))), (11, .long x_50), (5, .long x_50), (3, .long x_33), (10, .int r_29), (9, .int r_28), (8, .int 0), (0, .ref (a 0)), (1, .int (nI j_2)), (2, .int (nI j_4))]) hx hb dX8_thought_218 hl (k := 6) rfl (nI_add ii_5 1) (by decide) rfl (fun ls hl => ?_)
                      refine lv_goto (tgt := 32) hx hb dX8_thought_221 (by decide) ?_
                      exact ih_5 _ (ii_5 + 1, x_33, x_50) _ _ _ (by omega) ⟨rfl, (by omega), hP, hS, (lv_sub hl [0, 2, 3, 7, 8, 9] rfl)⟩
                    · refine lv_lload_n hx hb dX8_thought_198 rfl (lv_at hl 2 rfl) ?_
                      refine lv_ldc2 hx hb hown (hts _ tw_1363) dX8_thought_199 ?_
                      refine lv_lmul hx hb dX8_thought_202 ?_
                      refine lv_topl (fun x_53 ex_53 => ?_)
                      refine lv_lload hx hb dX8_thought_203 (lv_at hl 0 rfl) ?_
                      refine lv_ldiv hx hb dX8_thought_205 (fun h => c_52 (by rw [h]; decide)) ?_
                      refine lv_topl (fun x_54 ex_54 => ?_)
                      refine lv_lstore_n (lv' := [(3, .long x_54), (11, .long x_50), (5, .long x_50), (10, .int r_29), (9, .int r_28), (8, .int 0), (7, .int (nI ii_5)), (0, .ref (a 0)), (1, .int (nI j_2)), (2, .int (nI j_4))]) hx hb dX8_thought_206 rfl hl (by decide) rfl (fun ls hl => ?_)
                      refine lv_lload hx hb dX8_thought_207 (lv_at hl 2 rfl) ?_
                      refine lv_ldc2 hx hb hown (hts _ tw_1363) dX8_thought_209 ?_
                      refine lv_lmul hx hb dX8_thought_212 ?_
                      refine lv_topl (fun x_55 ex_55 => ?_)
                      refine lv_lload hx hb dX8_thought_213 (lv_at hl 1 rfl) ?_
                      refine lv_ldiv hx hb dX8_thought_215 (fun h => c_52 (by rw [h]; decide)) ?_
                      refine lv_topl (fun x_56 ex_56 => ?_)
                      refine lv_lstore (lv' := [(5, .long x_56), (3, .long x_54), (11, .long x_50), (10, .int r_29), (9, .int r_28), (8, .int 0), (7, .int (nI ii_5)), (0, .ref (a 0)), (1, .int (nI j_2)), (2, .int (nI j_4))]) hx hb dX8_thought_216 hl (by decide) rfl (fun ls hl => ?_)
                      refine lv_iinc (v := (nI (ii_5 + 1))) (lv' := [(7, .int (nI (ii_5 + 1))), (5, .long x_56), (3, .long x_54), (11, .long x_50), (10, .int r_29), (9, .int r_28), (8, .int 0), (0, .ref (a 0)), (1, .int (nI j_2)), (2, .int (nI j_4))]) hx hb dX8_thought_218 hl (k := 6) rfl (nI_add ii_5 1) (by decide) rfl (fun ls hl => ?_)
                      refine lv_goto (tgt := 32) hx hb dX8_thought_221 (by decide) ?_
                      exact ih_5 _ (ii_5 + 1, x_54, x_56) _ _ _ (by omega) ⟨rfl, (by omega), hP, hS, (lv_sub hl [0, 1, 2, 7, 8, 9] rfl)⟩
                  · refine lv_lload_n hx hb dX8_thought_183 rfl (lv_at hl 1 rfl) ?_
                    refine lv_goto (tgt := 189) hx hb dX8_thought_184 (by decide) ?_
                    refine lv_lstore (lv' := [(11, .long x_33), (5, .long x_50), (3, .long x_33), (10, .int r_29), (9, .int r_28), (8, .int 0), (7, .int (nI ii_5)), (0, .ref (a 0)), (1, .int (nI j_2)), (2, .int (nI j_4))]) hx hb dX8_thought_189 hl (by decide) rfl (fun ls hl => ?_)
                    refine lv_lload hx hb dX8_thought_191 (lv_at hl 0 rfl) ?_
                    refine lv_lconst (v := 0) hx hb dX8_thought_193 (by decide) ?_
                    refine W.lcmp hx hb dX8_thought_194 ?_
                    refine lv_if_le (tgt := 218) hx hb dX8_thought_195 (by decide) (fun c_57 => ?_) (fun c_57 => ?_)
                    · refine lv_iinc (v := (nI (ii_5 + 1))) (lv' := [(7, .int (nI (ii_5 + 1))), (11, .long x_33), (5, .long x_50), (3, .long x_33), (10, .int r_29), (9, .int r_28), (8, .int 0), (0, .ref (a 0)), (1, .int (nI j_2)), (2, .int (nI j_4))]) hx hb dX8_thought_218 hl (k := 6) rfl (nI_add ii_5 1) (by decide) rfl (fun ls hl => ?_)
                      refine lv_goto (tgt := 32) hx hb dX8_thought_221 (by decide) ?_
                      exact ih_5 _ (ii_5 + 1, x_33, x_50) _ _ _ (by omega) ⟨rfl, (by omega), hP, hS, (lv_sub hl [0, 2, 3, 7, 8, 9] rfl)⟩
                    · refine lv_lload_n hx hb dX8_thought_198 rfl (lv_at hl 2 rfl) ?_
                      refine lv_ldc2 hx hb hown (hts _ tw_1363) dX8_thought_199 ?_
                      refine lv_lmul hx hb dX8_thought_202 ?_
                      refine lv_topl (fun x_58 ex_58 => ?_)
                      refine lv_lload hx hb dX8_thought_203 (lv_at hl 0 rfl) ?_
                      refine lv_ldiv hx hb dX8_thought_205 (fun h => c_57 (by rw [h]; decide)) ?_
                      refine lv_topl (fun x_59 ex_59 => ?_)
                      refine lv_lstore_n (lv' := [(3, .long x_59), (11, .long x_33), (5, .long x_50), (10, .int r_29), (9, .int r_28), (8, .int 0), (7, .int (nI ii_5)), (0, .ref (a 0)), (1, .int (nI j_2)), (2, .int (nI j_4))]) hx hb dX8_thought_206 rfl hl (by decide) rfl (fun ls hl => ?_)
                      refine lv_lload hx hb dX8_thought_207 (lv_at hl 2 rfl) ?_
                      refine lv_ldc2 hx hb hown (hts _ tw_1363) dX8_thought_209 ?_
                      refine lv_lmul hx hb dX8_thought_212 ?_
                      refine lv_topl (fun x_60 ex_60 => ?_)
                      refine lv_lload hx hb dX8_thought_213 (lv_at hl 1 rfl) ?_
                      refine lv_ldiv hx hb dX8_thought_215 (fun h => c_57 (by rw [h]; decide)) ?_
                      refine lv_topl (fun x_61 ex_61 => ?_)
                      refine lv_lstore (lv' := [(5, .long x_61), (3, .long x_59), (11, .long x_33), (10, .int r_29), (9, .int r_28), (8, .int 0), (7, .int (nI ii_5)), (0, .ref (a 0)), (1, .int (nI j_2)), (2, .int (nI j_4))]) hx hb dX8_thought_216 hl (by decide) rfl (fun ls hl => ?_)
                      refine lv_iinc (v := (nI (ii_5 + 1))) (lv' := [(7, .int (nI (ii_5 + 1))), (5, .long x_61), (3, .long x_59), (11, .long x_33), (10, .int r_29), (9, .int r_28), (8, .int 0), (0, .ref (a 0)), (1, .int (nI j_2)), (2, .int (nI j_4))]) hx hb dX8_thought_218 hl (k := 6) rfl (nI_add ii_5 1) (by decide) rfl (fun ls hl => ?_)
                      refine lv_goto (tgt := 32) hx hb dX8_thought_221 (by decide) ?_
                      exact ih_5 _ (ii_5 + 1, x_59, x_61) _ _ _ (by omega) ⟨rfl, (by omega), hP, hS, (lv_sub hl [0, 1, 2, 7, 8, 9] rfl)⟩
              · refine lv_iload hx hb dX8_thought_129 (lv_at hl 1 rfl) ?_
                refine lv_goto (tgt := 139) hx hb dX8_thought_131 (by decide) ?_
                refine lv_i2l (v := r_28.toInt64) hx hb dX8_thought_139 rfl ?_
                refine lv_lmul hx hb dX8_thought_140 ?_
                refine lv_topl (fun x_62 ex_62 => ?_)
                refine lv_ldc2 hx hb hown (hts _ tw_1272) dX8_thought_141 ?_
                refine lv_ldiv hx hb dX8_thought_144 (by decide) ?_
                refine lv_topl (fun x_63 ex_63 => ?_)
                refine lv_lstore_n (lv' := [(3, .long x_63), (10, .int r_29), (9, .int r_28), (8, .int 0), (7, .int (nI ii_5)), (5, .long v2_5), (0, .ref (a 0)), (1, .int (nI j_2)), (2, .int (nI j_4))]) hx hb dX8_thought_145 rfl hl (by decide) rfl (fun ls hl => ?_)
                refine lv_lload hx hb dX8_thought_146 (lv_at hl 5 rfl) ?_
                refine lv_aload_n hx hb dX8_thought_148 rfl (lv_at hl 6 rfl) ?_
                refine va_get (D := D) (ci := 8) (v := .ref (a 32)) (C := RX8) (T := TX8) (N := 44) hx hb hts inX8 hown hK hP 0 rfl rfl 31 (by decide) (hts _ tw_1004) (fun _ h9 => h9) rfl dX8_thought_149 ?_
                refine lv_iload hx hb dX8_thought_152 (lv_at hl 4 rfl) ?_
                refine va_zald hx hb hK hP 4 2 rfl rfl (vp_in_nI (by omega) (by decide)) dX8_thought_154 ?_
                refine lv_ti (y := (frow ii_5)) (by rw [nI_clamp (by omega)]) ?_
                refine lv_if_eq (tgt := 163) hx hb dX8_thought_155 (by decide) (fun c_64 => ?_) (fun c_64 => ?_)
                · refine lv_bipush (v := 100) hx hb dX8_thought_163 (by decide) ?_
                  refine lv_iload hx hb dX8_thought_165 (lv_at hl 1 rfl) ?_
                  refine lv_isub hx hb dX8_thought_167 ?_
                  refine lv_topi (fun x_65 ex_65 => ?_)
                  refine lv_i2l (v := x_65.toInt64) hx hb dX8_thought_168 rfl ?_
                  refine lv_lmul hx hb dX8_thought_169 ?_
                  refine lv_topl (fun x_66 ex_66 => ?_)
                  refine lv_ldc2 hx hb hown (hts _ tw_1272) dX8_thought_170 ?_
                  refine lv_ldiv hx hb dX8_thought_173 (by decide) ?_
                  refine lv_topl (fun x_67 ex_67 => ?_)
                  refine lv_lstore (lv' := [(5, .long x_67), (3, .long x_63), (10, .int r_29), (9, .int r_28), (8, .int 0), (7, .int (nI ii_5)), (0, .ref (a 0)), (1, .int (nI j_2)), (2, .int (nI j_4))]) hx hb dX8_thought_174 hl (by decide) rfl (fun ls hl => ?_)
                  refine lv_lload_n hx hb dX8_thought_176 rfl (lv_at hl 1 rfl) ?_
                  refine lv_lload hx hb dX8_thought_177 (lv_at hl 0 rfl) ?_
                  refine W.lcmp hx hb dX8_thought_179 ?_
                  refine lv_if_le (tgt := 187) hx hb dX8_thought_180 (by decide) (fun c_68 => ?_) (fun c_68 => ?_)
                  · refine lv_lload hx hb dX8_thought_187 (lv_at hl 0 rfl) ?_
                    refine lv_lstore (lv' := [(11, .long x_67), (5, .long x_67), (3, .long x_63), (10, .int r_29), (9, .int r_28), (8, .int 0), (7, .int (nI ii_5)), (0, .ref (a 0)), (1, .int (nI j_2)), (2, .int (nI j_4))]) hx hb dX8_thought_189 hl (by decide) rfl (fun ls hl => ?_)
                    refine lv_lload hx hb dX8_thought_191 (lv_at hl 0 rfl) ?_
                    refine lv_lconst (v := 0) hx hb dX8_thought_193 (by decide) ?_
                    refine W.lcmp hx hb dX8_thought_194 ?_
                    refine lv_if_le (tgt := 218) hx hb dX8_thought_195 (by decide) (fun c_69 => ?_) (fun c_69 => ?_)
                    · refine lv_iinc (v := (nI (ii_5 + 1))) (lv' := [(7, .int (nI (ii_5 + 1))), (11, .long x_67), (5, .long x_67), (3, .long x_63), (10, .int r_29), (9, .int r_28), (8, .int 0), (0, .ref (a 0)), (1, .int (nI j_2)), (2, .int (nI j_4))]) hx hb dX8_thought_218 hl (k := 6) rfl (nI_add ii_5 1) (by decide) rfl (fun ls hl => ?_)
                      refine lv_goto (tgt := 32) hx hb dX8_thought_221 (by decide) ?_
                      exact ih_5 _ (ii_5 + 1, x_63, x_67) _ _ _ (by omega) ⟨rfl, (by omega), hP, hS, (lv_sub hl [0, 2, 3, 7, 8, 9] rfl)⟩
                    · refine lv_lload_n hx hb dX8_thought_198 rfl (lv_at hl 2 rfl) ?_
                      refine lv_ldc2 hx hb hown (hts _ tw_1363) dX8_thought_199 ?_
                      refine lv_lmul hx hb dX8_thought_202 ?_
                      refine lv_topl (fun x_70 ex_70 => ?_)
                      refine lv_lload hx hb dX8_thought_203 (lv_at hl 0 rfl) ?_
                      refine lv_ldiv hx hb dX8_thought_205 (fun h => c_69 (by rw [h]; decide)) ?_
                      refine lv_topl (fun x_71 ex_71 => ?_)
                      refine lv_lstore_n (lv' := [(3, .long x_71), (11, .long x_67), (5, .long x_67), (10, .int r_29), (9, .int r_28), (8, .int 0), (7, .int (nI ii_5)), (0, .ref (a 0)), (1, .int (nI j_2)), (2, .int (nI j_4))]) hx hb dX8_thought_206 rfl hl (by decide) rfl (fun ls hl => ?_)
                      refine lv_lload hx hb dX8_thought_207 (lv_at hl 2 rfl) ?_
                      refine lv_ldc2 hx hb hown (hts _ tw_1363) dX8_thought_209 ?_
                      refine lv_lmul hx hb dX8_thought_212 ?_
                      refine lv_topl (fun x_72 ex_72 => ?_)
                      refine lv_lload hx hb dX8_thought_213 (lv_at hl 1 rfl) ?_
                      refine lv_ldiv hx hb dX8_thought_215 (fun h => c_69 (by rw [h]; decide)) ?_
                      refine lv_topl (fun x_73 ex_73 => ?_)
                      refine lv_lstore (lv' := [(5, .long x_73), (3, .long x_71), (11, .long x_67), (10, .int r_29), (9, .int r_28), (8, .int 0), (7, .int (nI ii_5)), (0, .ref (a 0)), (1, .int (nI j_2)), (2, .int (nI j_4))]) hx hb dX8_thought_216 hl (by decide) rfl (fun ls hl => ?_)
                      refine lv_iinc (v := (nI (ii_5 + 1))) (lv' := [(7, .int (nI (ii_5 + 1))), (5, .long x_73), (3, .long x_71), (11, .long x_67), (10, .int r_29), (9, .int r_28), (8, .int 0), (0, .ref (a 0)), (1, .int (nI j_2)), (2, .int (nI j_4))]) hx hb dX8_thought_218 hl (k := 6) rfl (nI_add ii_5 1) (by decide) rfl (fun ls hl => ?_)
                      refine lv_goto (tgt := 32) hx hb dX8_thought_221 (by decide) ?_
                      exact ih_5 _ (ii_5 + 1, x_71, x_73) _ _ _ (by omega) ⟨rfl, (by omega), hP, hS, (lv_sub hl [0, 1, 2, 7, 8, 9] rfl)⟩
                  · refine lv_lload_n hx hb dX8_thought_183 rfl (lv_at hl 1 rfl) ?_
                    refine lv_goto (tgt := 189) hx hb dX8_thought_184 (by decide) ?_
                    refine lv_lstore (lv' := [(11, .long x_63), (5, .long x_67), (3, .long x_63), (10, .int r_29), (9, .int r_28), (8, .int 0), (7, .int (nI ii_5)), (0, .ref (a 0)), (1, .int (nI j_2)), (2, .int (nI j_4))]) hx hb dX8_thought_189 hl (by decide) rfl (fun ls hl => ?_)
                    refine lv_lload hx hb dX8_thought_191 (lv_at hl 0 rfl) ?_
                    refine lv_lconst (v := 0) hx hb dX8_thought_193 (by decide) ?_
                    refine W.lcmp hx hb dX8_thought_194 ?_
                    refine lv_if_le (tgt := 218) hx hb dX8_thought_195 (by decide) (fun c_74 => ?_) (fun c_74 => ?_)
                    · refine lv_iinc (v := (nI (ii_5 + 1))) (lv' := [(7, .int (nI (ii_5 + 1))), (11, .long x_63), (5, .long x_67), (3, .long x_63), (10, .int r_29), (9, .int r_28), (8, .int 0), (0, .ref (a 0)), (1, .int (nI j_2)), (2, .int (nI j_4))]) hx hb dX8_thought_218 hl (k := 6) rfl (nI_add ii_5 1) (by decide) rfl (fun ls hl => ?_)
                      refine lv_goto (tgt := 32) hx hb dX8_thought_221 (by decide) ?_
                      exact ih_5 _ (ii_5 + 1, x_63, x_67) _ _ _ (by omega) ⟨rfl, (by omega), hP, hS, (lv_sub hl [0, 2, 3, 7, 8, 9] rfl)⟩
                    · refine lv_lload_n hx hb dX8_thought_198 rfl (lv_at hl 2 rfl) ?_
                      refine lv_ldc2 hx hb hown (hts _ tw_1363) dX8_thought_199 ?_
                      refine lv_lmul hx hb dX8_thought_202 ?_
                      refine lv_topl (fun x_75 ex_75 => ?_)
                      refine lv_lload hx hb dX8_thought_203 (lv_at hl 0 rfl) ?_
                      refine lv_ldiv hx hb dX8_thought_205 (fun h => c_74 (by rw [h]; decide)) ?_
                      refine lv_topl (fun x_76 ex_76 => ?_)
                      refine lv_lstore_n (lv' := [(3, .long x_76), (11, .long x_63), (5, .long x_67), (10, .int r_29), (9, .int r_28), (8, .int 0), (7, .int (nI ii_5)), (0, .ref (a 0)), (1, .int (nI j_2)), (2, .int (nI j_4))]) hx hb dX8_thought_206 rfl hl (by decide) rfl (fun ls hl => ?_)
                      refine lv_lload hx hb dX8_thought_207 (lv_at hl 2 rfl) ?_
                      refine lv_ldc2 hx hb hown (hts _ tw_1363) dX8_thought_209 ?_
                      refine lv_lmul hx hb dX8_thought_212 ?_
                      refine lv_topl (fun x_77 ex_77 => ?_)
                      refine lv_lload hx hb dX8_thought_213 (lv_at hl 1 rfl) ?_
                      refine lv_ldiv hx hb dX8_thought_215 (fun h => c_74 (by rw [h]; decide)) ?_
                      refine lv_topl (fun x_78 ex_78 => ?_)
                      refine lv_lstore (lv' := [(5, .long x_78), (3, .long x_76), (11, .long x_63), (10, .int r_29), (9, .int r_28), (8, .int 0), (7, .int (nI ii_5)), (0, .ref (a 0)), (1, .int (nI j_2)), (2, .int (nI j_4))]) hx hb dX8_thought_216 hl (by decide) rfl (fun ls hl => ?_)
                      refine lv_iinc (v := (nI (ii_5 + 1))) (lv' := [(7, .int (nI (ii_5 + 1))), (5, .long x_78), (3, .long x_76), (11, .long x_63), (10, .int r_29), (9, .int r_28), (8, .int 0), (0, .ref (a 0)), (1, .int (nI j_2)), (2, .int (nI j_4))]) hx hb dX8_thought_218 hl (k := 6) rfl (nI_add ii_5 1) (by decide) rfl (fun ls hl => ?_)
                      refine lv_goto (tgt := 32) hx hb dX8_thought_221 (by decide) ?_
                      exact ih_5 _ (ii_5 + 1, x_76, x_78) _ _ _ (by omega) ⟨rfl, (by omega), hP, hS, (lv_sub hl [0, 1, 2, 7, 8, 9] rfl)⟩
                · refine lv_iload hx hb dX8_thought_158 (lv_at hl 1 rfl) ?_
                  refine lv_goto (tgt := 168) hx hb dX8_thought_160 (by decide) ?_
                  refine lv_i2l (v := r_29.toInt64) hx hb dX8_thought_168 rfl ?_
                  refine lv_lmul hx hb dX8_thought_169 ?_
                  refine lv_topl (fun x_79 ex_79 => ?_)
                  refine lv_ldc2 hx hb hown (hts _ tw_1272) dX8_thought_170 ?_
                  refine lv_ldiv hx hb dX8_thought_173 (by decide) ?_
                  refine lv_topl (fun x_80 ex_80 => ?_)
                  refine lv_lstore (lv' := [(5, .long x_80), (3, .long x_63), (10, .int r_29), (9, .int r_28), (8, .int 0), (7, .int (nI ii_5)), (0, .ref (a 0)), (1, .int (nI j_2)), (2, .int (nI j_4))]) hx hb dX8_thought_174 hl (by decide) rfl (fun ls hl => ?_)
                  refine lv_lload_n hx hb dX8_thought_176 rfl (lv_at hl 1 rfl) ?_
                  refine lv_lload hx hb dX8_thought_177 (lv_at hl 0 rfl) ?_
                  refine W.lcmp hx hb dX8_thought_179 ?_
                  refine lv_if_le (tgt := 187) hx hb dX8_thought_180 (by decide) (fun c_81 => ?_) (fun c_81 => ?_)
                  · refine lv_lload hx hb dX8_thought_187 (lv_at hl 0 rfl) ?_
                    refine lv_lstore (lv' := [(11, .long x_80), (5, .long x_80), (3, .long x_63), (10, .int r_29), (9, .int r_28), (8, .int 0), (7, .int (nI ii_5)), (0, .ref (a 0)), (1, .int (nI j_2)), (2, .int (nI j_4))]) hx hb dX8_thought_189 hl (by decide) rfl (fun ls hl => ?_)
                    refine lv_lload hx hb dX8_thought_191 (lv_at hl 0 rfl) ?_
                    refine lv_lconst (v := 0) hx hb dX8_thought_193 (by decide) ?_
                    refine W.lcmp hx hb dX8_thought_194 ?_
                    refine lv_if_le (tgt := 218) hx hb dX8_thought_195 (by decide) (fun c_82 => ?_) (fun c_82 => ?_)
                    · refine lv_iinc (v := (nI (ii_5 + 1))) (lv' := [(7, .int (nI (ii_5 + 1))), (11, .long x_80), (5, .long x_80), (3, .long x_63), (10, .int r_29), (9, .int r_28), (8, .int 0), (0, .ref (a 0)), (1, .int (nI j_2)), (2, .int (nI j_4))]) hx hb dX8_thought_218 hl (k := 6) rfl (nI_add ii_5 1) (by decide) rfl (fun ls hl => ?_)
                      refine lv_goto (tgt := 32) hx hb dX8_thought_221 (by decide) ?_
                      exact ih_5 _ (ii_5 + 1, x_63, x_80) _ _ _ (by omega) ⟨rfl, (by omega), hP, hS, (lv_sub hl [0, 2, 3, 7, 8, 9] rfl)⟩
                    · refine lv_lload_n hx hb dX8_thought_198 rfl (lv_at hl 2 rfl) ?_
                      refine lv_ldc2 hx hb hown (hts _ tw_1363) dX8_thought_199 ?_
                      refine lv_lmul hx hb dX8_thought_202 ?_
                      refine lv_topl (fun x_83 ex_83 => ?_)
                      refine lv_lload hx hb dX8_thought_203 (lv_at hl 0 rfl) ?_
                      refine lv_ldiv hx hb dX8_thought_205 (fun h => c_82 (by rw [h]; decide)) ?_
                      refine lv_topl (fun x_84 ex_84 => ?_)
                      refine lv_lstore_n (lv' := [(3, .long x_84), (11, .long x_80), (5, .long x_80), (10, .int r_29), (9, .int r_28), (8, .int 0), (7, .int (nI ii_5)), (0, .ref (a 0)), (1, .int (nI j_2)), (2, .int (nI j_4))]) hx hb dX8_thought_206 rfl hl (by decide) rfl (fun ls hl => ?_)
                      refine lv_lload hx hb dX8_thought_207 (lv_at hl 2 rfl) ?_
                      refine lv_ldc2 hx hb hown (hts _ tw_1363) dX8_thought_209 ?_
                      refine lv_lmul hx hb dX8_thought_212 ?_
                      refine lv_topl (fun x_85 ex_85 => ?_)
                      refine lv_lload hx hb dX8_thought_213 (lv_at hl 1 rfl) ?_
                      refine lv_ldiv hx hb dX8_thought_215 (fun h => c_82 (by rw [h]; decide)) ?_
                      refine lv_topl (fun x_86 ex_86 => ?_)
                      refine lv_lstore (lv' := [(5, .long x_86), (3, .long x_84), (11, .long x_80), (10, .int r_29), (9, .int r_28), (8, .int 0), (7, .int (nI ii_5)), (0, .ref (a 0)), (1, .int (nI j_2)), (2, .int (nI j_4))]) hx hb dX8_thought_216 hl (by decide) rfl (fun ls hl => ?_)
                      refine lv_iinc (v := (nI (ii_5 + 1))) (lv' := [(7, .int (nI (ii_5 + 1))), (5, .long x_86), (3, .long x_84), (11, .long x_80), (10, .int r_29), (9, .int r_28), (8, .int 0), (0, .ref (a 0)), (1, .int (nI j_2)), (2, .int (nI j_4))]) hx hb dX8_thought_218 hl (k := 6) rfl (nI_add ii_5 1) (by decide) rfl (fun ls hl => ?_)
                      refine lv_goto (tgt := 32) hx hb dX8_thought_221 (by decide) ?_
                      exact ih_5 _ (ii_5 + 1, x_84, x_86) _ _ _ (by omega) ⟨rfl, (by omega), hP, hS, (lv_sub hl [0, 1, 2, 7, 8, 9] rfl)⟩
                  · refine lv_lload_n hx hb dX8_thought_183 rfl (lv_at hl 1 rfl) ?_
                    refine lv_goto (tgt := 189) hx hb dX8_thought_184 (by decide) ?_
                    refine lv_lstore (lv' := [(11, .long x_63), (5, .long x_80), (3, .long x_63), (10, .int r_29), (9, .int r_28), (8, .int 0), (7, .int (nI ii_5)), (0, .ref (a 0)), (1, .int (nI j_2)), (2, .int (nI j_4))]) hx hb dX8_thought_189 hl (by decide) rfl (fun ls hl => ?_)
                    refine lv_lload hx hb dX8_thought_191 (lv_at hl 0 rfl) ?_
                    refine lv_lconst (v := 0) hx hb dX8_thought_193 (by decide) ?_
                    refine W.lcmp hx hb dX8_thought_194 ?_
                    refine lv_if_le (tgt := 218) hx hb dX8_thought_195 (by decide) (fun c_87 => ?_) (fun c_87 => ?_)
                    · refine lv_iinc (v := (nI (ii_5 + 1))) (lv' := [(7, .int (nI (ii_5 + 1))), (11, .long x_63), (5, .long x_80), (3, .long x_63), (10, .int r_29), (9, .int r_28), (8, .int 0), (0, .ref (a 0)), (1, .int (nI j_2)), (2, .int (nI j_4))]) hx hb dX8_thought_218 hl (k := 6) rfl (nI_add ii_5 1) (by decide) rfl (fun ls hl => ?_)
                      refine lv_goto (tgt := 32) hx hb dX8_thought_221 (by decide) ?_
                      exact ih_5 _ (ii_5 + 1, x_63, x_80) _ _ _ (by omega) ⟨rfl, (by omega), hP, hS, (lv_sub hl [0, 2, 3, 7, 8, 9] rfl)⟩
                    · refine lv_lload_n hx hb dX8_thought_198 rfl (lv_at hl 2 rfl) ?_
                      refine lv_ldc2 hx hb hown (hts _ tw_1363) dX8_thought_199 ?_
                      refine lv_lmul hx hb dX8_thought_202 ?_
                      refine lv_topl (fun x_88 ex_88 => ?_)
                      refine lv_lload hx hb dX8_thought_203 (lv_at hl 0 rfl) ?_
                      refine lv_ldiv hx hb dX8_thought_205 (fun h => c_87 (by rw [h]; decide)) ?_
                      refine lv_topl (fun x_89 ex_89 => ?_)
                      refine lv_lstore_n (lv' := [(3, .long x_89), (11, .long x_63), (5, .long x_80), (10, .int r_29), (9, .int r_28), (8, .int 0), (7, .int (nI ii_5)), (0, .ref (a 0)), (1, .int (nI j_2)), (2, .int (nI j_4))]) hx hb dX8_thought_206 rfl hl (by decide) rfl (fun ls hl => ?_)
                      refine lv_lload hx hb dX8_thought_207 (lv_at hl 2 rfl) ?_
                      refine lv_ldc2 hx hb hown (hts _ tw_1363) dX8_thought_209 ?_
                      refine lv_lmul hx hb dX8_thought_212 ?_
                      refine lv_topl (fun x_90 ex_90 => ?_)
                      refine lv_lload hx hb dX8_thought_213 (lv_at hl 1 rfl) ?_
                      refine lv_ldiv hx hb dX8_thought_215 (fun h => c_87 (by rw [h]; decide)) ?_
                      refine lv_topl (fun x_91 ex_91 => ?_)
                      refine lv_lstore (lv' := [(5, .long x_91), (3, .long x_89), (11, .long x_63), (10, .int r_29), (9, .int r_28), (8, .int 0), (7, .int (nI ii_5)), (0, .ref (a 0)), (1, .int (nI j_2)), (2, .int (nI j_4))]) hx hb dX8_thought_216 hl (by decide) rfl (fun ls hl => ?_)
                      refine lv_iinc (v := (nI (ii_5 + 1))) (lv' := [(7, .int (nI (ii_5 + 1))), (5, .long x_91), (3, .long x_89), (11, .long x_63), (10, .int r_29), (9, .int r_28), (8, .int 0), (0, .ref (a 0)), (1, .int (nI j_2)), (2, .int (nI j_4))]) hx hb dX8_thought_218 hl (k := 6) rfl (nI_add ii_5 1) (by decide) rfl (fun ls hl => ?_)
                      refine lv_goto (tgt := 32) hx hb dX8_thought_221 (by decide) ?_
                      exact ih_5 _ (ii_5 + 1, x_89, x_91) _ _ _ (by omega) ⟨rfl, (by omega), hP, hS, (lv_sub hl [0, 1, 2, 7, 8, 9] rfl)⟩
            · have c_27 : ¬ (ii_5 ≤ 0) := fun h => c_27 ((nI_leI (a := ii_5) (b := 0) (by omega) (by omega)).mpr h)
              refine lv_aload_n hx hb dX8_thought_68 rfl (lv_at hl 3 rfl) ?_
              refine va_get (D := D) (ci := 8) (v := .ref (a 32)) (C := RX8) (T := TX8) (N := 44) hx hb hts inX8 hown hK hP 0 rfl rfl 31 (by decide) (hts _ tw_1004) (fun _ h9 => h9) rfl dX8_thought_69 ?_
              refine lv_iload hx hb dX8_thought_72 (lv_at hl 0 rfl) ?_
              refine lv_if_le (tgt := 84) hx hb dX8_thought_74 (by decide) (fun h => absurd ((nI_leI (a := ii_5) (b := 0) (by omega) (by omega)).mp h) (by omega)) (fun _ => ?_)
              refine lv_iload hx hb dX8_thought_77 (lv_at hl 0 rfl) ?_
              refine lv_iconst (v := 1) hx hb dX8_thought_79 (by decide) ?_
              refine lv_isub hx hb dX8_thought_80 ?_
              refine lv_ti (y := (nI (ii_5 - 1))) (pk_sub (a := ii_5) (b := 1) (by omega)) ?_
              refine lv_goto (tgt := 85) hx hb dX8_thought_81 (by decide) ?_
              refine va_zald hx hb hK hP 4 2 rfl rfl (vp_in_nI (by omega) (by decide)) dX8_thought_85 ?_
              refine lv_ti (y := (frow (ii_5 - 1))) (by rw [nI_clamp (by omega)]) ?_
              refine lv_if_eq (tgt := 93) hx hb dX8_thought_86 (by decide) (fun c_93 => ?_) (fun c_93 => ?_)
              · refine lv_iconst (v := 0) hx hb dX8_thought_93 (by decide) ?_
                refine lv_istore (lv' := [(8, .int 0), (7, .int (nI ii_5)), (5, .long v2_5), (3, .long w2_5), (0, .ref (a 0)), (1, .int (nI j_2)), (2, .int (nI j_4))]) hx hb dX8_thought_94 hl (by decide) rfl (fun ls hl => ?_)
                refine lv_aload_n hx hb dX8_thought_96 rfl (lv_at hl 4 rfl) ?_
                refine lv_iload_n hx hb dX8_thought_97 rfl (lv_at hl 5 rfl) ?_
                refine lv_iload hx hb dX8_thought_98 (lv_at hl 1 rfl) ?_
                refine lv_iload hx hb dX8_thought_100 (lv_at hl 0 rfl) ?_
                refine ro_i (D := D) (va_runV (As := [.int (nI j_2), .int (nI ii_5), .int 0]) (rest := []) ⟨hx, hb, hml, hown, hts⟩ ((m_chanceOf l D k st lo a tx t0 we rd ru rw ca fp wd nu na ts df db sd ffrees se tm gs j_2 ii_5 0 (by omega) (by omega)) H.size) (cwV 3 hts (gV tw_1210 tw_1212 tw_41 tw_87 tw_1213) rfl rfl rfl (by decide +kernel) ⟨Nat.le_of_ble_eq_true rfl, Nat.le_of_ble_eq_true rfl⟩) (pV hS hAlo hlo hP hK hDL hZ [0, 3, 2] (by decide) rfl (ci := 8) (q := (RX8, TX8, 44)) (q0 := 0) rfl rfl) rfl rfl hl.1 rfl (lv_room (Nat.le_of_ble_eq_true rfl)) dX8_thought_102 ⟨Nat.le_of_ble_eq_true rfl, Nat.le_of_ble_eq_true rfl⟩) hS hA hP (fun r_94 H locs hw_94 hP hS => ?_)
                try dsimp only at hw_94
                refine lv_istore (lv' := [(9, .int r_94), (8, .int 0), (7, .int (nI ii_5)), (5, .long v2_5), (3, .long w2_5), (0, .ref (a 0)), (1, .int (nI j_2)), (2, .int (nI j_4))]) hx hb dX8_thought_105 hl (by decide) rfl (fun ls hl => ?_)
                refine lv_aload_n hx hb dX8_thought_107 rfl (lv_at hl 5 rfl) ?_
                refine lv_iload_n hx hb dX8_thought_108 rfl (lv_at hl 7 rfl) ?_
                refine lv_iload hx hb dX8_thought_109 (lv_at hl 2 rfl) ?_
                refine lv_iload hx hb dX8_thought_111 (lv_at hl 1 rfl) ?_
                refine ro_i (D := D) (va_runV (As := [.int (nI j_4), .int (nI ii_5), .int 0]) (rest := []) ⟨hx, hb, hml, hown, hts⟩ ((m_chanceOf l D k st lo a tx t0 we rd ru rw ca fp wd nu na ts df db sd ffrees se tm gs j_4 ii_5 0 (by omega) (by omega)) H.size) (cwV 3 hts (gV tw_1210 tw_1212 tw_41 tw_87 tw_1213) rfl rfl rfl (by decide +kernel) ⟨Nat.le_of_ble_eq_true rfl, Nat.le_of_ble_eq_true rfl⟩) (pV hS hAlo hlo hP hK hDL hZ [0, 3, 2] (by decide) rfl (ci := 8) (q := (RX8, TX8, 44)) (q0 := 0) rfl rfl) rfl rfl hl.1 rfl (lv_room (Nat.le_of_ble_eq_true rfl)) dX8_thought_113 ⟨Nat.le_of_ble_eq_true rfl, Nat.le_of_ble_eq_true rfl⟩) hS hA hP (fun r_95 H locs hw_95 hP hS => ?_)
                try dsimp only at hw_95
                refine lv_istore (lv' := [(10, .int r_95), (9, .int r_94), (8, .int 0), (7, .int (nI ii_5)), (5, .long v2_5), (3, .long w2_5), (0, .ref (a 0)), (1, .int (nI j_2)), (2, .int (nI j_4))]) hx hb dX8_thought_116 hl (by decide) rfl (fun ls hl => ?_)
                refine lv_lload_n hx hb dX8_thought_118 rfl (lv_at hl 5 rfl) ?_
                refine lv_aload_n hx hb dX8_thought_119 rfl (lv_at hl 6 rfl) ?_
                refine va_get (D := D) (ci := 8) (v := .ref (a 32)) (C := RX8) (T := TX8) (N := 44) hx hb hts inX8 hown hK hP 0 rfl rfl 31 (by decide) (hts _ tw_1004) (fun _ h9 => h9) rfl dX8_thought_120 ?_
                refine lv_iload hx hb dX8_thought_123 (lv_at hl 3 rfl) ?_
                refine va_zald hx hb hK hP 4 2 rfl rfl (vp_in_nI (by omega) (by decide)) dX8_thought_125 ?_
                refine lv_ti (y := (frow ii_5)) (by rw [nI_clamp (by omega)]) ?_
                refine lv_if_eq (tgt := 134) hx hb dX8_thought_126 (by decide) (fun c_96 => ?_) (fun c_96 => ?_)
                · refine lv_bipush (v := 100) hx hb dX8_thought_134 (by decide) ?_
                  refine lv_iload hx hb dX8_thought_136 (lv_at hl 1 rfl) ?_
                  refine lv_isub hx hb dX8_thought_138 ?_
                  refine lv_topi (fun x_97 ex_97 => ?_)
                  refine lv_i2l (v := x_97.toInt64) hx hb dX8_thought_139 rfl ?_
                  refine lv_lmul hx hb dX8_thought_140 ?_
                  refine lv_topl (fun x_98 ex_98 => ?_)
                  refine lv_ldc2 hx hb hown (hts _ tw_1272) dX8_thought_141 ?_
                  refine lv_ldiv hx hb dX8_thought_144 (by decide) ?_
                  refine lv_topl (fun x_99 ex_99 => ?_)
                  refine lv_lstore_n (lv' := [(3, .long x_99), (10, .int r_95), (9, .int r_94), (8, .int 0), (7, .int (nI ii_5)), (5, .long v2_5), (0, .ref (a 0)), (1, .int (nI j_2)), (2, .int (nI j_4))]) hx hb dX8_thought_145 rfl hl (by decide) rfl (fun ls hl => ?_)
                  refine lv_lload hx hb dX8_thought_146 (lv_at hl 5 rfl) ?_
                  refine lv_aload_n hx hb dX8_thought_148 rfl (lv_at hl 6 rfl) ?_
                  refine va_get (D := D) (ci := 8) (v := .ref (a 32)) (C := RX8) (T := TX8) (N := 44) hx hb hts inX8 hown hK hP 0 rfl rfl 31 (by decide) (hts _ tw_1004) (fun _ h9 => h9) rfl dX8_thought_149 ?_
                  refine lv_iload hx hb dX8_thought_152 (lv_at hl 4 rfl) ?_
                  refine va_zald hx hb hK hP 4 2 rfl rfl (vp_in_nI (by omega) (by decide)) dX8_thought_154 ?_
                  refine lv_ti (y := (frow ii_5)) (by rw [nI_clamp (by omega)]) ?_
                  refine lv_if_eq (tgt := 163) hx hb dX8_thought_155 (by decide) (fun c_100 => ?_) (fun c_100 => ?_)
                  · refine lv_bipush (v := 100) hx hb dX8_thought_163 (by decide) ?_
                    refine lv_iload hx hb dX8_thought_165 (lv_at hl 1 rfl) ?_
                    refine lv_isub hx hb dX8_thought_167 ?_
                    refine lv_topi (fun x_101 ex_101 => ?_)
                    refine lv_i2l (v := x_101.toInt64) hx hb dX8_thought_168 rfl ?_
                    refine lv_lmul hx hb dX8_thought_169 ?_
                    refine lv_topl (fun x_102 ex_102 => ?_)
                    refine lv_ldc2 hx hb hown (hts _ tw_1272) dX8_thought_170 ?_
                    refine lv_ldiv hx hb dX8_thought_173 (by decide) ?_
                    refine lv_topl (fun x_103 ex_103 => ?_)
                    refine lv_lstore (lv' := [(5, .long x_103), (3, .long x_99), (10, .int r_95), (9, .int r_94), (8, .int 0), (7, .int (nI ii_5)), (0, .ref (a 0)), (1, .int (nI j_2)), (2, .int (nI j_4))]) hx hb dX8_thought_174 hl (by decide) rfl (fun ls hl => ?_)
                    refine lv_lload_n hx hb dX8_thought_176 rfl (lv_at hl 1 rfl) ?_
                    refine lv_lload hx hb dX8_thought_177 (lv_at hl 0 rfl) ?_
                    refine W.lcmp hx hb dX8_thought_179 ?_
                    refine lv_if_le (tgt := 187) hx hb dX8_thought_180 (by decide) (fun c_104 => ?_) (fun c_104 => ?_)
                    · refine lv_lload hx hb dX8_thought_187 (lv_at hl 0 rfl) ?_
                      refine lv_lstore (lv' := [(11, .long x_103), (5, .long x_103), (3, .long x_99), (10, .int r_95), (9, .int r_94), (8, .int 0), (7, .int (nI ii_5)), (0, .ref (a 0)), (1, .int (nI j_2)), (2, .int (nI j_4))]) hx hb dX8_thought_189 hl (by decide) rfl (fun ls hl => ?_)
                      refine lv_lload hx hb dX8_thought_191 (lv_at hl 0 rfl) ?_
                      refine lv_lconst (v := 0) hx hb dX8_thought_193 (by decide) ?_
                      refine W.lcmp hx hb dX8_thought_194 ?_
                      refine lv_if_le (tgt := 218) hx hb dX8_thought_195 (by decide) (fun c_105 => ?_) (fun c_105 => ?_)
                      · refine lv_iinc (v := (nI (ii_5 + 1))) (lv' := [(7, .int (nI (ii_5 + 1))), (11, .long x_103), (5, .long x_103), (3, .long x_99), (10, .int r_95), (9, .int r_94), (8, .int 0), (0, .ref (a 0)), (1, .int (nI j_2)), (2, .int (nI j_4))]) hx hb dX8_thought_218 hl (k := 6) rfl (nI_add ii_5 1) (by decide) rfl (fun ls hl => ?_)
                        refine lv_goto (tgt := 32) hx hb dX8_thought_221 (by decide) ?_
                        exact ih_5 _ (ii_5 + 1, x_99, x_103) _ _ _ (by omega) ⟨rfl, (by omega), hP, hS, (lv_sub hl [0, 2, 3, 7, 8, 9] rfl)⟩
                      · refine lv_lload_n hx hb dX8_thought_198 rfl (lv_at hl 2 rfl) ?_
                        refine lv_ldc2 hx hb hown (hts _ tw_1363) dX8_thought_199 ?_
                        refine lv_lmul hx hb dX8_thought_202 ?_
                        refine lv_topl (fun x_106 ex_106 => ?_)
                        refine lv_lload hx hb dX8_thought_203 (lv_at hl 0 rfl) ?_
                        refine lv_ldiv hx hb dX8_thought_205 (fun h => c_105 (by rw [h]; decide)) ?_
                        refine lv_topl (fun x_107 ex_107 => ?_)
                        refine lv_lstore_n (lv' := [(3, .long x_107), (11, .long x_103), (5, .long x_103), (10, .int r_95), (9, .int r_94), (8, .int 0), (7, .int (nI ii_5)), (0, .ref (a 0)), (1, .int (nI j_2)), (2, .int (nI j_4))]) hx hb dX8_thought_206 rfl hl (by decide) rfl (fun ls hl => ?_)
                        refine lv_lload hx hb dX8_thought_207 (lv_at hl 2 rfl) ?_
                        refine lv_ldc2 hx hb hown (hts _ tw_1363) dX8_thought_209 ?_
                        refine lv_lmul hx hb dX8_thought_212 ?_
                        refine lv_topl (fun x_108 ex_108 => ?_)
                        refine lv_lload hx hb dX8_thought_213 (lv_at hl 1 rfl) ?_
                        refine lv_ldiv hx hb dX8_thought_215 (fun h => c_105 (by rw [h]; decide)) ?_
                        refine lv_topl (fun x_109 ex_109 => ?_)
                        refine lv_lstore (lv' := [(5, .long x_109), (3, .long x_107), (11, .long x_103), (10, .int r_95), (9, .int r_94), (8, .int 0), (7, .int (nI ii_5)), (0, .ref (a 0)), (1, .int (nI j_2)), (2, .int (nI j_4))]) hx hb dX8_thought_216 hl (by decide) rfl (fun ls hl => ?_)
                        refine lv_iinc (v := (nI (ii_5 + 1))) (lv' := [(7, .int (nI (ii_5 + 1))), (5, .long x_109), (3, .long x_107), (11, .long x_103), (10, .int r_95), (9, .int r_94), (8, .int 0), (0, .ref (a 0)), (1, .int (nI j_2)), (2, .int (nI j_4))]) hx hb dX8_thought_218 hl (k := 6) rfl (nI_add ii_5 1) (by decide) rfl (fun ls hl => ?_)
                        refine lv_goto (tgt := 32) hx hb dX8_thought_221 (by decide) ?_
                        exact ih_5 _ (ii_5 + 1, x_107, x_109) _ _ _ (by omega) ⟨rfl, (by omega), hP, hS, (lv_sub hl [0, 1, 2, 7, 8, 9] rfl)⟩
                    · refine lv_lload_n hx hb dX8_thought_183 rfl (lv_at hl 1 rfl) ?_
                      refine lv_goto (tgt := 189) hx hb dX8_thought_184 (by decide) ?_
                      refine lv_lstore (lv' := [(11, .long x_99), (5, .long x_103), (3, .long x_99), (10, .int r_95), (9, .int r_94), (8, .int 0), (7, .int (nI ii_5)), (0, .ref (a 0)), (1, .int (nI j_2)), (2, .int (nI j_4))]) hx hb dX8_thought_189 hl (by decide) rfl (fun ls hl => ?_)
                      refine lv_lload hx hb dX8_thought_191 (lv_at hl 0 rfl) ?_
                      refine lv_lconst (v := 0) hx hb dX8_thought_193 (by decide) ?_
                      refine W.lcmp hx hb dX8_thought_194 ?_
                      refine lv_if_le (tgt := 218) hx hb dX8_thought_195 (by decide) (fun c_110 => ?_) (fun c_110 => ?_)
                      · refine lv_iinc (v := (nI (ii_5 + 1))) (lv' := [(7, .int (nI (ii_5 + 1))), (11, .long x_99), (5, .long x_103), (3, .long x_99), (10, .int r_95), (9, .int r_94), (8, .int 0), (0, .ref (a 0)), (1, .int (nI j_2)), (2, .int (nI j_4))]) hx hb dX8_thought_218 hl (k := 6) rfl (nI_add ii_5 1) (by decide) rfl (fun ls hl => ?_)
                        refine lv_goto (tgt := 32) hx hb dX8_thought_221 (by decide) ?_
                        exact ih_5 _ (ii_5 + 1, x_99, x_103) _ _ _ (by omega) ⟨rfl, (by omega), hP, hS, (lv_sub hl [0, 2, 3, 7, 8, 9] rfl)⟩
                      · refine lv_lload_n hx hb dX8_thought_198 rfl (lv_at hl 2 rfl) ?_
                        refine lv_ldc2 hx hb hown (hts _ tw_1363) dX8_thought_199 ?_
                        refine lv_lmul hx hb dX8_thought_202 ?_
                        refine lv_topl (fun x_111 ex_111 => ?_)
                        refine lv_lload hx hb dX8_thought_203 (lv_at hl 0 rfl) ?_
                        refine lv_ldiv hx hb dX8_thought_205 (fun h => c_110 (by rw [h]; decide)) ?_
                        refine lv_topl (fun x_112 ex_112 => ?_)
                        refine lv_lstore_n (lv' := [(3, .long x_112), (11, .long x_99), (5, .long x_103), (10, .int r_95), (9, .int r_94), (8, .int 0), (7, .int (nI ii_5)), (0, .ref (a 0)), (1, .int (nI j_2)), (2, .int (nI j_4))]) hx hb dX8_thought_206 rfl hl (by decide) rfl (fun ls hl => ?_)
                        refine lv_lload hx hb dX8_thought_207 (lv_at hl 2 rfl) ?_
                        refine lv_ldc2 hx hb hown (hts _ tw_1363) dX8_thought_209 ?_
                        refine lv_lmul hx hb dX8_thought_212 ?_
                        refine lv_topl (fun x_113 ex_113 => ?_)
                        refine lv_lload hx hb dX8_thought_213 (lv_at hl 1 rfl) ?_
                        refine lv_ldiv hx hb dX8_thought_215 (fun h => c_110 (by rw [h]; decide)) ?_
                        refine lv_topl (fun x_114 ex_114 => ?_)
                        refine lv_lstore (lv' := [(5, .long x_114), (3, .long x_112), (11, .long x_99), (10, .int r_95), (9, .int r_94), (8, .int 0), (7, .int (nI ii_5)), (0, .ref (a 0)), (1, .int (nI j_2)), (2, .int (nI j_4))]) hx hb dX8_thought_216 hl (by decide) rfl (fun ls hl => ?_)
                        refine lv_iinc (v := (nI (ii_5 + 1))) (lv' := [(7, .int (nI (ii_5 + 1))), (5, .long x_114), (3, .long x_112), (11, .long x_99), (10, .int r_95), (9, .int r_94), (8, .int 0), (0, .ref (a 0)), (1, .int (nI j_2)), (2, .int (nI j_4))]) hx hb dX8_thought_218 hl (k := 6) rfl (nI_add ii_5 1) (by decide) rfl (fun ls hl => ?_)
                        refine lv_goto (tgt := 32) hx hb dX8_thought_221 (by decide) ?_
                        exact ih_5 _ (ii_5 + 1, x_112, x_114) _ _ _ (by omega) ⟨rfl, (by omega), hP, hS, (lv_sub hl [0, 1, 2, 7, 8, 9] rfl)⟩
                  · refine lv_iload hx hb dX8_thought_158 (lv_at hl 1 rfl) ?_
                    refine lv_goto (tgt := 168) hx hb dX8_thought_160 (by decide) ?_
                    refine lv_i2l (v := r_95.toInt64) hx hb dX8_thought_168 rfl ?_
                    refine lv_lmul hx hb dX8_thought_169 ?_
                    refine lv_topl (fun x_115 ex_115 => ?_)
                    refine lv_ldc2 hx hb hown (hts _ tw_1272) dX8_thought_170 ?_
                    refine lv_ldiv hx hb dX8_thought_173 (by decide) ?_
                    refine lv_topl (fun x_116 ex_116 => ?_)
                    refine lv_lstore (lv' := [(5, .long x_116), (3, .long x_99), (10, .int r_95), (9, .int r_94), (8, .int 0), (7, .int (nI ii_5)), (0, .ref (a 0)), (1, .int (nI j_2)), (2, .int (nI j_4))]) hx hb dX8_thought_174 hl (by decide) rfl (fun ls hl => ?_)
                    refine lv_lload_n hx hb dX8_thought_176 rfl (lv_at hl 1 rfl) ?_
                    refine lv_lload hx hb dX8_thought_177 (lv_at hl 0 rfl) ?_
                    refine W.lcmp hx hb dX8_thought_179 ?_
                    refine lv_if_le (tgt := 187) hx hb dX8_thought_180 (by decide) (fun c_117 => ?_) (fun c_117 => ?_)
                    · refine lv_lload hx hb dX8_thought_187 (lv_at hl 0 rfl) ?_
                      refine lv_lstore (lv' := [(11, .long x_116), (5, .long x_116), (3, .long x_99), (10, .int r_95), (9, .int r_94), (8, .int 0), (7, .int (nI ii_5)), (0, .ref (a 0)), (1, .int (nI j_2)), (2, .int (nI j_4))]) hx hb dX8_thought_189 hl (by decide) rfl (fun ls hl => ?_)
                      refine lv_lload hx hb dX8_thought_191 (lv_at hl 0 rfl) ?_
                      refine lv_lconst (v := 0) hx hb dX8_thought_193 (by decide) ?_
                      refine W.lcmp hx hb dX8_thought_194 ?_
                      refine lv_if_le (tgt := 218) hx hb dX8_thought_195 (by decide) (fun c_118 => ?_) (fun c_118 => ?_)
                      · refine lv_iinc (v := (nI (ii_5 + 1))) (lv' := [(7, .int (nI (ii_5 + 1))), (11, .long x_116), (5, .long x_116), (3, .long x_99), (10, .int r_95), (9, .int r_94), (8, .int 0), (0, .ref (a 0)), (1, .int (nI j_2)), (2, .int (nI j_4))]) hx hb dX8_thought_218 hl (k := 6) rfl (nI_add ii_5 1) (by decide) rfl (fun ls hl => ?_)
                        refine lv_goto (tgt := 32) hx hb dX8_thought_221 (by decide) ?_
                        exact ih_5 _ (ii_5 + 1, x_99, x_116) _ _ _ (by omega) ⟨rfl, (by omega), hP, hS, (lv_sub hl [0, 2, 3, 7, 8, 9] rfl)⟩
                      · refine lv_lload_n hx hb dX8_thought_198 rfl (lv_at hl 2 rfl) ?_
                        refine lv_ldc2 hx hb hown (hts _ tw_1363) dX8_thought_199 ?_
                        refine lv_lmul hx hb dX8_thought_202 ?_
                        refine lv_topl (fun x_119 ex_119 => ?_)
                        refine lv_lload hx hb dX8_thought_203 (lv_at hl 0 rfl) ?_
                        refine lv_ldiv hx hb dX8_thought_205 (fun h => c_118 (by rw [h]; decide)) ?_
                        refine lv_topl (fun x_120 ex_120 => ?_)
                        refine lv_lstore_n (lv' := [(3, .long x_120), (11, .long x_116), (5, .long x_116), (10, .int r_95), (9, .int r_94), (8, .int 0), (7, .int (nI ii_5)), (0, .ref (a 0)), (1, .int (nI j_2)), (2, .int (nI j_4))]) hx hb dX8_thought_206 rfl hl (by decide) rfl (fun ls hl => ?_)
                        refine lv_lload hx hb dX8_thought_207 (lv_at hl 2 rfl) ?_
                        refine lv_ldc2 hx hb hown (hts _ tw_1363) dX8_thought_209 ?_
                        refine lv_lmul hx hb dX8_thought_212 ?_
                        refine lv_topl (fun x_121 ex_121 => ?_)
                        refine lv_lload hx hb dX8_thought_213 (lv_at hl 1 rfl) ?_
                        refine lv_ldiv hx hb dX8_thought_215 (fun h => c_118 (by rw [h]; decide)) ?_
                        refine lv_topl (fun x_122 ex_122 => ?_)
                        refine lv_lstore (lv' := [(5, .long x_122), (3, .long x_120), (11, .long x_116), (10, .int r_95), (9, .int r_94), (8, .int 0), (7, .int (nI ii_5)), (0, .ref (a 0)), (1, .int (nI j_2)), (2, .int (nI j_4))]) hx hb dX8_thought_216 hl (by decide) rfl (fun ls hl => ?_)
                        refine lv_iinc (v := (nI (ii_5 + 1))) (lv' := [(7, .int (nI (ii_5 + 1))), (5, .long x_122), (3, .long x_120), (11, .long x_116), (10, .int r_95), (9, .int r_94), (8, .int 0), (0, .ref (a 0)), (1, .int (nI j_2)), (2, .int (nI j_4))]) hx hb dX8_thought_218 hl (k := 6) rfl (nI_add ii_5 1) (by decide) rfl (fun ls hl => ?_)
                        refine lv_goto (tgt := 32) hx hb dX8_thought_221 (by decide) ?_
                        exact ih_5 _ (ii_5 + 1, x_120, x_122) _ _ _ (by omega) ⟨rfl, (by omega), hP, hS, (lv_sub hl [0, 1, 2, 7, 8, 9] rfl)⟩
                    · refine lv_lload_n hx hb dX8_thought_183 rfl (lv_at hl 1 rfl) ?_
                      refine lv_goto (tgt := 189) hx hb dX8_thought_184 (by decide) ?_
                      refine lv_lstore (lv' := [(11, .long x_99), (5, .long x_116), (3, .long x_99), (10, .int r_95), (9, .int r_94), (8, .int 0), (7, .int (nI ii_5)), (0, .ref (a 0)), (1, .int (nI j_2)), (2, .int (nI j_4))]) hx hb dX8_thought_189 hl (by decide) rfl (fun ls hl => ?_)
                      refine lv_lload hx hb dX8_thought_191 (lv_at hl 0 rfl) ?_
                      refine lv_lconst (v := 0) hx hb dX8_thought_193 (by decide) ?_
                      refine W.lcmp hx hb dX8_thought_194 ?_
                      refine lv_if_le (tgt := 218) hx hb dX8_thought_195 (by decide) (fun c_123 => ?_) (fun c_123 => ?_)
                      · refine lv_iinc (v := (nI (ii_5 + 1))) (lv' := [(7, .int (nI (ii_5 + 1))), (11, .long x_99), (5, .long x_116), (3, .long x_99), (10, .int r_95), (9, .int r_94), (8, .int 0), (0, .ref (a 0)), (1, .int (nI j_2)), (2, .int (nI j_4))]) hx hb dX8_thought_218 hl (k := 6) rfl (nI_add ii_5 1) (by decide) rfl (fun ls hl => ?_)
                        refine lv_goto (tgt := 32) hx hb dX8_thought_221 (by decide) ?_
                        exact ih_5 _ (ii_5 + 1, x_99, x_116) _ _ _ (by omega) ⟨rfl, (by omega), hP, hS, (lv_sub hl [0, 2, 3, 7, 8, 9] rfl)⟩
                      · refine lv_lload_n hx hb dX8_thought_198 rfl (lv_at hl 2 rfl) ?_
                        refine lv_ldc2 hx hb hown (hts _ tw_1363) dX8_thought_199 ?_
                        refine lv_lmul hx hb dX8_thought_202 ?_
                        refine lv_topl (fun x_124 ex_124 => ?_)
                        refine lv_lload hx hb dX8_thought_203 (lv_at hl 0 rfl) ?_
                        refine lv_ldiv hx hb dX8_thought_205 (fun h => c_123 (by rw [h]; decide)) ?_
                        refine lv_topl (fun x_125 ex_125 => ?_)
                        refine lv_lstore_n (lv' := [(3, .long x_125), (11, .long x_99), (5, .long x_116), (10, .int r_95), (9, .int r_94), (8, .int 0), (7, .int (nI ii_5)), (0, .ref (a 0)), (1, .int (nI j_2)), (2, .int (nI j_4))]) hx hb dX8_thought_206 rfl hl (by decide) rfl (fun ls hl => ?_)
                        refine lv_lload hx hb dX8_thought_207 (lv_at hl 2 rfl) ?_
                        refine lv_ldc2 hx hb hown (hts _ tw_1363) dX8_thought_209 ?_
                        refine lv_lmul hx hb dX8_thought_212 ?_
                        refine lv_topl (fun x_126 ex_126 => ?_)
                        refine lv_lload hx hb dX8_thought_213 (lv_at hl 1 rfl) ?_
                        refine lv_ldiv hx hb dX8_thought_215 (fun h => c_123 (by rw [h]; decide)) ?_
                        refine lv_topl (fun x_127 ex_127 => ?_)
                        refine lv_lstore (lv' := [(5, .long x_127), (3, .long x_125), (11, .long x_99), (10, .int r_95), (9, .int r_94), (8, .int 0), (7, .int (nI ii_5)), (0, .ref (a 0)), (1, .int (nI j_2)), (2, .int (nI j_4))]) hx hb dX8_thought_216 hl (by decide) rfl (fun ls hl => ?_)
                        refine lv_iinc (v := (nI (ii_5 + 1))) (lv' := [(7, .int (nI (ii_5 + 1))), (5, .long x_127), (3, .long x_125), (11, .long x_99), (10, .int r_95), (9, .int r_94), (8, .int 0), (0, .ref (a 0)), (1, .int (nI j_2)), (2, .int (nI j_4))]) hx hb dX8_thought_218 hl (k := 6) rfl (nI_add ii_5 1) (by decide) rfl (fun ls hl => ?_)
                        refine lv_goto (tgt := 32) hx hb dX8_thought_221 (by decide) ?_
                        exact ih_5 _ (ii_5 + 1, x_125, x_127) _ _ _ (by omega) ⟨rfl, (by omega), hP, hS, (lv_sub hl [0, 1, 2, 7, 8, 9] rfl)⟩
                · refine lv_iload hx hb dX8_thought_129 (lv_at hl 1 rfl) ?_
                  refine lv_goto (tgt := 139) hx hb dX8_thought_131 (by decide) ?_
                  refine lv_i2l (v := r_94.toInt64) hx hb dX8_thought_139 rfl ?_
                  refine lv_lmul hx hb dX8_thought_140 ?_
                  refine lv_topl (fun x_128 ex_128 => ?_)
                  refine lv_ldc2 hx hb hown (hts _ tw_1272) dX8_thought_141 ?_
                  refine lv_ldiv hx hb dX8_thought_144 (by decide) ?_
                  refine lv_topl (fun x_129 ex_129 => ?_)
                  refine lv_lstore_n (lv' := [(3, .long x_129), (10, .int r_95), (9, .int r_94), (8, .int 0), (7, .int (nI ii_5)), (5, .long v2_5), (0, .ref (a 0)), (1, .int (nI j_2)), (2, .int (nI j_4))]) hx hb dX8_thought_145 rfl hl (by decide) rfl (fun ls hl => ?_)
                  refine lv_lload hx hb dX8_thought_146 (lv_at hl 5 rfl) ?_
                  refine lv_aload_n hx hb dX8_thought_148 rfl (lv_at hl 6 rfl) ?_
                  refine va_get (D := D) (ci := 8) (v := .ref (a 32)) (C := RX8) (T := TX8) (N := 44) hx hb hts inX8 hown hK hP 0 rfl rfl 31 (by decide) (hts _ tw_1004) (fun _ h9 => h9) rfl dX8_thought_149 ?_
                  refine lv_iload hx hb dX8_thought_152 (lv_at hl 4 rfl) ?_
                  refine va_zald hx hb hK hP 4 2 rfl rfl (vp_in_nI (by omega) (by decide)) dX8_thought_154 ?_
                  refine lv_ti (y := (frow ii_5)) (by rw [nI_clamp (by omega)]) ?_
                  refine lv_if_eq (tgt := 163) hx hb dX8_thought_155 (by decide) (fun c_130 => ?_) (fun c_130 => ?_)
                  · refine lv_bipush (v := 100) hx hb dX8_thought_163 (by decide) ?_
                    refine lv_iload hx hb dX8_thought_165 (lv_at hl 1 rfl) ?_
                    refine lv_isub hx hb dX8_thought_167 ?_
                    refine lv_topi (fun x_131 ex_131 => ?_)
                    refine lv_i2l (v := x_131.toInt64) hx hb dX8_thought_168 rfl ?_
                    refine lv_lmul hx hb dX8_thought_169 ?_
                    refine lv_topl (fun x_132 ex_132 => ?_)
                    refine lv_ldc2 hx hb hown (hts _ tw_1272) dX8_thought_170 ?_
                    refine lv_ldiv hx hb dX8_thought_173 (by decide) ?_
                    refine lv_topl (fun x_133 ex_133 => ?_)
                    refine lv_lstore (lv' := [(5, .long x_133), (3, .long x_129), (10, .int r_95), (9, .int r_94), (8, .int 0), (7, .int (nI ii_5)), (0, .ref (a 0)), (1, .int (nI j_2)), (2, .int (nI j_4))]) hx hb dX8_thought_174 hl (by decide) rfl (fun ls hl => ?_)
                    refine lv_lload_n hx hb dX8_thought_176 rfl (lv_at hl 1 rfl) ?_
                    refine lv_lload hx hb dX8_thought_177 (lv_at hl 0 rfl) ?_
                    refine W.lcmp hx hb dX8_thought_179 ?_
                    refine lv_if_le (tgt := 187) hx hb dX8_thought_180 (by decide) (fun c_134 => ?_) (fun c_134 => ?_)
                    · refine lv_lload hx hb dX8_thought_187 (lv_at hl 0 rfl) ?_
                      refine lv_lstore (lv' := [(11, .long x_133), (5, .long x_133), (3, .long x_129), (10, .int r_95), (9, .int r_94), (8, .int 0), (7, .int (nI ii_5)), (0, .ref (a 0)), (1, .int (nI j_2)), (2, .int (nI j_4))]) hx hb dX8_thought_189 hl (by decide) rfl (fun ls hl => ?_)
                      refine lv_lload hx hb dX8_thought_191 (lv_at hl 0 rfl) ?_
                      refine lv_lconst (v := 0) hx hb dX8_thought_193 (by decide) ?_
                      refine W.lcmp hx hb dX8_thought_194 ?_
                      refine lv_if_le (tgt := 218) hx hb dX8_thought_195 (by decide) (fun c_135 => ?_) (fun c_135 => ?_)
                      · refine lv_iinc (v := (nI (ii_5 + 1))) (lv' := [(7, .int (nI (ii_5 + 1))), (11, .long x_133), (5, .long x_133), (3, .long x_129), (10, .int r_95), (9, .int r_94), (8, .int 0), (0, .ref (a 0)), (1, .int (nI j_2)), (2, .int (nI j_4))]) hx hb dX8_thought_218 hl (k := 6) rfl (nI_add ii_5 1) (by decide) rfl (fun ls hl => ?_)
                        refine lv_goto (tgt := 32) hx hb dX8_thought_221 (by decide) ?_
                        exact ih_5 _ (ii_5 + 1, x_129, x_133) _ _ _ (by omega) ⟨rfl, (by omega), hP, hS, (lv_sub hl [0, 2, 3, 7, 8, 9] rfl)⟩
                      · refine lv_lload_n hx hb dX8_thought_198 rfl (lv_at hl 2 rfl) ?_
                        refine lv_ldc2 hx hb hown (hts _ tw_1363) dX8_thought_199 ?_
                        refine lv_lmul hx hb dX8_thought_202 ?_
                        refine lv_topl (fun x_136 ex_136 => ?_)
                        refine lv_lload hx hb dX8_thought_203 (lv_at hl 0 rfl) ?_
                        refine lv_ldiv hx hb dX8_thought_205 (fun h => c_135 (by rw [h]; decide)) ?_
                        refine lv_topl (fun x_137 ex_137 => ?_)
                        refine lv_lstore_n (lv' := [(3, .long x_137), (11, .long x_133), (5, .long x_133), (10, .int r_95), (9, .int r_94), (8, .int 0), (7, .int (nI ii_5)), (0, .ref (a 0)), (1, .int (nI j_2)), (2, .int (nI j_4))]) hx hb dX8_thought_206 rfl hl (by decide) rfl (fun ls hl => ?_)
                        refine lv_lload hx hb dX8_thought_207 (lv_at hl 2 rfl) ?_
                        refine lv_ldc2 hx hb hown (hts _ tw_1363) dX8_thought_209 ?_
                        refine lv_lmul hx hb dX8_thought_212 ?_
                        refine lv_topl (fun x_138 ex_138 => ?_)
                        refine lv_lload hx hb dX8_thought_213 (lv_at hl 1 rfl) ?_
                        refine lv_ldiv hx hb dX8_thought_215 (fun h => c_135 (by rw [h]; decide)) ?_
                        refine lv_topl (fun x_139 ex_139 => ?_)
                        refine lv_lstore (lv' := [(5, .long x_139), (3, .long x_137), (11, .long x_133), (10, .int r_95), (9, .int r_94), (8, .int 0), (7, .int (nI ii_5)), (0, .ref (a 0)), (1, .int (nI j_2)), (2, .int (nI j_4))]) hx hb dX8_thought_216 hl (by decide) rfl (fun ls hl => ?_)
                        refine lv_iinc (v := (nI (ii_5 + 1))) (lv' := [(7, .int (nI (ii_5 + 1))), (5, .long x_139), (3, .long x_137), (11, .long x_133), (10, .int r_95), (9, .int r_94), (8, .int 0), (0, .ref (a 0)), (1, .int (nI j_2)), (2, .int (nI j_4))]) hx hb dX8_thought_218 hl (k := 6) rfl (nI_add ii_5 1) (by decide) rfl (fun ls hl => ?_)
                        refine lv_goto (tgt := 32) hx hb dX8_thought_221 (by decide) ?_
                        exact ih_5 _ (ii_5 + 1, x_137, x_139) _ _ _ (by omega) ⟨rfl, (by omega), hP, hS, (lv_sub hl [0, 1, 2, 7, 8, 9] rfl)⟩
                    · refine lv_lload_n hx hb dX8_thought_183 rfl (lv_at hl 1 rfl) ?_
                      refine lv_goto (tgt := 189) hx hb dX8_thought_184 (by decide) ?_
                      refine lv_lstore (lv' := [(11, .long x_129), (5, .long x_133), (3, .long x_129), (10, .int r_95), (9, .int r_94), (8, .int 0), (7, .int (nI ii_5)), (0, .ref (a 0)), (1, .int (nI j_2)), (2, .int (nI j_4))]) hx hb dX8_thought_189 hl (by decide) rfl (fun ls hl => ?_)
                      refine lv_lload hx hb dX8_thought_191 (lv_at hl 0 rfl) ?_
                      refine lv_lconst (v := 0) hx hb dX8_thought_193 (by decide) ?_
                      refine W.lcmp hx hb dX8_thought_194 ?_
                      refine lv_if_le (tgt := 218) hx hb dX8_thought_195 (by decide) (fun c_140 => ?_) (fun c_140 => ?_)
                      · refine lv_iinc (v := (nI (ii_5 + 1))) (lv' := [(7, .int (nI (ii_5 + 1))), (11, .long x_129), (5, .long x_133), (3, .long x_129), (10, .int r_95), (9, .int r_94), (8, .int 0), (0, .ref (a 0)), (1, .int (nI j_2)), (2, .int (nI j_4))]) hx hb dX8_thought_218 hl (k := 6) rfl (nI_add ii_5 1) (by decide) rfl (fun ls hl => ?_)
                        refine lv_goto (tgt := 32) hx hb dX8_thought_221 (by decide) ?_
                        exact ih_5 _ (ii_5 + 1, x_129, x_133) _ _ _ (by omega) ⟨rfl, (by omega), hP, hS, (lv_sub hl [0, 2, 3, 7, 8, 9] rfl)⟩
                      · refine lv_lload_n hx hb dX8_thought_198 rfl (lv_at hl 2 rfl) ?_
                        refine lv_ldc2 hx hb hown (hts _ tw_1363) dX8_thought_199 ?_
                        refine lv_lmul hx hb dX8_thought_202 ?_
                        refine lv_topl (fun x_141 ex_141 => ?_)
                        refine lv_lload hx hb dX8_thought_203 (lv_at hl 0 rfl) ?_
                        refine lv_ldiv hx hb dX8_thought_205 (fun h => c_140 (by rw [h]; decide)) ?_
                        refine lv_topl (fun x_142 ex_142 => ?_)
                        refine lv_lstore_n (lv' := [(3, .long x_142), (11, .long x_129), (5, .long x_133), (10, .int r_95), (9, .int r_94), (8, .int 0), (7, .int (nI ii_5)), (0, .ref (a 0)), (1, .int (nI j_2)), (2, .int (nI j_4))]) hx hb dX8_thought_206 rfl hl (by decide) rfl (fun ls hl => ?_)
                        refine lv_lload hx hb dX8_thought_207 (lv_at hl 2 rfl) ?_
                        refine lv_ldc2 hx hb hown (hts _ tw_1363) dX8_thought_209 ?_
                        refine lv_lmul hx hb dX8_thought_212 ?_
                        refine lv_topl (fun x_143 ex_143 => ?_)
                        refine lv_lload hx hb dX8_thought_213 (lv_at hl 1 rfl) ?_
                        refine lv_ldiv hx hb dX8_thought_215 (fun h => c_140 (by rw [h]; decide)) ?_
                        refine lv_topl (fun x_144 ex_144 => ?_)
                        refine lv_lstore (lv' := [(5, .long x_144), (3, .long x_142), (11, .long x_129), (10, .int r_95), (9, .int r_94), (8, .int 0), (7, .int (nI ii_5)), (0, .ref (a 0)), (1, .int (nI j_2)), (2, .int (nI j_4))]) hx hb dX8_thought_216 hl (by decide) rfl (fun ls hl => ?_)
                        refine lv_iinc (v := (nI (ii_5 + 1))) (lv' := [(7, .int (nI (ii_5 + 1))), (5, .long x_144), (3, .long x_142), (11, .long x_129), (10, .int r_95), (9, .int r_94), (8, .int 0), (0, .ref (a 0)), (1, .int (nI j_2)), (2, .int (nI j_4))]) hx hb dX8_thought_218 hl (k := 6) rfl (nI_add ii_5 1) (by decide) rfl (fun ls hl => ?_)
                        refine lv_goto (tgt := 32) hx hb dX8_thought_221 (by decide) ?_
                        exact ih_5 _ (ii_5 + 1, x_142, x_144) _ _ _ (by omega) ⟨rfl, (by omega), hP, hS, (lv_sub hl [0, 1, 2, 7, 8, 9] rfl)⟩
                  · refine lv_iload hx hb dX8_thought_158 (lv_at hl 1 rfl) ?_
                    refine lv_goto (tgt := 168) hx hb dX8_thought_160 (by decide) ?_
                    refine lv_i2l (v := r_95.toInt64) hx hb dX8_thought_168 rfl ?_
                    refine lv_lmul hx hb dX8_thought_169 ?_
                    refine lv_topl (fun x_145 ex_145 => ?_)
                    refine lv_ldc2 hx hb hown (hts _ tw_1272) dX8_thought_170 ?_
                    refine lv_ldiv hx hb dX8_thought_173 (by decide) ?_
                    refine lv_topl (fun x_146 ex_146 => ?_)
                    refine lv_lstore (lv' := [(5, .long x_146), (3, .long x_129), (10, .int r_95), (9, .int r_94), (8, .int 0), (7, .int (nI ii_5)), (0, .ref (a 0)), (1, .int (nI j_2)), (2, .int (nI j_4))]) hx hb dX8_thought_174 hl (by decide) rfl (fun ls hl => ?_)
                    refine lv_lload_n hx hb dX8_thought_176 rfl (lv_at hl 1 rfl) ?_
                    refine lv_lload hx hb dX8_thought_177 (lv_at hl 0 rfl) ?_
                    refine W.lcmp hx hb dX8_thought_179 ?_
                    refine lv_if_le (tgt := 187) hx hb dX8_thought_180 (by decide) (fun c_147 => ?_) (fun c_147 => ?_)
                    · refine lv_lload hx hb dX8_thought_187 (lv_at hl 0 rfl) ?_
                      refine lv_lstore (lv' := [(11, .long x_146), (5, .long x_146), (3, .long x_129), (10, .int r_95), (9, .int r_94), (8, .int 0), (7, .int (nI ii_5)), (0, .ref (a 0)), (1, .int (nI j_2)), (2, .int (nI j_4))]) hx hb dX8_thought_189 hl (by decide) rfl (fun ls hl => ?_)
                      refine lv_lload hx hb dX8_thought_191 (lv_at hl 0 rfl) ?_
                      refine lv_lconst (v := 0) hx hb dX8_thought_193 (by decide) ?_
                      refine W.lcmp hx hb dX8_thought_194 ?_
                      refine lv_if_le (tgt := 218) hx hb dX8_thought_195 (by decide) (fun c_148 => ?_) (fun c_148 => ?_)
                      · refine lv_iinc (v := (nI (ii_5 + 1))) (lv' := [(7, .int (nI (ii_5 + 1))), (11, .long x_146), (5, .long x_146), (3, .long x_129), (10, .int r_95), (9, .int r_94), (8, .int 0), (0, .ref (a 0)), (1, .int (nI j_2)), (2, .int (nI j_4))]) hx hb dX8_thought_218 hl (k := 6) rfl (nI_add ii_5 1) (by decide) rfl (fun ls hl => ?_)
                        refine lv_goto (tgt := 32) hx hb dX8_thought_221 (by decide) ?_
                        exact ih_5 _ (ii_5 + 1, x_129, x_146) _ _ _ (by omega) ⟨rfl, (by omega), hP, hS, (lv_sub hl [0, 2, 3, 7, 8, 9] rfl)⟩
                      · refine lv_lload_n hx hb dX8_thought_198 rfl (lv_at hl 2 rfl) ?_
                        refine lv_ldc2 hx hb hown (hts _ tw_1363) dX8_thought_199 ?_
                        refine lv_lmul hx hb dX8_thought_202 ?_
                        refine lv_topl (fun x_149 ex_149 => ?_)
                        refine lv_lload hx hb dX8_thought_203 (lv_at hl 0 rfl) ?_
                        refine lv_ldiv hx hb dX8_thought_205 (fun h => c_148 (by rw [h]; decide)) ?_
                        refine lv_topl (fun x_150 ex_150 => ?_)
                        refine lv_lstore_n (lv' := [(3, .long x_150), (11, .long x_146), (5, .long x_146), (10, .int r_95), (9, .int r_94), (8, .int 0), (7, .int (nI ii_5)), (0, .ref (a 0)), (1, .int (nI j_2)), (2, .int (nI j_4))]) hx hb dX8_thought_206 rfl hl (by decide) rfl (fun ls hl => ?_)
                        refine lv_lload hx hb dX8_thought_207 (lv_at hl 2 rfl) ?_
                        refine lv_ldc2 hx hb hown (hts _ tw_1363) dX8_thought_209 ?_
                        refine lv_lmul hx hb dX8_thought_212 ?_
                        refine lv_topl (fun x_151 ex_151 => ?_)
                        refine lv_lload hx hb dX8_thought_213 (lv_at hl 1 rfl) ?_
                        refine lv_ldiv hx hb dX8_thought_215 (fun h => c_148 (by rw [h]; decide)) ?_
                        refine lv_topl (fun x_152 ex_152 => ?_)
                        refine lv_lstore (lv' := [(5, .long x_152), (3, .long x_150), (11, .long x_146), (10, .int r_95), (9, .int r_94), (8, .int 0), (7, .int (nI ii_5)), (0, .ref (a 0)), (1, .int (nI j_2)), (2, .int (nI j_4))]) hx hb dX8_thought_216 hl (by decide) rfl (fun ls hl => ?_)
                        refine lv_iinc (v := (nI (ii_5 + 1))) (lv' := [(7, .int (nI (ii_5 + 1))), (5, .long x_152), (3, .long x_150), (11, .long x_146), (10, .int r_95), (9, .int r_94), (8, .int 0), (0, .ref (a 0)), (1, .int (nI j_2)), (2, .int (nI j_4))]) hx hb dX8_thought_218 hl (k := 6) rfl (nI_add ii_5 1) (by decide) rfl (fun ls hl => ?_)
                        refine lv_goto (tgt := 32) hx hb dX8_thought_221 (by decide) ?_
                        exact ih_5 _ (ii_5 + 1, x_150, x_152) _ _ _ (by omega) ⟨rfl, (by omega), hP, hS, (lv_sub hl [0, 1, 2, 7, 8, 9] rfl)⟩
                    · refine lv_lload_n hx hb dX8_thought_183 rfl (lv_at hl 1 rfl) ?_
                      refine lv_goto (tgt := 189) hx hb dX8_thought_184 (by decide) ?_
                      refine lv_lstore (lv' := [(11, .long x_129), (5, .long x_146), (3, .long x_129), (10, .int r_95), (9, .int r_94), (8, .int 0), (7, .int (nI ii_5)), (0, .ref (a 0)), (1, .int (nI j_2)), (2, .int (nI j_4))]) hx hb dX8_thought_189 hl (by decide) rfl (fun ls hl => ?_)
                      refine lv_lload hx hb dX8_thought_191 (lv_at hl 0 rfl) ?_
                      refine lv_lconst (v := 0) hx hb dX8_thought_193 (by decide) ?_
                      refine W.lcmp hx hb dX8_thought_194 ?_
                      refine lv_if_le (tgt := 218) hx hb dX8_thought_195 (by decide) (fun c_153 => ?_) (fun c_153 => ?_)
                      · refine lv_iinc (v := (nI (ii_5 + 1))) (lv' := [(7, .int (nI (ii_5 + 1))), (11, .long x_129), (5, .long x_146), (3, .long x_129), (10, .int r_95), (9, .int r_94), (8, .int 0), (0, .ref (a 0)), (1, .int (nI j_2)), (2, .int (nI j_4))]) hx hb dX8_thought_218 hl (k := 6) rfl (nI_add ii_5 1) (by decide) rfl (fun ls hl => ?_)
                        refine lv_goto (tgt := 32) hx hb dX8_thought_221 (by decide) ?_
                        exact ih_5 _ (ii_5 + 1, x_129, x_146) _ _ _ (by omega) ⟨rfl, (by omega), hP, hS, (lv_sub hl [0, 2, 3, 7, 8, 9] rfl)⟩
                      · refine lv_lload_n hx hb dX8_thought_198 rfl (lv_at hl 2 rfl) ?_
                        refine lv_ldc2 hx hb hown (hts _ tw_1363) dX8_thought_199 ?_
                        refine lv_lmul hx hb dX8_thought_202 ?_
                        refine lv_topl (fun x_154 ex_154 => ?_)
                        refine lv_lload hx hb dX8_thought_203 (lv_at hl 0 rfl) ?_
                        refine lv_ldiv hx hb dX8_thought_205 (fun h => c_153 (by rw [h]; decide)) ?_
                        refine lv_topl (fun x_155 ex_155 => ?_)
                        refine lv_lstore_n (lv' := [(3, .long x_155), (11, .long x_129), (5, .long x_146), (10, .int r_95), (9, .int r_94), (8, .int 0), (7, .int (nI ii_5)), (0, .ref (a 0)), (1, .int (nI j_2)), (2, .int (nI j_4))]) hx hb dX8_thought_206 rfl hl (by decide) rfl (fun ls hl => ?_)
                        refine lv_lload hx hb dX8_thought_207 (lv_at hl 2 rfl) ?_
                        refine lv_ldc2 hx hb hown (hts _ tw_1363) dX8_thought_209 ?_
                        refine lv_lmul hx hb dX8_thought_212 ?_
                        refine lv_topl (fun x_156 ex_156 => ?_)
                        refine lv_lload hx hb dX8_thought_213 (lv_at hl 1 rfl) ?_
                        refine lv_ldiv hx hb dX8_thought_215 (fun h => c_153 (by rw [h]; decide)) ?_
                        refine lv_topl (fun x_157 ex_157 => ?_)
                        refine lv_lstore (lv' := [(5, .long x_157), (3, .long x_155), (11, .long x_129), (10, .int r_95), (9, .int r_94), (8, .int 0), (7, .int (nI ii_5)), (0, .ref (a 0)), (1, .int (nI j_2)), (2, .int (nI j_4))]) hx hb dX8_thought_216 hl (by decide) rfl (fun ls hl => ?_)
                        refine lv_iinc (v := (nI (ii_5 + 1))) (lv' := [(7, .int (nI (ii_5 + 1))), (5, .long x_157), (3, .long x_155), (11, .long x_129), (10, .int r_95), (9, .int r_94), (8, .int 0), (0, .ref (a 0)), (1, .int (nI j_2)), (2, .int (nI j_4))]) hx hb dX8_thought_218 hl (k := 6) rfl (nI_add ii_5 1) (by decide) rfl (fun ls hl => ?_)
                        refine lv_goto (tgt := 32) hx hb dX8_thought_221 (by decide) ?_
                        exact ih_5 _ (ii_5 + 1, x_155, x_157) _ _ _ (by omega) ⟨rfl, (by omega), hP, hS, (lv_sub hl [0, 1, 2, 7, 8, 9] rfl)⟩
              · refine lv_iconst (v := 1) hx hb dX8_thought_89 (by decide) ?_
                refine lv_goto (tgt := 94) hx hb dX8_thought_90 (by decide) ?_
                refine lv_istore (lv' := [(8, .int 1), (7, .int (nI ii_5)), (5, .long v2_5), (3, .long w2_5), (0, .ref (a 0)), (1, .int (nI j_2)), (2, .int (nI j_4))]) hx hb dX8_thought_94 hl (by decide) rfl (fun ls hl => ?_)
                refine lv_aload_n hx hb dX8_thought_96 rfl (lv_at hl 4 rfl) ?_
                refine lv_iload_n hx hb dX8_thought_97 rfl (lv_at hl 5 rfl) ?_
                refine lv_iload hx hb dX8_thought_98 (lv_at hl 1 rfl) ?_
                refine lv_iload hx hb dX8_thought_100 (lv_at hl 0 rfl) ?_
                refine ro_i (D := D) (va_runV (As := [.int (nI j_2), .int (nI ii_5), .int 1]) (rest := []) ⟨hx, hb, hml, hown, hts⟩ ((m_chanceOf l D k st lo a tx t0 we rd ru rw ca fp wd nu na ts df db sd ffrees se tm gs j_2 ii_5 1 (by omega) (by omega)) H.size) (cwV 3 hts (gV tw_1210 tw_1212 tw_41 tw_87 tw_1213) rfl rfl rfl (by decide +kernel) ⟨Nat.le_of_ble_eq_true rfl, Nat.le_of_ble_eq_true rfl⟩) (pV hS hAlo hlo hP hK hDL hZ [0, 3, 2] (by decide) rfl (ci := 8) (q := (RX8, TX8, 44)) (q0 := 0) rfl rfl) rfl rfl hl.1 rfl (lv_room (Nat.le_of_ble_eq_true rfl)) dX8_thought_102 ⟨Nat.le_of_ble_eq_true rfl, Nat.le_of_ble_eq_true rfl⟩) hS hA hP (fun r_158 H locs hw_158 hP hS => ?_)
                try dsimp only at hw_158
                refine lv_istore (lv' := [(9, .int r_158), (8, .int 1), (7, .int (nI ii_5)), (5, .long v2_5), (3, .long w2_5), (0, .ref (a 0)), (1, .int (nI j_2)), (2, .int (nI j_4))]) hx hb dX8_thought_105 hl (by decide) rfl (fun ls hl => ?_)
                refine lv_aload_n hx hb dX8_thought_107 rfl (lv_at hl 5 rfl) ?_
                refine lv_iload_n hx hb dX8_thought_108 rfl (lv_at hl 7 rfl) ?_
                refine lv_iload hx hb dX8_thought_109 (lv_at hl 2 rfl) ?_
                refine lv_iload hx hb dX8_thought_111 (lv_at hl 1 rfl) ?_
                refine ro_i (D := D) (va_runV (As := [.int (nI j_4), .int (nI ii_5), .int 1]) (rest := []) ⟨hx, hb, hml, hown, hts⟩ ((m_chanceOf l D k st lo a tx t0 we rd ru rw ca fp wd nu na ts df db sd ffrees se tm gs j_4 ii_5 1 (by omega) (by omega)) H.size) (cwV 3 hts (gV tw_1210 tw_1212 tw_41 tw_87 tw_1213) rfl rfl rfl (by decide +kernel) ⟨Nat.le_of_ble_eq_true rfl, Nat.le_of_ble_eq_true rfl⟩) (pV hS hAlo hlo hP hK hDL hZ [0, 3, 2] (by decide) rfl (ci := 8) (q := (RX8, TX8, 44)) (q0 := 0) rfl rfl) rfl rfl hl.1 rfl (lv_room (Nat.le_of_ble_eq_true rfl)) dX8_thought_113 ⟨Nat.le_of_ble_eq_true rfl, Nat.le_of_ble_eq_true rfl⟩) hS hA hP (fun r_159 H locs hw_159 hP hS => ?_)
                try dsimp only at hw_159
                refine lv_istore (lv' := [(10, .int r_159), (9, .int r_158), (8, .int 1), (7, .int (nI ii_5)), (5, .long v2_5), (3, .long w2_5), (0, .ref (a 0)), (1, .int (nI j_2)), (2, .int (nI j_4))]) hx hb dX8_thought_116 hl (by decide) rfl (fun ls hl => ?_)
                refine lv_lload_n hx hb dX8_thought_118 rfl (lv_at hl 5 rfl) ?_
                refine lv_aload_n hx hb dX8_thought_119 rfl (lv_at hl 6 rfl) ?_
                refine va_get (D := D) (ci := 8) (v := .ref (a 32)) (C := RX8) (T := TX8) (N := 44) hx hb hts inX8 hown hK hP 0 rfl rfl 31 (by decide) (hts _ tw_1004) (fun _ h9 => h9) rfl dX8_thought_120 ?_
                refine lv_iload hx hb dX8_thought_123 (lv_at hl 3 rfl) ?_
                refine va_zald hx hb hK hP 4 2 rfl rfl (vp_in_nI (by omega) (by decide)) dX8_thought_125 ?_
                refine lv_ti (y := (frow ii_5)) (by rw [nI_clamp (by omega)]) ?_
                refine lv_if_eq (tgt := 134) hx hb dX8_thought_126 (by decide) (fun c_160 => ?_) (fun c_160 => ?_)
                · refine lv_bipush (v := 100) hx hb dX8_thought_134 (by decide) ?_
                  refine lv_iload hx hb dX8_thought_136 (lv_at hl 1 rfl) ?_
                  refine lv_isub hx hb dX8_thought_138 ?_
                  refine lv_topi (fun x_161 ex_161 => ?_)
                  refine lv_i2l (v := x_161.toInt64) hx hb dX8_thought_139 rfl ?_
                  refine lv_lmul hx hb dX8_thought_140 ?_
                  refine lv_topl (fun x_162 ex_162 => ?_)
                  refine lv_ldc2 hx hb hown (hts _ tw_1272) dX8_thought_141 ?_
                  refine lv_ldiv hx hb dX8_thought_144 (by decide) ?_
                  refine lv_topl (fun x_163 ex_163 => ?_)
                  refine lv_lstore_n (lv' := [(3, .long x_163), (10, .int r_159), (9, .int r_158), (8, .int 1), (7, .int (nI ii_5)), (5, .long v2_5), (0, .ref (a 0)), (1, .int (nI j_2)), (2, .int (nI j_4))]) hx hb dX8_thought_145 rfl hl (by decide) rfl (fun ls hl => ?_)
                  refine lv_lload hx hb dX8_thought_146 (lv_at hl 5 rfl) ?_
                  refine lv_aload_n hx hb dX8_thought_148 rfl (lv_at hl 6 rfl) ?_
                  refine va_get (D := D) (ci := 8) (v := .ref (a 32)) (C := RX8) (T := TX8) (N := 44) hx hb hts inX8 hown hK hP 0 rfl rfl 31 (by decide) (hts _ tw_1004) (fun _ h9 => h9) rfl dX8_thought_149 ?_
                  refine lv_iload hx hb dX8_thought_152 (lv_at hl 4 rfl) ?_
                  refine va_zald hx hb hK hP 4 2 rfl rfl (vp_in_nI (by omega) (by decide)) dX8_thought_154 ?_
                  refine lv_ti (y := (frow ii_5)) (by rw [nI_clamp (by omega)]) ?_
                  refine lv_if_eq (tgt := 163) hx hb dX8_thought_155 (by decide) (fun c_164 => ?_) (fun c_164 => ?_)
                  · refine lv_bipush (v := 100) hx hb dX8_thought_163 (by decide) ?_
                    refine lv_iload hx hb dX8_thought_165 (lv_at hl 1 rfl) ?_
                    refine lv_isub hx hb dX8_thought_167 ?_
                    refine lv_topi (fun x_165 ex_165 => ?_)
                    refine lv_i2l (v := x_165.toInt64) hx hb dX8_thought_168 rfl ?_
                    refine lv_lmul hx hb dX8_thought_169 ?_
                    refine lv_topl (fun x_166 ex_166 => ?_)
                    refine lv_ldc2 hx hb hown (hts _ tw_1272) dX8_thought_170 ?_
                    refine lv_ldiv hx hb dX8_thought_173 (by decide) ?_
                    refine lv_topl (fun x_167 ex_167 => ?_)
                    refine lv_lstore (lv' := [(5, .long x_167), (3, .long x_163), (10, .int r_159), (9, .int r_158), (8, .int 1), (7, .int (nI ii_5)), (0, .ref (a 0)), (1, .int (nI j_2)), (2, .int (nI j_4))]) hx hb dX8_thought_174 hl (by decide) rfl (fun ls hl => ?_)
                    refine lv_lload_n hx hb dX8_thought_176 rfl (lv_at hl 1 rfl) ?_
                    refine lv_lload hx hb dX8_thought_177 (lv_at hl 0 rfl) ?_
                    refine W.lcmp hx hb dX8_thought_179 ?_
                    refine lv_if_le (tgt := 187) hx hb dX8_thought_180 (by decide) (fun c_168 => ?_) (fun c_168 => ?_)
                    · refine lv_lload hx hb dX8_thought_187 (lv_at hl 0 rfl) ?_
                      refine lv_lstore (lv' := [(11, .long x_167), (5, .long x_167), (3, .long x_163), (10, .int r_159), (9, .int r_158), (8, .int 1), (7, .int (nI ii_5)), (0, .ref (a 0)), (1, .int (nI j_2)), (2, .int (nI j_4))]) hx hb dX8_thought_189 hl (by decide) rfl (fun ls hl => ?_)
                      refine lv_lload hx hb dX8_thought_191 (lv_at hl 0 rfl) ?_
                      refine lv_lconst (v := 0) hx hb dX8_thought_193 (by decide) ?_
                      refine W.lcmp hx hb dX8_thought_194 ?_
                      refine lv_if_le (tgt := 218) hx hb dX8_thought_195 (by decide) (fun c_169 => ?_) (fun c_169 => ?_)
                      · refine lv_iinc (v := (nI (ii_5 + 1))) (lv' := [(7, .int (nI (ii_5 + 1))), (11, .long x_167), (5, .long x_167), (3, .long x_163), (10, .int r_159), (9, .int r_158), (8, .int 1), (0, .ref (a 0)), (1, .int (nI j_2)), (2, .int (nI j_4))]) hx hb dX8_thought_218 hl (k := 6) rfl (nI_add ii_5 1) (by decide) rfl (fun ls hl => ?_)
                        refine lv_goto (tgt := 32) hx hb dX8_thought_221 (by decide) ?_
                        exact ih_5 _ (ii_5 + 1, x_163, x_167) _ _ _ (by omega) ⟨rfl, (by omega), hP, hS, (lv_sub hl [0, 2, 3, 7, 8, 9] rfl)⟩
                      · refine lv_lload_n hx hb dX8_thought_198 rfl (lv_at hl 2 rfl) ?_
                        refine lv_ldc2 hx hb hown (hts _ tw_1363) dX8_thought_199 ?_
                        refine lv_lmul hx hb dX8_thought_202 ?_
                        refine lv_topl (fun x_170 ex_170 => ?_)
                        refine lv_lload hx hb dX8_thought_203 (lv_at hl 0 rfl) ?_
                        refine lv_ldiv hx hb dX8_thought_205 (fun h => c_169 (by rw [h]; decide)) ?_
                        refine lv_topl (fun x_171 ex_171 => ?_)
                        refine lv_lstore_n (lv' := [(3, .long x_171), (11, .long x_167), (5, .long x_167), (10, .int r_159), (9, .int r_158), (8, .int 1), (7, .int (nI ii_5)), (0, .ref (a 0)), (1, .int (nI j_2)), (2, .int (nI j_4))]) hx hb dX8_thought_206 rfl hl (by decide) rfl (fun ls hl => ?_)
                        refine lv_lload hx hb dX8_thought_207 (lv_at hl 2 rfl) ?_
                        refine lv_ldc2 hx hb hown (hts _ tw_1363) dX8_thought_209 ?_
                        refine lv_lmul hx hb dX8_thought_212 ?_
                        refine lv_topl (fun x_172 ex_172 => ?_)
                        refine lv_lload hx hb dX8_thought_213 (lv_at hl 1 rfl) ?_
                        refine lv_ldiv hx hb dX8_thought_215 (fun h => c_169 (by rw [h]; decide)) ?_
                        refine lv_topl (fun x_173 ex_173 => ?_)
                        refine lv_lstore (lv' := [(5, .long x_173), (3, .long x_171), (11, .long x_167), (10, .int r_159), (9, .int r_158), (8, .int 1), (7, .int (nI ii_5)), (0, .ref (a 0)), (1, .int (nI j_2)), (2, .int (nI j_4))]) hx hb dX8_thought_216 hl (by decide) rfl (fun ls hl => ?_)
                        refine lv_iinc (v := (nI (ii_5 + 1))) (lv' := [(7, .int (nI (ii_5 + 1))), (5, .long x_173), (3, .long x_171), (11, .long x_167), (10, .int r_159), (9, .int r_158), (8, .int 1), (0, .ref (a 0)), (1, .int (nI j_2)), (2, .int (nI j_4))]) hx hb dX8_thought_218 hl (k := 6) rfl (nI_add ii_5 1) (by decide) rfl (fun ls hl => ?_)
                        refine lv_goto (tgt := 32) hx hb dX8_thought_221 (by decide) ?_
                        exact ih_5 _ (ii_5 + 1, x_171, x_173) _ _ _ (by omega) ⟨rfl, (by omega), hP, hS, (lv_sub hl [0, 1, 2, 7, 8, 9] rfl)⟩
                    · refine lv_lload_n hx hb dX8_thought_183 rfl (lv_at hl 1 rfl) ?_
                      refine lv_goto (tgt := 189) hx hb dX8_thought_184 (by decide) ?_
                      refine lv_lstore (lv' := [(11, .long x_163), (5, .long x_167), (3, .long x_163), (10, .int r_159), (9, .int r_158), (8, .int 1), (7, .int (nI ii_5)), (0, .ref (a 0)), (1, .int (nI j_2)), (2, .int (nI j_4))]) hx hb dX8_thought_189 hl (by decide) rfl (fun ls hl => ?_)
                      refine lv_lload hx hb dX8_thought_191 (lv_at hl 0 rfl) ?_
                      refine lv_lconst (v := 0) hx hb dX8_thought_193 (by decide) ?_
                      refine W.lcmp hx hb dX8_thought_194 ?_
                      refine lv_if_le (tgt := 218) hx hb dX8_thought_195 (by decide) (fun c_174 => ?_) (fun c_174 => ?_)
                      · refine lv_iinc (v := (nI (ii_5 + 1))) (lv' := [(7, .int (nI (ii_5 + 1))), (11, .long x_163), (5, .long x_167), (3, .long x_163), (10, .int r_159), (9, .int r_158), (8, .int 1), (0, .ref (a 0)), (1, .int (nI j_2)), (2, .int (nI j_4))]) hx hb dX8_thought_218 hl (k := 6) rfl (nI_add ii_5 1) (by decide) rfl (fun ls hl => ?_)
                        refine lv_goto (tgt := 32) hx hb dX8_thought_221 (by decide) ?_
                        exact ih_5 _ (ii_5 + 1, x_163, x_167) _ _ _ (by omega) ⟨rfl, (by omega), hP, hS, (lv_sub hl [0, 2, 3, 7, 8, 9] rfl)⟩
                      · refine lv_lload_n hx hb dX8_thought_198 rfl (lv_at hl 2 rfl) ?_
                        refine lv_ldc2 hx hb hown (hts _ tw_1363) dX8_thought_199 ?_
                        refine lv_lmul hx hb dX8_thought_202 ?_
                        refine lv_topl (fun x_175 ex_175 => ?_)
                        refine lv_lload hx hb dX8_thought_203 (lv_at hl 0 rfl) ?_
                        refine lv_ldiv hx hb dX8_thought_205 (fun h => c_174 (by rw [h]; decide)) ?_
                        refine lv_topl (fun x_176 ex_176 => ?_)
                        refine lv_lstore_n (lv' := [(3, .long x_176), (11, .long x_163), (5, .long x_167), (10, .int r_159), (9, .int r_158), (8, .int 1), (7, .int (nI ii_5)), (0, .ref (a 0)), (1, .int (nI j_2)), (2, .int (nI j_4))]) hx hb dX8_thought_206 rfl hl (by decide) rfl (fun ls hl => ?_)
                        refine lv_lload hx hb dX8_thought_207 (lv_at hl 2 rfl) ?_
                        refine lv_ldc2 hx hb hown (hts _ tw_1363) dX8_thought_209 ?_
                        refine lv_lmul hx hb dX8_thought_212 ?_
                        refine lv_topl (fun x_177 ex_177 => ?_)
                        refine lv_lload hx hb dX8_thought_213 (lv_at hl 1 rfl) ?_
                        refine lv_ldiv hx hb dX8_thought_215 (fun h => c_174 (by rw [h]; decide)) ?_
                        refine lv_topl (fun x_178 ex_178 => ?_)
                        refine lv_lstore (lv' := [(5, .long x_178), (3, .long x_176), (11, .long x_163), (10, .int r_159), (9, .int r_158), (8, .int 1), (7, .int (nI ii_5)), (0, .ref (a 0)), (1, .int (nI j_2)), (2, .int (nI j_4))]) hx hb dX8_thought_216 hl (by decide) rfl (fun ls hl => ?_)
                        refine lv_iinc (v := (nI (ii_5 + 1))) (lv' := [(7, .int (nI (ii_5 + 1))), (5, .long x_178), (3, .long x_176), (11, .long x_163), (10, .int r_159), (9, .int r_158), (8, .int 1), (0, .ref (a 0)), (1, .int (nI j_2)), (2, .int (nI j_4))]) hx hb dX8_thought_218 hl (k := 6) rfl (nI_add ii_5 1) (by decide) rfl (fun ls hl => ?_)
                        refine lv_goto (tgt := 32) hx hb dX8_thought_221 (by decide) ?_
                        exact ih_5 _ (ii_5 + 1, x_176, x_178) _ _ _ (by omega) ⟨rfl, (by omega), hP, hS, (lv_sub hl [0, 1, 2, 7, 8, 9] rfl)⟩
                  · refine lv_iload hx hb dX8_thought_158 (lv_at hl 1 rfl) ?_
                    refine lv_goto (tgt := 168) hx hb dX8_thought_160 (by decide) ?_
                    refine lv_i2l (v := r_159.toInt64) hx hb dX8_thought_168 rfl ?_
                    refine lv_lmul hx hb dX8_thought_169 ?_
                    refine lv_topl (fun x_179 ex_179 => ?_)
                    refine lv_ldc2 hx hb hown (hts _ tw_1272) dX8_thought_170 ?_
                    refine lv_ldiv hx hb dX8_thought_173 (by decide) ?_
                    refine lv_topl (fun x_180 ex_180 => ?_)
                    refine lv_lstore (lv' := [(5, .long x_180), (3, .long x_163), (10, .int r_159), (9, .int r_158), (8, .int 1), (7, .int (nI ii_5)), (0, .ref (a 0)), (1, .int (nI j_2)), (2, .int (nI j_4))]) hx hb dX8_thought_174 hl (by decide) rfl (fun ls hl => ?_)
                    refine lv_lload_n hx hb dX8_thought_176 rfl (lv_at hl 1 rfl) ?_
                    refine lv_lload hx hb dX8_thought_177 (lv_at hl 0 rfl) ?_
                    refine W.lcmp hx hb dX8_thought_179 ?_
                    refine lv_if_le (tgt := 187) hx hb dX8_thought_180 (by decide) (fun c_181 => ?_) (fun c_181 => ?_)
                    · refine lv_lload hx hb dX8_thought_187 (lv_at hl 0 rfl) ?_
                      refine lv_lstore (lv' := [(11, .long x_180), (5, .long x_180), (3, .long x_163), (10, .int r_159), (9, .int r_158), (8, .int 1), (7, .int (nI ii_5)), (0, .ref (a 0)), (1, .int (nI j_2)), (2, .int (nI j_4))]) hx hb dX8_thought_189 hl (by decide) rfl (fun ls hl => ?_)
                      refine lv_lload hx hb dX8_thought_191 (lv_at hl 0 rfl) ?_
                      refine lv_lconst (v := 0) hx hb dX8_thought_193 (by decide) ?_
                      refine W.lcmp hx hb dX8_thought_194 ?_
                      refine lv_if_le (tgt := 218) hx hb dX8_thought_195 (by decide) (fun c_182 => ?_) (fun c_182 => ?_)
                      · refine lv_iinc (v := (nI (ii_5 + 1))) (lv' := [(7, .int (nI (ii_5 + 1))), (11, .long x_180), (5, .long x_180), (3, .long x_163), (10, .int r_159), (9, .int r_158), (8, .int 1), (0, .ref (a 0)), (1, .int (nI j_2)), (2, .int (nI j_4))]) hx hb dX8_thought_218 hl (k := 6) rfl (nI_add ii_5 1) (by decide) rfl (fun ls hl => ?_)
                        refine lv_goto (tgt := 32) hx hb dX8_thought_221 (by decide) ?_
                        exact ih_5 _ (ii_5 + 1, x_163, x_180) _ _ _ (by omega) ⟨rfl, (by omega), hP, hS, (lv_sub hl [0, 2, 3, 7, 8, 9] rfl)⟩
                      · refine lv_lload_n hx hb dX8_thought_198 rfl (lv_at hl 2 rfl) ?_
                        refine lv_ldc2 hx hb hown (hts _ tw_1363) dX8_thought_199 ?_
                        refine lv_lmul hx hb dX8_thought_202 ?_
                        refine lv_topl (fun x_183 ex_183 => ?_)
                        refine lv_lload hx hb dX8_thought_203 (lv_at hl 0 rfl) ?_
                        refine lv_ldiv hx hb dX8_thought_205 (fun h => c_182 (by rw [h]; decide)) ?_
                        refine lv_topl (fun x_184 ex_184 => ?_)
                        refine lv_lstore_n (lv' := [(3, .long x_184), (11, .long x_180), (5, .long x_180), (10, .int r_159), (9, .int r_158), (8, .int 1), (7, .int (nI ii_5)), (0, .ref (a 0)), (1, .int (nI j_2)), (2, .int (nI j_4))]) hx hb dX8_thought_206 rfl hl (by decide) rfl (fun ls hl => ?_)
                        refine lv_lload hx hb dX8_thought_207 (lv_at hl 2 rfl) ?_
                        refine lv_ldc2 hx hb hown (hts _ tw_1363) dX8_thought_209 ?_
                        refine lv_lmul hx hb dX8_thought_212 ?_
                        refine lv_topl (fun x_185 ex_185 => ?_)
                        refine lv_lload hx hb dX8_thought_213 (lv_at hl 1 rfl) ?_
                        refine lv_ldiv hx hb dX8_thought_215 (fun h => c_182 (by rw [h]; decide)) ?_
                        refine lv_topl (fun x_186 ex_186 => ?_)
                        refine lv_lstore (lv' := [(5, .long x_186), (3, .long x_184), (11, .long x_180), (10, .int r_159), (9, .int r_158), (8, .int 1), (7, .int (nI ii_5)), (0, .ref (a 0)), (1, .int (nI j_2)), (2, .int (nI j_4))]) hx hb dX8_thought_216 hl (by decide) rfl (fun ls hl => ?_)
                        refine lv_iinc (v := (nI (ii_5 + 1))) (lv' := [(7, .int (nI (ii_5 + 1))), (5, .long x_186), (3, .long x_184), (11, .long x_180), (10, .int r_159), (9, .int r_158), (8, .int 1), (0, .ref (a 0)), (1, .int (nI j_2)), (2, .int (nI j_4))]) hx hb dX8_thought_218 hl (k := 6) rfl (nI_add ii_5 1) (by decide) rfl (fun ls hl => ?_)
                        refine lv_goto (tgt := 32) hx hb dX8_thought_221 (by decide) ?_
                        exact ih_5 _ (ii_5 + 1, x_184, x_186) _ _ _ (by omega) ⟨rfl, (by omega), hP, hS, (lv_sub hl [0, 1, 2, 7, 8, 9] rfl)⟩
                    · refine lv_lload_n hx hb dX8_thought_183 rfl (lv_at hl 1 rfl) ?_
                      refine lv_goto (tgt := 189) hx hb dX8_thought_184 (by decide) ?_
                      refine lv_lstore (lv' := [(11, .long x_163), (5, .long x_180), (3, .long x_163), (10, .int r_159), (9, .int r_158), (8, .int 1), (7, .int (nI ii_5)), (0, .ref (a 0)), (1, .int (nI j_2)), (2, .int (nI j_4))]) hx hb dX8_thought_189 hl (by decide) rfl (fun ls hl => ?_)
                      refine lv_lload hx hb dX8_thought_191 (lv_at hl 0 rfl) ?_
                      refine lv_lconst (v := 0) hx hb dX8_thought_193 (by decide) ?_
                      refine W.lcmp hx hb dX8_thought_194 ?_
                      refine lv_if_le (tgt := 218) hx hb dX8_thought_195 (by decide) (fun c_187 => ?_) (fun c_187 => ?_)
                      · refine lv_iinc (v := (nI (ii_5 + 1))) (lv' := [(7, .int (nI (ii_5 + 1))), (11, .long x_163), (5, .long x_180), (3, .long x_163), (10, .int r_159), (9, .int r_158), (8, .int 1), (0, .ref (a 0)), (1, .int (nI j_2)), (2, .int (nI j_4))]) hx hb dX8_thought_218 hl (k := 6) rfl (nI_add ii_5 1) (by decide) rfl (fun ls hl => ?_)
                        refine lv_goto (tgt := 32) hx hb dX8_thought_221 (by decide) ?_
                        exact ih_5 _ (ii_5 + 1, x_163, x_180) _ _ _ (by omega) ⟨rfl, (by omega), hP, hS, (lv_sub hl [0, 2, 3, 7, 8, 9] rfl)⟩
                      · refine lv_lload_n hx hb dX8_thought_198 rfl (lv_at hl 2 rfl) ?_
                        refine lv_ldc2 hx hb hown (hts _ tw_1363) dX8_thought_199 ?_
                        refine lv_lmul hx hb dX8_thought_202 ?_
                        refine lv_topl (fun x_188 ex_188 => ?_)
                        refine lv_lload hx hb dX8_thought_203 (lv_at hl 0 rfl) ?_
                        refine lv_ldiv hx hb dX8_thought_205 (fun h => c_187 (by rw [h]; decide)) ?_
                        refine lv_topl (fun x_189 ex_189 => ?_)
                        refine lv_lstore_n (lv' := [(3, .long x_189), (11, .long x_163), (5, .long x_180), (10, .int r_159), (9, .int r_158), (8, .int 1), (7, .int (nI ii_5)), (0, .ref (a 0)), (1, .int (nI j_2)), (2, .int (nI j_4))]) hx hb dX8_thought_206 rfl hl (by decide) rfl (fun ls hl => ?_)
                        refine lv_lload hx hb dX8_thought_207 (lv_at hl 2 rfl) ?_
                        refine lv_ldc2 hx hb hown (hts _ tw_1363) dX8_thought_209 ?_
                        refine lv_lmul hx hb dX8_thought_212 ?_
                        refine lv_topl (fun x_190 ex_190 => ?_)
                        refine lv_lload hx hb dX8_thought_213 (lv_at hl 1 rfl) ?_
                        refine lv_ldiv hx hb dX8_thought_215 (fun h => c_187 (by rw [h]; decide)) ?_
                        refine lv_topl (fun x_191 ex_191 => ?_)
                        refine lv_lstore (lv' := [(5, .long x_191), (3, .long x_189), (11, .long x_163), (10, .int r_159), (9, .int r_158), (8, .int 1), (7, .int (nI ii_5)), (0, .ref (a 0)), (1, .int (nI j_2)), (2, .int (nI j_4))]) hx hb dX8_thought_216 hl (by decide) rfl (fun ls hl => ?_)
                        refine lv_iinc (v := (nI (ii_5 + 1))) (lv' := [(7, .int (nI (ii_5 + 1))), (5, .long x_191), (3, .long x_189), (11, .long x_163), (10, .int r_159), (9, .int r_158), (8, .int 1), (0, .ref (a 0)), (1, .int (nI j_2)), (2, .int (nI j_4))]) hx hb dX8_thought_218 hl (k := 6) rfl (nI_add ii_5 1) (by decide) rfl (fun ls hl => ?_)
                        refine lv_goto (tgt := 32) hx hb dX8_thought_221 (by decide) ?_
                        exact ih_5 _ (ii_5 + 1, x_189, x_191) _ _ _ (by omega) ⟨rfl, (by omega), hP, hS, (lv_sub hl [0, 1, 2, 7, 8, 9] rfl)⟩
                · refine lv_iload hx hb dX8_thought_129 (lv_at hl 1 rfl) ?_
                  refine lv_goto (tgt := 139) hx hb dX8_thought_131 (by decide) ?_
                  refine lv_i2l (v := r_158.toInt64) hx hb dX8_thought_139 rfl ?_
                  refine lv_lmul hx hb dX8_thought_140 ?_
                  refine lv_topl (fun x_192 ex_192 => ?_)
                  refine lv_ldc2 hx hb hown (hts _ tw_1272) dX8_thought_141 ?_
                  refine lv_ldiv hx hb dX8_thought_144 (by decide) ?_
                  refine lv_topl (fun x_193 ex_193 => ?_)
                  refine lv_lstore_n (lv' := [(3, .long x_193), (10, .int r_159), (9, .int r_158), (8, .int 1), (7, .int (nI ii_5)), (5, .long v2_5), (0, .ref (a 0)), (1, .int (nI j_2)), (2, .int (nI j_4))]) hx hb dX8_thought_145 rfl hl (by decide) rfl (fun ls hl => ?_)
                  refine lv_lload hx hb dX8_thought_146 (lv_at hl 5 rfl) ?_
                  refine lv_aload_n hx hb dX8_thought_148 rfl (lv_at hl 6 rfl) ?_
                  refine va_get (D := D) (ci := 8) (v := .ref (a 32)) (C := RX8) (T := TX8) (N := 44) hx hb hts inX8 hown hK hP 0 rfl rfl 31 (by decide) (hts _ tw_1004) (fun _ h9 => h9) rfl dX8_thought_149 ?_
                  refine lv_iload hx hb dX8_thought_152 (lv_at hl 4 rfl) ?_
                  refine va_zald hx hb hK hP 4 2 rfl rfl (vp_in_nI (by omega) (by decide)) dX8_thought_154 ?_
                  refine lv_ti (y := (frow ii_5)) (by rw [nI_clamp (by omega)]) ?_
                  refine lv_if_eq (tgt := 163) hx hb dX8_thought_155 (by decide) (fun c_194 => ?_) (fun c_194 => ?_)
                  · refine lv_bipush (v := 100) hx hb dX8_thought_163 (by decide) ?_
                    refine lv_iload hx hb dX8_thought_165 (lv_at hl 1 rfl) ?_
                    refine lv_isub hx hb dX8_thought_167 ?_
                    refine lv_topi (fun x_195 ex_195 => ?_)
                    refine lv_i2l (v := x_195.toInt64) hx hb dX8_thought_168 rfl ?_
                    refine lv_lmul hx hb dX8_thought_169 ?_
                    refine lv_topl (fun x_196 ex_196 => ?_)
                    refine lv_ldc2 hx hb hown (hts _ tw_1272) dX8_thought_170 ?_
                    refine lv_ldiv hx hb dX8_thought_173 (by decide) ?_
                    refine lv_topl (fun x_197 ex_197 => ?_)
                    refine lv_lstore (lv' := [(5, .long x_197), (3, .long x_193), (10, .int r_159), (9, .int r_158), (8, .int 1), (7, .int (nI ii_5)), (0, .ref (a 0)), (1, .int (nI j_2)), (2, .int (nI j_4))]) hx hb dX8_thought_174 hl (by decide) rfl (fun ls hl => ?_)
                    refine lv_lload_n hx hb dX8_thought_176 rfl (lv_at hl 1 rfl) ?_
                    refine lv_lload hx hb dX8_thought_177 (lv_at hl 0 rfl) ?_
                    refine W.lcmp hx hb dX8_thought_179 ?_
                    refine lv_if_le (tgt := 187) hx hb dX8_thought_180 (by decide) (fun c_198 => ?_) (fun c_198 => ?_)
                    · refine lv_lload hx hb dX8_thought_187 (lv_at hl 0 rfl) ?_
                      refine lv_lstore (lv' := [(11, .long x_197), (5, .long x_197), (3, .long x_193), (10, .int r_159), (9, .int r_158), (8, .int 1), (7, .int (nI ii_5)), (0, .ref (a 0)), (1, .int (nI j_2)), (2, .int (nI j_4))]) hx hb dX8_thought_189 hl (by decide) rfl (fun ls hl => ?_)
                      refine lv_lload hx hb dX8_thought_191 (lv_at hl 0 rfl) ?_
                      refine lv_lconst (v := 0) hx hb dX8_thought_193 (by decide) ?_
                      refine W.lcmp hx hb dX8_thought_194 ?_
                      refine lv_if_le (tgt := 218) hx hb dX8_thought_195 (by decide) (fun c_199 => ?_) (fun c_199 => ?_)
                      · refine lv_iinc (v := (nI (ii_5 + 1))) (lv' := [(7, .int (nI (ii_5 + 1))), (11, .long x_197), (5, .long x_197), (3, .long x_193), (10, .int r_159), (9, .int r_158), (8, .int 1), (0, .ref (a 0)), (1, .int (nI j_2)), (2, .int (nI j_4))]) hx hb dX8_thought_218 hl (k := 6) rfl (nI_add ii_5 1) (by decide) rfl (fun ls hl => ?_)
                        refine lv_goto (tgt := 32) hx hb dX8_thought_221 (by decide) ?_
                        exact ih_5 _ (ii_5 + 1, x_193, x_197) _ _ _ (by omega) ⟨rfl, (by omega), hP, hS, (lv_sub hl [0, 2, 3, 7, 8, 9] rfl)⟩
                      · refine lv_lload_n hx hb dX8_thought_198 rfl (lv_at hl 2 rfl) ?_
                        refine lv_ldc2 hx hb hown (hts _ tw_1363) dX8_thought_199 ?_
                        refine lv_lmul hx hb dX8_thought_202 ?_
                        refine lv_topl (fun x_200 ex_200 => ?_)
                        refine lv_lload hx hb dX8_thought_203 (lv_at hl 0 rfl) ?_
                        refine lv_ldiv hx hb dX8_thought_205 (fun h => c_199 (by rw [h]; decide)) ?_
                        refine lv_topl (fun x_201 ex_201 => ?_)
                        refine lv_lstore_n (lv' := [(3, .long x_201), (11, .long x_197), (5, .long x_197), (10, .int r_159), (9, .int r_158), (8, .int 1), (7, .int (nI ii_5)), (0, .ref (a 0)), (1, .int (nI j_2)), (2, .int (nI j_4))]) hx hb dX8_thought_206 rfl hl (by decide) rfl (fun ls hl => ?_)
                        refine lv_lload hx hb dX8_thought_207 (lv_at hl 2 rfl) ?_
                        refine lv_ldc2 hx hb hown (hts _ tw_1363) dX8_thought_209 ?_
                        refine lv_lmul hx hb dX8_thought_212 ?_
                        refine lv_topl (fun x_202 ex_202 => ?_)
                        refine lv_lload hx hb dX8_thought_213 (lv_at hl 1 rfl) ?_
                        refine lv_ldiv hx hb dX8_thought_215 (fun h => c_199 (by rw [h]; decide)) ?_
                        refine lv_topl (fun x_203 ex_203 => ?_)
                        refine lv_lstore (lv' := [(5, .long x_203), (3, .long x_201), (11, .long x_197), (10, .int r_159), (9, .int r_158), (8, .int 1), (7, .int (nI ii_5)), (0, .ref (a 0)), (1, .int (nI j_2)), (2, .int (nI j_4))]) hx hb dX8_thought_216 hl (by decide) rfl (fun ls hl => ?_)
                        refine lv_iinc (v := (nI (ii_5 + 1))) (lv' := [(7, .int (nI (ii_5 + 1))), (5, .long x_203), (3, .long x_201), (11, .long x_197), (10, .int r_159), (9, .int r_158), (8, .int 1), (0, .ref (a 0)), (1, .int (nI j_2)), (2, .int (nI j_4))]) hx hb dX8_thought_218 hl (k := 6) rfl (nI_add ii_5 1) (by decide) rfl (fun ls hl => ?_)
                        refine lv_goto (tgt := 32) hx hb dX8_thought_221 (by decide) ?_
                        exact ih_5 _ (ii_5 + 1, x_201, x_203) _ _ _ (by omega) ⟨rfl, (by omega), hP, hS, (lv_sub hl [0, 1, 2, 7, 8, 9] rfl)⟩
                    · refine lv_lload_n hx hb dX8_thought_183 rfl (lv_at hl 1 rfl) ?_
                      refine lv_goto (tgt := 189) hx hb dX8_thought_184 (by decide) ?_
                      refine lv_lstore (lv' := [(11, .long x_193), (5, .long x_197), (3, .long x_193), (10, .int r_159), (9, .int r_158), (8, .int 1), (7, .int (nI ii_5)), (0, .ref (a 0)), (1, .int (nI j_2)), (2, .int (nI j_4))]) hx hb dX8_thought_189 hl (by decide) rfl (fun ls hl => ?_)
                      refine lv_lload hx hb dX8_thought_191 (lv_at hl 0 rfl) ?_
                      refine lv_lconst (v := 0) hx hb dX8_thought_193 (by decide) ?_
                      refine W.lcmp hx hb dX8_thought_194 ?_
                      refine lv_if_le (tgt := 218) hx hb dX8_thought_195 (by decide) (fun c_204 => ?_) (fun c_204 => ?_)
                      · refine lv_iinc (v := (nI (ii_5 + 1))) (lv' := [(7, .int (nI (ii_5 + 1))), (11, .long x_193), (5, .long x_197), (3, .long x_193), (10, .int r_159), (9, .int r_158), (8, .int 1), (0, .ref (a 0)), (1, .int (nI j_2)), (2, .int (nI j_4))]) hx hb dX8_thought_218 hl (k := 6) rfl (nI_add ii_5 1) (by decide) rfl (fun ls hl => ?_)
                        refine lv_goto (tgt := 32) hx hb dX8_thought_221 (by decide) ?_
                        exact ih_5 _ (ii_5 + 1, x_193, x_197) _ _ _ (by omega) ⟨rfl, (by omega), hP, hS, (lv_sub hl [0, 2, 3, 7, 8, 9] rfl)⟩
                      · refine lv_lload_n hx hb dX8_thought_198 rfl (lv_at hl 2 rfl) ?_
                        refine lv_ldc2 hx hb hown (hts _ tw_1363) dX8_thought_199 ?_
                        refine lv_lmul hx hb dX8_thought_202 ?_
                        refine lv_topl (fun x_205 ex_205 => ?_)
                        refine lv_lload hx hb dX8_thought_203 (lv_at hl 0 rfl) ?_
                        refine lv_ldiv hx hb dX8_thought_205 (fun h => c_204 (by rw [h]; decide)) ?_
                        refine lv_topl (fun x_206 ex_206 => ?_)
                        refine lv_lstore_n (lv' := [(3, .long x_206), (11, .long x_193), (5, .long x_197), (10, .int r_159), (9, .int r_158), (8, .int 1), (7, .int (nI ii_5)), (0, .ref (a 0)), (1, .int (nI j_2)), (2, .int (nI j_4))]) hx hb dX8_thought_206 rfl hl (by decide) rfl (fun ls hl => ?_)
                        refine lv_lload hx hb dX8_thought_207 (lv_at hl 2 rfl) ?_
                        refine lv_ldc2 hx hb hown (hts _ tw_1363) dX8_thought_209 ?_
                        refine lv_lmul hx hb dX8_thought_212 ?_
                        refine lv_topl (fun x_207 ex_207 => ?_)
                        refine lv_lload hx hb dX8_thought_213 (lv_at hl 1 rfl) ?_
                        refine lv_ldiv hx hb dX8_thought_215 (fun h => c_204 (by rw [h]; decide)) ?_
                        refine lv_topl (fun x_208 ex_208 => ?_)
                        refine lv_lstore (lv' := [(5, .long x_208), (3, .long x_206), (11, .long x_193), (10, .int r_159), (9, .int r_158), (8, .int 1), (7, .int (nI ii_5)), (0, .ref (a 0)), (1, .int (nI j_2)), (2, .int (nI j_4))]) hx hb dX8_thought_216 hl (by decide) rfl (fun ls hl => ?_)
                        refine lv_iinc (v := (nI (ii_5 + 1))) (lv' := [(7, .int (nI (ii_5 + 1))), (5, .long x_208), (3, .long x_206), (11, .long x_193), (10, .int r_159), (9, .int r_158), (8, .int 1), (0, .ref (a 0)), (1, .int (nI j_2)), (2, .int (nI j_4))]) hx hb dX8_thought_218 hl (k := 6) rfl (nI_add ii_5 1) (by decide) rfl (fun ls hl => ?_)
                        refine lv_goto (tgt := 32) hx hb dX8_thought_221 (by decide) ?_
                        exact ih_5 _ (ii_5 + 1, x_206, x_208) _ _ _ (by omega) ⟨rfl, (by omega), hP, hS, (lv_sub hl [0, 1, 2, 7, 8, 9] rfl)⟩
                  · refine lv_iload hx hb dX8_thought_158 (lv_at hl 1 rfl) ?_
                    refine lv_goto (tgt := 168) hx hb dX8_thought_160 (by decide) ?_
                    refine lv_i2l (v := r_159.toInt64) hx hb dX8_thought_168 rfl ?_
                    refine lv_lmul hx hb dX8_thought_169 ?_
                    refine lv_topl (fun x_209 ex_209 => ?_)
                    refine lv_ldc2 hx hb hown (hts _ tw_1272) dX8_thought_170 ?_
                    refine lv_ldiv hx hb dX8_thought_173 (by decide) ?_
                    refine lv_topl (fun x_210 ex_210 => ?_)
                    refine lv_lstore (lv' := [(5, .long x_210), (3, .long x_193), (10, .int r_159), (9, .int r_158), (8, .int 1), (7, .int (nI ii_5)), (0, .ref (a 0)), (1, .int (nI j_2)), (2, .int (nI j_4))]) hx hb dX8_thought_174 hl (by decide) rfl (fun ls hl => ?_)
                    refine lv_lload_n hx hb dX8_thought_176 rfl (lv_at hl 1 rfl) ?_
                    refine lv_lload hx hb dX8_thought_177 (lv_at hl 0 rfl) ?_
                    refine W.lcmp hx hb dX8_thought_179 ?_
                    refine lv_if_le (tgt := 187) hx hb dX8_thought_180 (by decide) (fun c_211 => ?_) (fun c_211 => ?_)
                    · refine lv_lload hx hb dX8_thought_187 (lv_at hl 0 rfl) ?_
                      refine lv_lstore (lv' := [(11, .long x_210), (5, .long x_210), (3, .long x_193), (10, .int r_159), (9, .int r_158), (8, .int 1), (7, .int (nI ii_5)), (0, .ref (a 0)), (1, .int (nI j_2)), (2, .int (nI j_4))]) hx hb dX8_thought_189 hl (by decide) rfl (fun ls hl => ?_)
                      refine lv_lload hx hb dX8_thought_191 (lv_at hl 0 rfl) ?_
                      refine lv_lconst (v := 0) hx hb dX8_thought_193 (by decide) ?_
                      refine W.lcmp hx hb dX8_thought_194 ?_
                      refine lv_if_le (tgt := 218) hx hb dX8_thought_195 (by decide) (fun c_212 => ?_) (fun c_212 => ?_)
                      · refine lv_iinc (v := (nI (ii_5 + 1))) (lv' := [(7, .int (nI (ii_5 + 1))), (11, .long x_210), (5, .long x_210), (3, .long x_193), (10, .int r_159), (9, .int r_158), (8, .int 1), (0, .ref (a 0)), (1, .int (nI j_2)), (2, .int (nI j_4))]) hx hb dX8_thought_218 hl (k := 6) rfl (nI_add ii_5 1) (by decide) rfl (fun ls hl => ?_)
                        refine lv_goto (tgt := 32) hx hb dX8_thought_221 (by decide) ?_
                        exact ih_5 _ (ii_5 + 1, x_193, x_210) _ _ _ (by omega) ⟨rfl, (by omega), hP, hS, (lv_sub hl [0, 2, 3, 7, 8, 9] rfl)⟩
                      · refine lv_lload_n hx hb dX8_thought_198 rfl (lv_at hl 2 rfl) ?_
                        refine lv_ldc2 hx hb hown (hts _ tw_1363) dX8_thought_199 ?_
                        refine lv_lmul hx hb dX8_thought_202 ?_
                        refine lv_topl (fun x_213 ex_213 => ?_)
                        refine lv_lload hx hb dX8_thought_203 (lv_at hl 0 rfl) ?_
                        refine lv_ldiv hx hb dX8_thought_205 (fun h => c_212 (by rw [h]; decide)) ?_
                        refine lv_topl (fun x_214 ex_214 => ?_)
                        refine lv_lstore_n (lv' := [(3, .long x_214), (11, .long x_210), (5, .long x_210), (10, .int r_159), (9, .int r_158), (8, .int 1), (7, .int (nI ii_5)), (0, .ref (a 0)), (1, .int (nI j_2)), (2, .int (nI j_4))]) hx hb dX8_thought_206 rfl hl (by decide) rfl (fun ls hl => ?_)
                        refine lv_lload hx hb dX8_thought_207 (lv_at hl 2 rfl) ?_
                        refine lv_ldc2 hx hb hown (hts _ tw_1363) dX8_thought_209 ?_
                        refine lv_lmul hx hb dX8_thought_212 ?_
                        refine lv_topl (fun x_215 ex_215 => ?_)
                        refine lv_lload hx hb dX8_thought_213 (lv_at hl 1 rfl) ?_
                        refine lv_ldiv hx hb dX8_thought_215 (fun h => c_212 (by rw [h]; decide)) ?_
                        refine lv_topl (fun x_216 ex_216 => ?_)
                        refine lv_lstore (lv' := [(5, .long x_216), (3, .long x_214), (11, .long x_210), (10, .int r_159), (9, .int r_158), (8, .int 1), (7, .int (nI ii_5)), (0, .ref (a 0)), (1, .int (nI j_2)), (2, .int (nI j_4))]) hx hb dX8_thought_216 hl (by decide) rfl (fun ls hl => ?_)
                        refine lv_iinc (v := (nI (ii_5 + 1))) (lv' := [(7, .int (nI (ii_5 + 1))), (5, .long x_216), (3, .long x_214), (11, .long x_210), (10, .int r_159), (9, .int r_158), (8, .int 1), (0, .ref (a 0)), (1, .int (nI j_2)), (2, .int (nI j_4))]) hx hb dX8_thought_218 hl (k := 6) rfl (nI_add ii_5 1) (by decide) rfl (fun ls hl => ?_)
                        refine lv_goto (tgt := 32) hx hb dX8_thought_221 (by decide) ?_
                        exact ih_5 _ (ii_5 + 1, x_214, x_216) _ _ _ (by omega) ⟨rfl, (by omega), hP, hS, (lv_sub hl [0, 1, 2, 7, 8, 9] rfl)⟩
                    · refine lv_lload_n hx hb dX8_thought_183 rfl (lv_at hl 1 rfl) ?_
                      refine lv_goto (tgt := 189) hx hb dX8_thought_184 (by decide) ?_
                      refine lv_lstore (lv' := [(11, .long x_193), (5, .long x_210), (3, .long x_193), (10, .int r_159), (9, .int r_158), (8, .int 1), (7, .int (nI ii_5)), (0, .ref (a 0)), (1, .int (nI j_2)), (2, .int (nI j_4))]) hx hb dX8_thought_189 hl (by decide) rfl (fun ls hl => ?_)
                      refine lv_lload hx hb dX8_thought_191 (lv_at hl 0 rfl) ?_
                      refine lv_lconst (v := 0) hx hb dX8_thought_193 (by decide) ?_
                      refine W.lcmp hx hb dX8_thought_194 ?_
                      refine lv_if_le (tgt := 218) hx hb dX8_thought_195 (by decide) (fun c_217 => ?_) (fun c_217 => ?_)
                      · refine lv_iinc (v := (nI (ii_5 + 1))) (lv' := [(7, .int (nI (ii_5 + 1))), (11, .long x_193), (5, .long x_210), (3, .long x_193), (10, .int r_159), (9, .int r_158), (8, .int 1), (0, .ref (a 0)), (1, .int (nI j_2)), (2, .int (nI j_4))]) hx hb dX8_thought_218 hl (k := 6) rfl (nI_add ii_5 1) (by decide) rfl (fun ls hl => ?_)
                        refine lv_goto (tgt := 32) hx hb dX8_thought_221 (by decide) ?_
                        exact ih_5 _ (ii_5 + 1, x_193, x_210) _ _ _ (by omega) ⟨rfl, (by omega), hP, hS, (lv_sub hl [0, 2, 3, 7, 8, 9] rfl)⟩
                      · refine lv_lload_n hx hb dX8_thought_198 rfl (lv_at hl 2 rfl) ?_
                        refine lv_ldc2 hx hb hown (hts _ tw_1363) dX8_thought_199 ?_
                        refine lv_lmul hx hb dX8_thought_202 ?_
                        refine lv_topl (fun x_218 ex_218 => ?_)
                        refine lv_lload hx hb dX8_thought_203 (lv_at hl 0 rfl) ?_
                        refine lv_ldiv hx hb dX8_thought_205 (fun h => c_217 (by rw [h]; decide)) ?_
                        refine lv_topl (fun x_219 ex_219 => ?_)
                        refine lv_lstore_n (lv' := [(3, .long x_219), (11, .long x_193), (5, .long x_210), (10, .int r_159), (9, .int r_158), (8, .int 1), (7, .int (nI ii_5)), (0, .ref (a 0)), (1, .int (nI j_2)), (2, .int (nI j_4))]) hx hb dX8_thought_206 rfl hl (by decide) rfl (fun ls hl => ?_)
                        refine lv_lload hx hb dX8_thought_207 (lv_at hl 2 rfl) ?_
                        refine lv_ldc2 hx hb hown (hts _ tw_1363) dX8_thought_209 ?_
                        refine lv_lmul hx hb dX8_thought_212 ?_
                        refine lv_topl (fun x_220 ex_220 => ?_)
                        refine lv_lload hx hb dX8_thought_213 (lv_at hl 1 rfl) ?_
                        refine lv_ldiv hx hb dX8_thought_215 (fun h => c_217 (by rw [h]; decide)) ?_
                        refine lv_topl (fun x_221 ex_221 => ?_)
                        refine lv_lstore (lv' := [(5, .long x_221), (3, .long x_219), (11, .long x_193), (10, .int r_159), (9, .int r_158), (8, .int 1), (7, .int (nI ii_5)), (0, .ref (a 0)), (1, .int (nI j_2)), (2, .int (nI j_4))]) hx hb dX8_thought_216 hl (by decide) rfl (fun ls hl => ?_)
                        refine lv_iinc (v := (nI (ii_5 + 1))) (lv' := [(7, .int (nI (ii_5 + 1))), (5, .long x_221), (3, .long x_219), (11, .long x_193), (10, .int r_159), (9, .int r_158), (8, .int 1), (0, .ref (a 0)), (1, .int (nI j_2)), (2, .int (nI j_4))]) hx hb dX8_thought_218 hl (k := 6) rfl (nI_add ii_5 1) (by decide) rfl (fun ls hl => ?_)
                        refine lv_goto (tgt := 32) hx hb dX8_thought_221 (by decide) ?_
                        exact ih_5 _ (ii_5 + 1, x_219, x_221) _ _ _ (by omega) ⟨rfl, (by omega), hP, hS, (lv_sub hl [0, 1, 2, 7, 8, 9] rfl)⟩
    · refine lv_if_ne (tgt := 20) hx hb dX8_thought_13 (by decide) (fun h => absurd (by decide) h) (fun _ => ?_)
      refine lv_sipush (v := (-1001)) hx hb dX8_thought_16 (by decide) ?_
      exact W.iret (v := (-1001)) hx hb hr (fun t ht hW => ⟨⟨(-1001), (), rfl, trivial, trivial⟩, hS.F ht⟩) hS.2.2 dX8_thought_19
  · refine lv_if_eq (tgt := 16) hx hb dX8_thought_5 (by decide) (fun _ => ?_) (fun h => absurd (by decide) h)
    refine lv_sipush (v := (-1001)) hx hb dX8_thought_16 (by decide) ?_
    exact W.iret (v := (-1001)) hx hb hr (fun t ht hW => ⟨⟨(-1001), (), rfl, trivial, trivial⟩, hS.F ht⟩) hS.2.2 dX8_thought_19


theorem dX8_waits_0 : decode cX8_waits 0 = .ok (.aload_n 0, 1) := by decide +kernel
theorem dX8_waits_1 : decode cX8_waits 1 = .ok (.iload_n 1, 1) := by decide +kernel
theorem dX8_waits_2 : decode cX8_waits 2 = .ok (.invokevirtual 206, 3) := by decide +kernel
theorem dX8_waits_5 : decode cX8_waits 5 = .ok (.ifCond .eq 12, 3) := by decide +kernel
theorem dX8_waits_8 : decode cX8_waits 8 = .ok (.aload_n 0, 1) := by decide +kernel
theorem dX8_waits_9 : decode cX8_waits 9 = .ok (.iload_n 1, 1) := by decide +kernel
theorem dX8_waits_10 : decode cX8_waits 10 = .ok (.iload_n 3, 1) := by decide +kernel
theorem dX8_waits_11 : decode cX8_waits 11 = .ok (.invokevirtual 215, 3) := by decide +kernel
theorem dX8_waits_14 : decode cX8_waits 14 = .ok (.ifCond .ne 7, 3) := by decide +kernel
theorem dX8_waits_17 : decode cX8_waits 17 = .ok (.sipush (-1001), 3) := by decide +kernel
theorem dX8_waits_20 : decode cX8_waits 20 = .ok (.ireturn, 1) := by decide +kernel
theorem dX8_waits_21 : decode cX8_waits 21 = .ok (.aload_n 0, 1) := by decide +kernel
theorem dX8_waits_22 : decode cX8_waits 22 = .ok (.iload_n 1, 1) := by decide +kernel
theorem dX8_waits_23 : decode cX8_waits 23 = .ok (.iload_n 2, 1) := by decide +kernel
theorem dX8_waits_24 : decode cX8_waits 24 = .ok (.invokevirtual 234, 3) := by decide +kernel
theorem dX8_waits_27 : decode cX8_waits 27 = .ok (.ifCond .eq 51, 3) := by decide +kernel
theorem dX8_waits_30 : decode cX8_waits 30 = .ok (.aload_n 0, 1) := by decide +kernel
theorem dX8_waits_31 : decode cX8_waits 31 = .ok (.iload_n 1, 1) := by decide +kernel
theorem dX8_waits_32 : decode cX8_waits 32 = .ok (.iload_n 3, 1) := by decide +kernel
theorem dX8_waits_33 : decode cX8_waits 33 = .ok (.iload 4, 2) := by decide +kernel
theorem dX8_waits_35 : decode cX8_waits 35 = .ok (.invokevirtual 264, 3) := by decide +kernel
theorem dX8_waits_38 : decode cX8_waits 38 = .ok (.ifCond .eq 40, 3) := by decide +kernel
theorem dX8_waits_41 : decode cX8_waits 41 = .ok (.iload 5, 2) := by decide +kernel
theorem dX8_waits_43 : decode cX8_waits 43 = .ok (.i2l, 1) := by decide +kernel
theorem dX8_waits_44 : decode cX8_waits 44 = .ok (.lconst 0, 1) := by decide +kernel
theorem dX8_waits_45 : decode cX8_waits 45 = .ok (.ldc2_w 240, 3) := by decide +kernel
theorem dX8_waits_48 : decode cX8_waits 48 = .ok (.invokestatic 107, 3) := by decide +kernel
theorem dX8_waits_51 : decode cX8_waits 51 = .ok (.ifCond .eq 27, 3) := by decide +kernel
theorem dX8_waits_54 : decode cX8_waits 54 = .ok (.iload 6, 2) := by decide +kernel
theorem dX8_waits_56 : decode cX8_waits 56 = .ok (.i2l, 1) := by decide +kernel
theorem dX8_waits_57 : decode cX8_waits 57 = .ok (.lconst 0, 1) := by decide +kernel
theorem dX8_waits_58 : decode cX8_waits 58 = .ok (.ldc2_w 311, 3) := by decide +kernel
theorem dX8_waits_61 : decode cX8_waits 61 = .ok (.invokestatic 107, 3) := by decide +kernel
theorem dX8_waits_64 : decode cX8_waits 64 = .ok (.ifCond .eq 14, 3) := by decide +kernel
theorem dX8_waits_67 : decode cX8_waits 67 = .ok (.iload 7, 2) := by decide +kernel
theorem dX8_waits_69 : decode cX8_waits 69 = .ok (.i2l, 1) := by decide +kernel
theorem dX8_waits_70 : decode cX8_waits 70 = .ok (.lconst 0, 1) := by decide +kernel
theorem dX8_waits_71 : decode cX8_waits 71 = .ok (.lconst 1, 1) := by decide +kernel
theorem dX8_waits_72 : decode cX8_waits 72 = .ok (.invokestatic 107, 3) := by decide +kernel
theorem dX8_waits_75 : decode cX8_waits 75 = .ok (.ifCond .ne 7, 3) := by decide +kernel
theorem dX8_waits_78 : decode cX8_waits 78 = .ok (.sipush (-1002), 3) := by decide +kernel
theorem dX8_waits_81 : decode cX8_waits 81 = .ok (.ireturn, 1) := by decide +kernel
theorem dX8_waits_82 : decode cX8_waits 82 = .ok (.iload 4, 2) := by decide +kernel
theorem dX8_waits_84 : decode cX8_waits 84 = .ok (.iconst 1, 1) := by decide +kernel
theorem dX8_waits_85 : decode cX8_waits 85 = .ok (.iand, 1) := by decide +kernel
theorem dX8_waits_86 : decode cX8_waits 86 = .ok (.iconst 1, 1) := by decide +kernel
theorem dX8_waits_87 : decode cX8_waits 87 = .ok (.if_icmp .ne 7, 3) := by decide +kernel
theorem dX8_waits_90 : decode cX8_waits 90 = .ok (.sipush (-1003), 3) := by decide +kernel
theorem dX8_waits_93 : decode cX8_waits 93 = .ok (.ireturn, 1) := by decide +kernel
theorem dX8_waits_94 : decode cX8_waits 94 = .ok (.aload_n 0, 1) := by decide +kernel
theorem dX8_waits_95 : decode cX8_waits 95 = .ok (.iload_n 1, 1) := by decide +kernel
theorem dX8_waits_96 : decode cX8_waits 96 = .ok (.invokevirtual 268, 3) := by decide +kernel
theorem dX8_waits_99 : decode cX8_waits 99 = .ok (.aload_n 0, 1) := by decide +kernel
theorem dX8_waits_100 : decode cX8_waits 100 = .ok (.getfield 38, 3) := by decide +kernel
theorem dX8_waits_103 : decode cX8_waits 103 = .ok (.iload_n 2, 1) := by decide +kernel
theorem dX8_waits_104 : decode cX8_waits 104 = .ok (.iload_n 3, 1) := by decide +kernel
theorem dX8_waits_105 : decode cX8_waits 105 = .ok (.iload 4, 2) := by decide +kernel
theorem dX8_waits_107 : decode cX8_waits 107 = .ok (.invokestatic 242, 3) := by decide +kernel
theorem dX8_waits_110 : decode cX8_waits 110 = .ok (.iaload, 1) := by decide +kernel
theorem dX8_waits_111 : decode cX8_waits 111 = .ok (.istore 8, 2) := by decide +kernel
theorem dX8_waits_113 : decode cX8_waits 113 = .ok (.iload 8, 2) := by decide +kernel
theorem dX8_waits_115 : decode cX8_waits 115 = .ok (.istore 9, 2) := by decide +kernel
theorem dX8_waits_117 : decode cX8_waits 117 = .ok (.iconst 0, 1) := by decide +kernel
theorem dX8_waits_118 : decode cX8_waits 118 = .ok (.istore 10, 2) := by decide +kernel
theorem dX8_waits_120 : decode cX8_waits 120 = .ok (.iconst 1, 1) := by decide +kernel
theorem dX8_waits_121 : decode cX8_waits 121 = .ok (.istore 11, 2) := by decide +kernel
theorem dX8_waits_123 : decode cX8_waits 123 = .ok (.iload 11, 2) := by decide +kernel
theorem dX8_waits_125 : decode cX8_waits 125 = .ok (.bipush 20, 2) := by decide +kernel
theorem dX8_waits_127 : decode cX8_waits 127 = .ok (.if_icmp .gt 64, 3) := by decide +kernel
theorem dX8_waits_130 : decode cX8_waits 130 = .ok (.sipush 1000, 3) := by decide +kernel
theorem dX8_waits_133 : decode cX8_waits 133 = .ok (.iload 6, 2) := by decide +kernel
theorem dX8_waits_135 : decode cX8_waits 135 = .ok (.imul, 1) := by decide +kernel
theorem dX8_waits_136 : decode cX8_waits 136 = .ok (.iload 5, 2) := by decide +kernel
theorem dX8_waits_138 : decode cX8_waits 138 = .ok (.aload_n 0, 1) := by decide +kernel
theorem dX8_waits_139 : decode cX8_waits 139 = .ok (.iload_n 1, 1) := by decide +kernel
theorem dX8_waits_140 : decode cX8_waits 140 = .ok (.iload_n 2, 1) := by decide +kernel
theorem dX8_waits_141 : decode cX8_waits 141 = .ok (.iload_n 3, 1) := by decide +kernel
theorem dX8_waits_142 : decode cX8_waits 142 = .ok (.invokevirtual 237, 3) := by decide +kernel
theorem dX8_waits_145 : decode cX8_waits 145 = .ok (.iload 8, 2) := by decide +kernel
theorem dX8_waits_147 : decode cX8_waits 147 = .ok (.invokestatic 245, 3) := by decide +kernel
theorem dX8_waits_150 : decode cX8_waits 150 = .ok (.iadd, 1) := by decide +kernel
theorem dX8_waits_151 : decode cX8_waits 151 = .ok (.istore 8, 2) := by decide +kernel
theorem dX8_waits_153 : decode cX8_waits 153 = .ok (.iload 8, 2) := by decide +kernel
theorem dX8_waits_155 : decode cX8_waits 155 = .ok (.iload 9, 2) := by decide +kernel
theorem dX8_waits_157 : decode cX8_waits 157 = .ok (.if_icmp .ge 8, 3) := by decide +kernel
theorem dX8_waits_160 : decode cX8_waits 160 = .ok (.iload 11, 2) := by decide +kernel
theorem dX8_waits_162 : decode cX8_waits 162 = .ok (.goto 5, 3) := by decide +kernel
theorem dX8_waits_165 : decode cX8_waits 165 = .ok (.iload 10, 2) := by decide +kernel
theorem dX8_waits_167 : decode cX8_waits 167 = .ok (.istore 10, 2) := by decide +kernel
theorem dX8_waits_169 : decode cX8_waits 169 = .ok (.iload 8, 2) := by decide +kernel
theorem dX8_waits_171 : decode cX8_waits 171 = .ok (.iload 9, 2) := by decide +kernel
theorem dX8_waits_173 : decode cX8_waits 173 = .ok (.if_icmp .ge 8, 3) := by decide +kernel
theorem dX8_waits_176 : decode cX8_waits 176 = .ok (.iload 8, 2) := by decide +kernel
theorem dX8_waits_178 : decode cX8_waits 178 = .ok (.goto 5, 3) := by decide +kernel
theorem dX8_waits_181 : decode cX8_waits 181 = .ok (.iload 9, 2) := by decide +kernel
theorem dX8_waits_183 : decode cX8_waits 183 = .ok (.istore 9, 2) := by decide +kernel
theorem dX8_waits_185 : decode cX8_waits 185 = .ok (.iinc 11 1, 3) := by decide +kernel
theorem dX8_waits_188 : decode cX8_waits 188 = .ok (.goto (-65), 3) := by decide +kernel
theorem dX8_waits_191 : decode cX8_waits 191 = .ok (.iload 7, 2) := by decide +kernel
theorem dX8_waits_193 : decode cX8_waits 193 = .ok (.ifCond .ne 8, 3) := by decide +kernel
theorem dX8_waits_196 : decode cX8_waits 196 = .ok (.iload 10, 2) := by decide +kernel
theorem dX8_waits_198 : decode cX8_waits 198 = .ok (.goto 5, 3) := by decide +kernel
theorem dX8_waits_201 : decode cX8_waits 201 = .ok (.iload 9, 2) := by decide +kernel
theorem dX8_waits_203 : decode cX8_waits 203 = .ok (.ireturn, 1) := by decide +kernel
set_option maxHeartbeats 4000000 in
set_option maxRecDepth 100000 in
theorem m_waits (l : Launch) (D : va_G) (k : Nat → ClassId) (st : Nat → Nat) (lo : Nat) (a : Nat → Nat) (tx : Nat) (t0 : Nat) (we : Nat) (rd : Nat) (ru : Nat) (rw : Nat) (ca : Nat) (fp : Int32) (wd : Int64) (nu : Int32) (na : Int32) (ts : Int32) (df : Int32) (db : Int32) (sd : Int32) (dn : Nat → Nat) (se : Nat → Nat) (tm : Nat → Nat) (gs : Nat → Int32) (ffrees : Nat → Int32) (fprices : Nat → Int32) (fons : Nat → Int32) (fworths : Nat → Int32) (fstarts : Nat → Int32) (fends : Nat → Int32) (fgoesRound : Nat → Int32) (fbegin : Nat → Int32) (p0 : Int32) (p1 : Int32) (p2 : Int32) (p3 : Int32) (p4 : Int32) (p5 : Int32) (p6 : Int32) (hdn : ∀ j, dn j ≤ 24) (hse : ∀ j, se j ≤ 2) (htm : ∀ j, tm j ≤ 3) : CWi l D k st lo yX8_waits cX8_waits 12 (some .int) ({ frames := 6, cells := 0, slots := 0, locals := 144 }) 0 0 [.ref (a 0), .int p0, .int p1, .int p2, .int p3, .int p4, .int p5, .int p6] [((a 0), .inr (8, (fX8 a (nI tx) fp (nI t0) wd (nI we) nu na (nI rd) ts (nI ru) (nI rw) (nI ca) df db sd))), (aI k (a 1) 3 (nF dn)), (aI k (a 4) 27 (sg se tm gs)), (aI k (a 2) 72 ffrees), (aI k (a 3) 72 fprices), (aI k (a 18) 768 fons), (aI k (a 19) 768 fworths), (aI k (a 20) 5 fstarts), (aI k (a 21) 4 fends), (aZ k (a 22) 4 fgoesRound), (aI k (a 23) 8 fbegin)] (fun (r : Int32) (u : (Nat → Int32) × (Nat → Int32) × (Nat → Int32) × (Nat → Int32) × (Nat → Int32) × (Nat → Int32)) => match u with | (fons_, fworths_, fstarts_, fends_, fgoesRound_, fbegin_) => True) (fun (u : (Nat → Int32) × (Nat → Int32) × (Nat → Int32) × (Nat → Int32) × (Nat → Int32) × (Nat → Int32)) => match u with | (fons_, fworths_, fstarts_, fends_, fgoesRound_, fbegin_) => [((a 0), .inr (8, (fX8 a (nI tx) fp (nI t0) wd (nI we) nu na (nI rd) ts (nI ru) (nI rw) (nI ca) df db sd))), (aI k (a 1) 3 (nF dn)), (aI k (a 4) 27 (sg se tm gs)), (aI k (a 2) 72 ffrees), (aI k (a 3) 72 fprices), (aI k (a 18) 768 fons_), (aI k (a 19) 768 fworths_), (aI k (a 20) 5 fstarts_), (aI k (a 21) 4 fends_), (aZ k (a 22) 4 fgoesRound_), (aI k (a 23) 8 fbegin_)]) := by
  intro sz
  refine Met.ofW (cc := cX8_waits) (maxL := 12) (ret := (some .int)) (by decide) rfl ?_
  intro p e s m args below meth c s₁ B hml hv
  obtain ⟨rfl, hsz, hlo, hP, hK, hDL, hZ⟩ := hv
  have hx := B.exec
  have hb := B.bytes
  have hr := B.returns
  have hts := WS_ts B.pre
  have hown : s.vm.findClass RX8 = some m.cls := findClass_of_methodNamed B.named
  have hlocks := B.notSynchronized
  subst hsz
  have hD := hDL.self (sz := s.heap.size)
  have hAlo := A_lo hDL hlo
  generalize hAe : va_A [((a 0), .inr (8, (fX8 a (nI tx) fp (nI t0) wd (nI we) nu na (nI rd) ts (nI ru) (nI rw) (nI ca) df db sd))), (aI k (a 1) 3 (nF dn)), (aI k (a 4) 27 (sg se tm gs)), (aI k (a 2) 72 ffrees), (aI k (a 3) 72 fprices), (aI k (a 18) 768 fons), (aI k (a 19) 768 fworths), (aI k (a 20) 5 fstarts), (aI k (a 21) 4 fends), (aZ k (a 22) 4 fgoesRound), (aI k (a 23) 8 fbegin)] s.heap.size = A at hD hAlo ⊢
  have hA : ∀ q : Nat, s.heap.size ≤ q → A q := fun q h => by rw [← hAe]; exact Or.inr h
  have hS : va_S A s.heap s.heap [] := va_S.rf
  have hl := lv_entry ([.ref (a 0), .int p0, .int p1, .int p2, .int p3, .int p4, .int p5, .int p6]) (n := 12) (Nat.le_of_ble_eq_true rfl)
  rw [lg_entry_eq]
  generalize (lg_sl ([.ref (a 0), .int p0, .int p1, .int p2, .int p3, .int p4, .int p5, .int p6]) ++ List.replicate (12 - (lg_sl ([.ref (a 0), .int p0, .int p1, .int p2, .int p3, .int p4, .int p5, .int p6])).length) Slot.unset).toArray = ls at hl ⊢
  have hl : lv_has ls 12 [(0, .ref (a 0)), (1, .int p0), (2, .int p1), (3, .int p2), (4, .int p3), (5, .int p4), (6, .int p5), (7, .int p6)] := hl
  refine lv_aload_n hx hb dX8_waits_0 rfl (lv_at hl 0 rfl) ?_
  refine lv_iload_n hx hb dX8_waits_1 rfl (lv_at hl 1 rfl) ?_
  refine ro_i (D := D) (va_runV (As := [.int p0]) (rest := []) ⟨hx, hb, hml, hown, hts⟩ ((m_isStreet l D k st lo a tx t0 we rd ru rw ca fp wd nu na ts df db sd dn p0 hdn) s.heap.size) (cwV 1 hts (gV tw_1189 tw_1191 tw_38 tw_87 tw_1192) rfl rfl rfl (by decide +kernel) ⟨Nat.le_of_ble_eq_true rfl, Nat.le_of_ble_eq_true rfl⟩) (pV hS hAlo hlo hP hK (va_Dlo hD hAlo) hZ [0, 1] (by decide) rfl (ci := 8) (q := (RX8, TX8, 44)) (q0 := 0) rfl rfl) rfl rfl hl.1 rfl (lv_room (Nat.le_of_ble_eq_true rfl)) dX8_waits_2 ⟨Nat.le_of_ble_eq_true rfl, Nat.le_of_ble_eq_true rfl⟩) hS hA hP (fun r_1 H locs hw_1 hP hS => ?_)
  try dsimp only at hw_1
  rcases hw_1 with ⟨rfl, j_2, hj_2, rfl, hw_1⟩ | rfl
  · have hdj_2 := hdn j_2
    have htj_2 := htm j_2
    refine lv_if_eq (tgt := 17) hx hb dX8_waits_5 (by decide) (fun h => absurd h (by decide)) (fun _ => ?_)
    refine lv_aload_n hx hb dX8_waits_8 rfl (lv_at hl 0 rfl) ?_
    refine lv_iload_n hx hb dX8_waits_9 rfl (lv_at hl 1 rfl) ?_
    refine lv_iload_n hx hb dX8_waits_10 rfl (lv_at hl 3 rfl) ?_
    refine ro_i (D := D) (va_runV (As := [.int (nI j_2), .int p2]) (rest := []) ⟨hx, hb, hml, hown, hts⟩ ((m_isDoor l D k st lo a tx t0 we rd ru rw ca fp wd nu na ts df db sd dn j_2 p2 hdn (by omega)) H.size) (cwV 2 hts (gV tw_1202 tw_1204 tw_40 tw_87 tw_1205) rfl rfl rfl (by decide +kernel) ⟨Nat.le_of_ble_eq_true rfl, Nat.le_of_ble_eq_true rfl⟩) (pV hS hAlo hlo hP hK (va_Dlo hD hAlo) hZ [0, 1] (by decide) rfl (ci := 8) (q := (RX8, TX8, 44)) (q0 := 0) rfl rfl) rfl rfl hl.1 rfl (lv_room (Nat.le_of_ble_eq_true rfl)) dX8_waits_11 ⟨Nat.le_of_ble_eq_true rfl, Nat.le_of_ble_eq_true rfl⟩) hS hA hP (fun r_3 H locs hw_3 hP hS => ?_)
    try dsimp only at hw_3
    rcases hw_3 with ⟨rfl, j_4, hj_4, rfl, hw_3⟩ | rfl
    · refine lv_if_ne (tgt := 21) hx hb dX8_waits_14 (by decide) (fun _ => ?_) (fun h => absurd h (by decide))
      refine lv_aload_n hx hb dX8_waits_21 rfl (lv_at hl 0 rfl) ?_
      refine lv_iload_n hx hb dX8_waits_22 rfl (lv_at hl 1 rfl) ?_
      refine lv_iload_n hx hb dX8_waits_23 rfl (lv_at hl 2 rfl) ?_
      refine ro_i (D := D) (va_runV (As := [.int (nI j_2), .int p1]) (rest := []) ⟨hx, hb, hml, hown, hts⟩ ((m_isRound l D k st lo a tx t0 we rd ru rw ca fp wd nu na ts df db sd se tm gs j_2 p1 htm (by omega)) H.size) (cwV 2 hts (gV tw_1218 tw_1220 tw_42 tw_87 tw_1221) rfl rfl rfl (by decide +kernel) ⟨Nat.le_of_ble_eq_true rfl, Nat.le_of_ble_eq_true rfl⟩) (pV hS hAlo hlo hP hK (va_Dlo hD hAlo) hZ [0, 2] (by decide) rfl (ci := 8) (q := (RX8, TX8, 44)) (q0 := 0) rfl rfl) rfl rfl hl.1 rfl (lv_room (Nat.le_of_ble_eq_true rfl)) dX8_waits_24 ⟨Nat.le_of_ble_eq_true rfl, Nat.le_of_ble_eq_true rfl⟩) hS hA hP (fun r_5 H locs hw_5 hP hS => ?_)
      try dsimp only at hw_5
      rcases hw_5 with ⟨rfl, j_6, hj_6, rfl, hw_5⟩ | rfl
      · refine lv_if_eq (tgt := 78) hx hb dX8_waits_27 (by decide) (fun h => absurd h (by decide)) (fun _ => ?_)
        refine lv_aload_n hx hb dX8_waits_30 rfl (lv_at hl 0 rfl) ?_
        refine lv_iload_n hx hb dX8_waits_31 rfl (lv_at hl 1 rfl) ?_
        refine lv_iload_n hx hb dX8_waits_32 rfl (lv_at hl 3 rfl) ?_
        refine lv_iload hx hb dX8_waits_33 (lv_at hl 4 rfl) ?_
        refine ro_i (D := D) (va_runV (As := [.int (nI j_2), .int (nI j_4), .int p3]) (rest := []) ⟨hx, hb, hml, hown, hts⟩ ((m_isSight l D k st lo a tx t0 we rd ru rw ca fp wd nu na ts df db sd dn se tm gs j_2 j_4 p3 hdn hse (by omega) (by omega)) H.size) (cwV 3 hts (gV tw_1242 tw_1244 tw_47 tw_87 tw_1245) rfl rfl rfl (by decide +kernel) ⟨Nat.le_of_ble_eq_true rfl, Nat.le_of_ble_eq_true rfl⟩) (pV hS hAlo hlo hP hK (va_Dlo hD hAlo) hZ [0, 1, 2] (by decide) rfl (ci := 8) (q := (RX8, TX8, 44)) (q0 := 0) rfl rfl) rfl rfl hl.1 rfl (lv_room (Nat.le_of_ble_eq_true rfl)) dX8_waits_35 ⟨Nat.le_of_ble_eq_true rfl, Nat.le_of_ble_eq_true rfl⟩) hS hA hP (fun r_7 H locs hw_7 hP hS => ?_)
        try dsimp only at hw_7
        rcases hw_7 with ⟨rfl, j_8, hj_8, rfl, hw_7⟩ | rfl
        · refine lv_if_eq (tgt := 78) hx hb dX8_waits_38 (by decide) (fun h => absurd h (by decide)) (fun _ => ?_)
          refine lv_iload hx hb dX8_waits_41 (lv_at hl 5 rfl) ?_
          refine lv_i2l (v := p4.toInt64) hx hb dX8_waits_43 rfl ?_
          refine lv_lconst (v := (0 : Int32).toInt64) hx hb dX8_waits_44 (by decide) ?_
          refine lv_ldc2 hx hb hown (hts _ tw_1272) dX8_waits_45 ?_
          refine lv_tl (y := ((100 : Int32).toInt64)) (by decide) ?_
          refine ro_i (D := D) (va_runS (As := [.long (p4.toInt64), .long ((0 : Int32).toInt64), .long ((100 : Int32).toInt64)]) (rest := []) ⟨hx, hb, hml, hown, hts⟩ ((k_in l D k st lo p4 (0 : Int32) (100 : Int32)) H.size) (va_cwS 3 hts (gS tw_1111 tw_1112 tw_87 tw_1113) rfl rfl rfl (by decide +kernel) ⟨Nat.le_of_ble_eq_true rfl, Nat.le_of_ble_eq_true rfl⟩) (pS hS hAlo hlo hP hK (va_Dlo hD hAlo) hZ [] (by decide) rfl) rfl rfl hl.1 rfl (lv_room (Nat.le_of_ble_eq_true rfl)) dX8_waits_48 ⟨Nat.le_of_ble_eq_true rfl, Nat.le_of_ble_eq_true rfl⟩) hS hA hP (fun r_9 H locs hw_9 hP hS => ?_)
          try dsimp only at hw_9
          rcases hw_9 with ⟨rfl, hw_9⟩ | ⟨rfl, hw_9⟩
          · refine lv_if_eq (tgt := 78) hx hb dX8_waits_51 (by decide) (fun h => absurd h (by decide)) (fun _ => ?_)
            refine lv_iload hx hb dX8_waits_54 (lv_at hl 6 rfl) ?_
            refine lv_i2l (v := p5.toInt64) hx hb dX8_waits_56 rfl ?_
            refine lv_lconst (v := (0 : Int32).toInt64) hx hb dX8_waits_57 (by decide) ?_
            refine lv_ldc2 hx hb hown (hts _ tw_1368) dX8_waits_58 ?_
            refine lv_tl (y := ((99 : Int32).toInt64)) (by decide) ?_
            refine ro_i (D := D) (va_runS (As := [.long (p5.toInt64), .long ((0 : Int32).toInt64), .long ((99 : Int32).toInt64)]) (rest := []) ⟨hx, hb, hml, hown, hts⟩ ((k_in l D k st lo p5 (0 : Int32) (99 : Int32)) H.size) (va_cwS 3 hts (gS tw_1111 tw_1112 tw_87 tw_1113) rfl rfl rfl (by decide +kernel) ⟨Nat.le_of_ble_eq_true rfl, Nat.le_of_ble_eq_true rfl⟩) (pS hS hAlo hlo hP hK (va_Dlo hD hAlo) hZ [] (by decide) rfl) rfl rfl hl.1 rfl (lv_room (Nat.le_of_ble_eq_true rfl)) dX8_waits_61 ⟨Nat.le_of_ble_eq_true rfl, Nat.le_of_ble_eq_true rfl⟩) hS hA hP (fun r_10 H locs hw_10 hP hS => ?_)
            try dsimp only at hw_10
            rcases hw_10 with ⟨rfl, hw_10⟩ | ⟨rfl, hw_10⟩
            · refine lv_if_eq (tgt := 78) hx hb dX8_waits_64 (by decide) (fun h => absurd h (by decide)) (fun _ => ?_)
              refine lv_iload hx hb dX8_waits_67 (lv_at hl 7 rfl) ?_
              refine lv_i2l (v := p6.toInt64) hx hb dX8_waits_69 rfl ?_
              refine lv_lconst (v := (0 : Int32).toInt64) hx hb dX8_waits_70 (by decide) ?_
              refine lv_lconst (v := (1 : Int32).toInt64) hx hb dX8_waits_71 (by decide) ?_
              refine ro_i (D := D) (va_runS (As := [.long (p6.toInt64), .long ((0 : Int32).toInt64), .long ((1 : Int32).toInt64)]) (rest := []) ⟨hx, hb, hml, hown, hts⟩ ((k_in l D k st lo p6 (0 : Int32) (1 : Int32)) H.size) (va_cwS 3 hts (gS tw_1111 tw_1112 tw_87 tw_1113) rfl rfl rfl (by decide +kernel) ⟨Nat.le_of_ble_eq_true rfl, Nat.le_of_ble_eq_true rfl⟩) (pS hS hAlo hlo hP hK (va_Dlo hD hAlo) hZ [] (by decide) rfl) rfl rfl hl.1 rfl (lv_room (Nat.le_of_ble_eq_true rfl)) dX8_waits_72 ⟨Nat.le_of_ble_eq_true rfl, Nat.le_of_ble_eq_true rfl⟩) hS hA hP (fun r_11 H locs hw_11 hP hS => ?_)
              try dsimp only at hw_11
              rcases hw_11 with ⟨rfl, hw_11⟩ | ⟨rfl, hw_11⟩
              · refine lv_if_ne (tgt := 82) hx hb dX8_waits_75 (by decide) (fun _ => ?_) (fun h => absurd h (by decide))
                refine lv_iload hx hb dX8_waits_82 (lv_at hl 4 rfl) ?_
                refine lv_iconst (v := 1) hx hb dX8_waits_84 (by decide) ?_
                refine lv_iand hx hb dX8_waits_85 ?_
                refine lv_topi (fun x_12 ex_12 => ?_)
                refine lv_iconst (v := 1) hx hb dX8_waits_86 (by decide) ?_
                refine lv_icmp_ne (tgt := 94) hx hb dX8_waits_87 (by decide) (fun c_13 => ?_) (fun c_13 => ?_)
                · refine lv_aload_n hx hb dX8_waits_94 rfl (lv_at hl 0 rfl) ?_
                  refine lv_iload_n hx hb dX8_waits_95 rfl (lv_at hl 1 rfl) ?_
                  refine rw_v (D := D) (wr := []) (va_runV (As := [.int (nI j_2)]) (rest := []) ⟨hx, hb, hml, hown, hts⟩ ((m_findWay l D k st lo a tx t0 we rd ru rw ca fp wd nu na ts df db sd dn se tm gs ffrees fprices fons fworths fstarts fends fgoesRound fbegin j_2 hdn hse htm (by omega) (by omega)) H.size) (cwV 1 hts (gV tw_1250 tw_1252 tw_49 tw_87 tw_1253) rfl rfl rfl (by decide +kernel) ⟨Nat.le_of_ble_eq_true rfl, Nat.le_of_ble_eq_true rfl⟩) (pV hS hAlo hlo hP hK (va_Dlo hD hAlo) hZ [0, 1, 2, 3, 4, 5, 6, 7, 8, 9, 10] (by decide) rfl (ci := 8) (q := (RX8, TX8, 44)) (q0 := 0) rfl rfl) rfl rfl hl.1 rfl (lv_room (Nat.le_of_ble_eq_true rfl)) dX8_waits_96 ⟨Nat.le_of_ble_eq_true rfl, Nat.le_of_ble_eq_true rfl⟩) hS hA hP hD [0, 1, 2, 3, 4, 5, 6, 7, 8, 9, 10] [] rfl rfl (by decide) (by decide) (fun u H locs hw_14 hP hD hS => ?_)
                  obtain ⟨fons__14, fworths__14, fstarts__14, fends__14, fgoesRound__14, fbegin__14⟩ := u
                  replace hP : va_P D classes [((a 0), .inr (8, (fX8 a (nI tx) fp (nI t0) wd (nI we) nu na (nI rd) ts (nI ru) (nI rw) (nI ca) df db sd))), (aI k (a 1) 3 (nF dn)), (aI k (a 4) 27 (sg se tm gs)), (aI k (a 2) 72 ffrees), (aI k (a 3) 72 fprices), (aI k (a 18) 768 fons__14), (aI k (a 19) 768 fworths__14), (aI k (a 20) 5 fstarts__14), (aI k (a 21) 4 fends__14), (aZ k (a 22) 4 fgoesRound__14), (aI k (a 23) 8 fbegin__14)] H := hP
                  replace hD : va_D A [((a 0), .inr (8, (fX8 a (nI tx) fp (nI t0) wd (nI we) nu na (nI rd) ts (nI ru) (nI rw) (nI ca) df db sd))), (aI k (a 1) 3 (nF dn)), (aI k (a 4) 27 (sg se tm gs)), (aI k (a 2) 72 ffrees), (aI k (a 3) 72 fprices), (aI k (a 18) 768 fons__14), (aI k (a 19) 768 fworths__14), (aI k (a 20) 5 fstarts__14), (aI k (a 21) 4 fends__14), (aZ k (a 22) 4 fgoesRound__14), (aI k (a 23) 8 fbegin__14)] := hD
                  try dsimp only at hw_14
                  refine lv_aload_n hx hb dX8_waits_99 rfl (lv_at hl 0 rfl) ?_
                  refine va_get (D := D) (ci := 8) (v := .ref (a 18)) (C := RX8) (T := TX8) (N := 44) hx hb hts inX8 hown hK hP 0 rfl rfl 17 (by decide) (hts _ tw_990) (fun _ h9 => h9) rfl dX8_waits_100 ?_
                  refine lv_iload_n hx hb dX8_waits_103 rfl (lv_at hl 2 rfl) ?_
                  refine lv_iload_n hx hb dX8_waits_104 rfl (lv_at hl 3 rfl) ?_
                  refine lv_iload hx hb dX8_waits_105 (lv_at hl 4 rfl) ?_
                  refine ro_i (D := D) (va_runS (As := [.int (nI j_6), .int (nI j_4), .int (nI j_8)]) (rest := [.ref (a 18)]) ⟨hx, hb, hml, hown, hts⟩ ((m_at l D k st lo j_6 j_4 j_8) H.size) (va_cwS 3 hts (gS tw_1266 tw_1267 tw_87 tw_1268) rfl rfl rfl (by decide +kernel) ⟨Nat.le_of_ble_eq_true rfl, Nat.le_of_ble_eq_true rfl⟩) (pS hS hAlo hlo hP hK (va_Dlo hD hAlo) hZ [] (by decide) rfl) rfl rfl hl.1 rfl (lv_room (Nat.le_of_ble_eq_true rfl)) dX8_waits_107 ⟨Nat.le_of_ble_eq_true rfl, Nat.le_of_ble_eq_true rfl⟩) hS hA hP (fun r_15 H locs hw_15 hP hS => ?_)
                  try dsimp only at hw_15
                  subst hw_15
                  refine va_iald hx hb hK hP 5 1 rfl rfl (vp_in_nI (by omega) (by decide)) dX8_waits_110 ?_
                  refine lv_ti (y := (fons__14 (192 * j_6 + 8 * j_4 + j_8))) (by rw [nI_clamp (by omega)]) ?_
                  refine lv_istore (lv' := [(8, .int (fons__14 (192 * j_6 + 8 * j_4 + j_8))), (0, .ref (a 0)), (1, .int (nI j_2)), (2, .int (nI j_6)), (3, .int (nI j_4)), (4, .int (nI j_8)), (5, .int p4), (6, .int p5), (7, .int p6)]) hx hb dX8_waits_111 hl (by decide) rfl (fun ls hl => ?_)
                  refine lv_iload hx hb dX8_waits_113 (lv_at hl 0 rfl) ?_
                  refine lv_istore (lv' := [(9, .int (fons__14 (192 * j_6 + 8 * j_4 + j_8))), (8, .int (fons__14 (192 * j_6 + 8 * j_4 + j_8))), (0, .ref (a 0)), (1, .int (nI j_2)), (2, .int (nI j_6)), (3, .int (nI j_4)), (4, .int (nI j_8)), (5, .int p4), (6, .int p5), (7, .int p6)]) hx hb dX8_waits_115 hl (by decide) rfl (fun ls hl => ?_)
                  refine lv_iconst (v := 0) hx hb dX8_waits_117 (by decide) ?_
                  refine lv_istore (lv' := [(10, .int 0), (9, .int (fons__14 (192 * j_6 + 8 * j_4 + j_8))), (8, .int (fons__14 (192 * j_6 + 8 * j_4 + j_8))), (0, .ref (a 0)), (1, .int (nI j_2)), (2, .int (nI j_6)), (3, .int (nI j_4)), (4, .int (nI j_8)), (5, .int p4), (6, .int p5), (7, .int p6)]) hx hb dX8_waits_118 hl (by decide) rfl (fun ls hl => ?_)
                  refine lv_iconst (v := 1) hx hb dX8_waits_120 (by decide) ?_
                  refine lv_istore (lv' := [(11, .int 1), (10, .int 0), (9, .int (fons__14 (192 * j_6 + 8 * j_4 + j_8))), (8, .int (fons__14 (192 * j_6 + 8 * j_4 + j_8))), (0, .ref (a 0)), (1, .int (nI j_2)), (2, .int (nI j_6)), (3, .int (nI j_4)), (4, .int (nI j_8)), (5, .int p4), (6, .int p5), (7, .int p6)]) hx hb dX8_waits_121 hl (by decide) rfl (fun ls hl => ?_)
                  refine W_loop (σ := Nat × Int32 × Int32 × Int32) (fun (n_ : Nat) (x_ : Nat × Int32 × Int32 × Int32) (H : Heap) (locs : List Loc) (ls : Array Slot) => match x_ with | (mm_16, c8_16, c9_16, c10_16) => n_ = 21 - mm_16 ∧ (mm_16 ≤ 21) ∧ va_P D classes [((a 0), .inr (8, (fX8 a (nI tx) fp (nI t0) wd (nI we) nu na (nI rd) ts (nI ru) (nI rw) (nI ca) df db sd))), (aI k (a 1) 3 (nF dn)), (aI k (a 4) 27 (sg se tm gs)), (aI k (a 2) 72 ffrees), (aI k (a 3) 72 fprices), (aI k (a 18) 768 fons__14), (aI k (a 19) 768 fworths__14), (aI k (a 20) 5 fstarts__14), (aI k (a 21) 4 fends__14), (aZ k (a 22) 4 fgoesRound__14), (aI k (a 23) 8 fbegin__14)] H ∧ va_D A [((a 0), .inr (8, (fX8 a (nI tx) fp (nI t0) wd (nI we) nu na (nI rd) ts (nI ru) (nI rw) (nI ca) df db sd))), (aI k (a 1) 3 (nF dn)), (aI k (a 4) 27 (sg se tm gs)), (aI k (a 2) 72 ffrees), (aI k (a 3) 72 fprices), (aI k (a 18) 768 fons__14), (aI k (a 19) 768 fworths__14), (aI k (a 20) 5 fstarts__14), (aI k (a 21) 4 fends__14), (aZ k (a 22) 4 fgoesRound__14), (aI k (a 23) 8 fbegin__14)] ∧ va_S A s.heap H locs ∧ lv_has ls 12 [(11, .int (nI mm_16)), (10, .int c10_16), (9, .int c9_16), (8, .int c8_16), (0, .ref (a 0)), (1, .int (nI j_2)), (2, .int (nI j_6)), (3, .int (nI j_4)), (4, .int (nI j_8)), (5, .int p4), (6, .int p5), (7, .int p6)]) (fun n_16 x_16 H locs ls hI ih_16 => ?_) _ (1, (fons__14 (192 * j_6 + 8 * j_4 + j_8)), (fons__14 (192 * j_6 + 8 * j_4 + j_8)), 0) ⟨rfl, (by omega), hP, hD, hS, (lv_sub hl [0, 1, 2, 3, 4, 5, 6, 7, 8, 9, 10, 11] rfl)⟩
                  obtain ⟨mm_16, c8_16, c9_16, c10_16⟩ := x_16
                  obtain ⟨hm_16, hv_16, hP, hD, hS, hl⟩ := hI
                  subst hm_16
                  refine lv_iload hx hb dX8_waits_123 (lv_at hl 0 rfl) ?_
                  refine lv_bipush (v := 20) hx hb dX8_waits_125 (by decide) ?_
                  refine lv_icmp_gt (tgt := 191) hx hb dX8_waits_127 (by decide) (fun c_17 => ?_) (fun c_17 => ?_)
                  · have c_17 := (nI_ltI (a := 20) (b := mm_16) (by omega) (by omega)).mp c_17
                    refine lv_iload hx hb dX8_waits_191 (lv_at hl 11 rfl) ?_
                    refine lv_if_ne (tgt := 201) hx hb dX8_waits_193 (by decide) (fun c_18 => ?_) (fun c_18 => ?_)
                    · refine lv_iload hx hb dX8_waits_201 (lv_at hl 2 rfl) ?_
                      have hP9 := hP.sub (ws' := [((a 0), .inr (8, (fX8 a (nI tx) fp (nI t0) wd (nI we) nu na (nI rd) ts (nI ru) (nI rw) (nI ca) df db sd))), (aI k (a 1) 3 (nF dn)), (aI k (a 4) 27 (sg se tm gs)), (aI k (a 2) 72 ffrees), (aI k (a 3) 72 fprices), (aI k (a 18) 768 fons__14), (aI k (a 19) 768 fworths__14), (aI k (a 20) 5 fstarts__14), (aI k (a 21) 4 fends__14), (aZ k (a 22) 4 fgoesRound__14), (aI k (a 23) 8 fbegin__14)]) [0, 1, 2, 3, 4, 5, 6, 7, 8, 9, 10] rfl
                      have hD9 := hD.sub (ws' := [((a 0), .inr (8, (fX8 a (nI tx) fp (nI t0) wd (nI we) nu na (nI rd) ts (nI ru) (nI rw) (nI ca) df db sd))), (aI k (a 1) 3 (nF dn)), (aI k (a 4) 27 (sg se tm gs)), (aI k (a 2) 72 ffrees), (aI k (a 3) 72 fprices), (aI k (a 18) 768 fons__14), (aI k (a 19) 768 fworths__14), (aI k (a 20) 5 fstarts__14), (aI k (a 21) 4 fends__14), (aZ k (a 22) 4 fgoesRound__14), (aI k (a 23) 8 fbegin__14)]) [0, 1, 2, 3, 4, 5, 6, 7, 8, 9, 10] (by decide) rfl
                      exact W.iret (v := c9_16) hx hb hr (fun t ht hW => ⟨⟨c9_16, (fons__14, fworths__14, fstarts__14, fends__14, fgoesRound__14, fbegin__14), rfl, trivial, by rw [ht]; exact hP9, hD9⟩, hS.F ht⟩) hS.2.2 dX8_waits_203
                    · refine lv_iload hx hb dX8_waits_196 (lv_at hl 1 rfl) ?_
                      refine lv_goto (tgt := 203) hx hb dX8_waits_198 (by decide) ?_
                      have hP9 := hP.sub (ws' := [((a 0), .inr (8, (fX8 a (nI tx) fp (nI t0) wd (nI we) nu na (nI rd) ts (nI ru) (nI rw) (nI ca) df db sd))), (aI k (a 1) 3 (nF dn)), (aI k (a 4) 27 (sg se tm gs)), (aI k (a 2) 72 ffrees), (aI k (a 3) 72 fprices), (aI k (a 18) 768 fons__14), (aI k (a 19) 768 fworths__14), (aI k (a 20) 5 fstarts__14), (aI k (a 21) 4 fends__14), (aZ k (a 22) 4 fgoesRound__14), (aI k (a 23) 8 fbegin__14)]) [0, 1, 2, 3, 4, 5, 6, 7, 8, 9, 10] rfl
                      have hD9 := hD.sub (ws' := [((a 0), .inr (8, (fX8 a (nI tx) fp (nI t0) wd (nI we) nu na (nI rd) ts (nI ru) (nI rw) (nI ca) df db sd))), (aI k (a 1) 3 (nF dn)), (aI k (a 4) 27 (sg se tm gs)), (aI k (a 2) 72 ffrees), (aI k (a 3) 72 fprices), (aI k (a 18) 768 fons__14), (aI k (a 19) 768 fworths__14), (aI k (a 20) 5 fstarts__14), (aI k (a 21) 4 fends__14), (aZ k (a 22) 4 fgoesRound__14), (aI k (a 23) 8 fbegin__14)]) [0, 1, 2, 3, 4, 5, 6, 7, 8, 9, 10] (by decide) rfl
                      exact W.iret (v := c10_16) hx hb hr (fun t ht hW => ⟨⟨c10_16, (fons__14, fworths__14, fstarts__14, fends__14, fgoesRound__14, fbegin__14), rfl, trivial, by rw [ht]; exact hP9, hD9⟩, hS.F ht⟩) hS.2.2 dX8_waits_203
                  · have c_17 : ¬ (20 < mm_16) := fun h => c_17 ((nI_ltI (a := 20) (b := mm_16) (by omega) (by omega)).mpr h)
                    refine lv_sipush (v := 1000) hx hb dX8_waits_130 (by decide) ?_
                    refine lv_iload hx hb dX8_waits_133 (lv_at hl 10 rfl) ?_
                    refine lv_imul hx hb dX8_waits_135 ?_
                    refine lv_topi (fun x_19 ex_19 => ?_)
                    refine lv_iload hx hb dX8_waits_136 (lv_at hl 9 rfl) ?_
                    refine lv_aload_n hx hb dX8_waits_138 rfl (lv_at hl 4 rfl) ?_
                    refine lv_iload_n hx hb dX8_waits_139 rfl (lv_at hl 5 rfl) ?_
                    refine lv_iload_n hx hb dX8_waits_140 rfl (lv_at hl 6 rfl) ?_
                    refine lv_iload_n hx hb dX8_waits_141 rfl (lv_at hl 7 rfl) ?_
                    refine ro_i (D := D) (va_runV (As := [.int (nI j_2), .int (nI j_6), .int (nI j_4)]) (rest := [.int p4, .int x_19]) ⟨hx, hb, hml, hown, hts⟩ ((m_takingOf l D k st lo a tx t0 we rd ru rw ca fp wd nu na ts df db sd dn se tm gs fprices j_2 j_4 (nI j_6) (by omega) (by omega)) H.size) (cwV 3 hts (gV tw_1222 tw_1224 tw_43 tw_87 tw_1225) rfl rfl rfl (by decide +kernel) ⟨Nat.le_of_ble_eq_true rfl, Nat.le_of_ble_eq_true rfl⟩) (pV hS hAlo hlo hP hK (va_Dlo hD hAlo) hZ [0, 1, 2, 4] (by decide) rfl (ci := 8) (q := (RX8, TX8, 44)) (q0 := 0) rfl rfl) rfl rfl hl.1 rfl (lv_room (Nat.le_of_ble_eq_true rfl)) dX8_waits_142 ⟨Nat.le_of_ble_eq_true rfl, Nat.le_of_ble_eq_true rfl⟩) hS hA hP (fun r_20 H locs hw_20 hP hS => ?_)
                    try dsimp only at hw_20
                    refine lv_iload hx hb dX8_waits_145 (lv_at hl 3 rfl) ?_
                    refine ro_i (D := D) (va_runS (As := [.int p4, .int r_20, .int c8_16]) (rest := [.int x_19]) ⟨hx, hb, hml, hown, hts⟩ ((m_mixed l D k st lo p4 r_20 c8_16) H.size) (va_cwS 3 hts (gS tw_1269 tw_1270 tw_87 tw_1271) rfl rfl rfl (by decide +kernel) ⟨Nat.le_of_ble_eq_true rfl, Nat.le_of_ble_eq_true rfl⟩) (pS hS hAlo hlo hP hK (va_Dlo hD hAlo) hZ [] (by decide) rfl) rfl rfl hl.1 rfl (lv_room (Nat.le_of_ble_eq_true rfl)) dX8_waits_147 ⟨Nat.le_of_ble_eq_true rfl, Nat.le_of_ble_eq_true rfl⟩) hS hA hP (fun r_21 H locs hw_21 hP hS => ?_)
                    try dsimp only at hw_21
                    refine lv_iadd hx hb dX8_waits_150 ?_
                    refine lv_topi (fun x_22 ex_22 => ?_)
                    refine lv_istore (lv' := [(8, .int x_22), (11, .int (nI mm_16)), (10, .int c10_16), (9, .int c9_16), (0, .ref (a 0)), (1, .int (nI j_2)), (2, .int (nI j_6)), (3, .int (nI j_4)), (4, .int (nI j_8)), (5, .int p4), (6, .int p5), (7, .int p6)]) hx hb dX8_waits_151 hl (by decide) rfl (fun ls hl => ?_)
                    refine lv_iload hx hb dX8_waits_153 (lv_at hl 0 rfl) ?_
                    refine lv_iload hx hb dX8_waits_155 (lv_at hl 3 rfl) ?_
                    refine lv_icmp_ge (tgt := 165) hx hb dX8_waits_157 (by decide) (fun c_23 => ?_) (fun c_23 => ?_)
                    · refine lv_iload hx hb dX8_waits_165 (lv_at hl 2 rfl) ?_
                      refine lv_istore (lv' := [(10, .int c10_16), (8, .int x_22), (11, .int (nI mm_16)), (9, .int c9_16), (0, .ref (a 0)), (1, .int (nI j_2)), (2, .int (nI j_6)), (3, .int (nI j_4)), (4, .int (nI j_8)), (5, .int p4), (6, .int p5), (7, .int p6)]) hx hb dX8_waits_167 hl (by decide) rfl (fun ls hl => ?_)
                      refine lv_iload hx hb dX8_waits_169 (lv_at hl 1 rfl) ?_
                      refine lv_iload hx hb dX8_waits_171 (lv_at hl 3 rfl) ?_
                      refine lv_icmp_ge (tgt := 181) hx hb dX8_waits_173 (by decide) (fun c_24 => ?_) (fun c_24 => ?_)
                      · refine lv_iload hx hb dX8_waits_181 (lv_at hl 3 rfl) ?_
                        refine lv_istore (lv' := [(9, .int c9_16), (10, .int c10_16), (8, .int x_22), (11, .int (nI mm_16)), (0, .ref (a 0)), (1, .int (nI j_2)), (2, .int (nI j_6)), (3, .int (nI j_4)), (4, .int (nI j_8)), (5, .int p4), (6, .int p5), (7, .int p6)]) hx hb dX8_waits_183 hl (by decide) rfl (fun ls hl => ?_)
                        refine lv_iinc (v := (nI (mm_16 + 1))) (lv' := [(11, .int (nI (mm_16 + 1))), (9, .int c9_16), (10, .int c10_16), (8, .int x_22), (0, .ref (a 0)), (1, .int (nI j_2)), (2, .int (nI j_6)), (3, .int (nI j_4)), (4, .int (nI j_8)), (5, .int p4), (6, .int p5), (7, .int p6)]) hx hb dX8_waits_185 hl (k := 3) rfl (nI_add mm_16 1) (by decide) rfl (fun ls hl => ?_)
                        refine lv_goto (tgt := 123) hx hb dX8_waits_188 (by decide) ?_
                        exact ih_16 _ (mm_16 + 1, x_22, c9_16, c10_16) _ _ _ (by omega) ⟨rfl, (by omega), hP, hD, hS, (lv_sub hl [0, 2, 1, 3, 4, 5, 6, 7, 8, 9, 10, 11] rfl)⟩
                      · refine lv_iload hx hb dX8_waits_176 (lv_at hl 1 rfl) ?_
                        refine lv_goto (tgt := 183) hx hb dX8_waits_178 (by decide) ?_
                        refine lv_istore (lv' := [(9, .int x_22), (10, .int c10_16), (8, .int x_22), (11, .int (nI mm_16)), (0, .ref (a 0)), (1, .int (nI j_2)), (2, .int (nI j_6)), (3, .int (nI j_4)), (4, .int (nI j_8)), (5, .int p4), (6, .int p5), (7, .int p6)]) hx hb dX8_waits_183 hl (by decide) rfl (fun ls hl => ?_)
                        refine lv_iinc (v := (nI (mm_16 + 1))) (lv' := [(11, .int (nI (mm_16 + 1))), (9, .int x_22), (10, .int c10_16), (8, .int x_22), (0, .ref (a 0)), (1, .int (nI j_2)), (2, .int (nI j_6)), (3, .int (nI j_4)), (4, .int (nI j_8)), (5, .int p4), (6, .int p5), (7, .int p6)]) hx hb dX8_waits_185 hl (k := 3) rfl (nI_add mm_16 1) (by decide) rfl (fun ls hl => ?_)
                        refine lv_goto (tgt := 123) hx hb dX8_waits_188 (by decide) ?_
                        exact ih_16 _ (mm_16 + 1, x_22, x_22, c10_16) _ _ _ (by omega) ⟨rfl, (by omega), hP, hD, hS, (lv_sub hl [0, 2, 1, 3, 4, 5, 6, 7, 8, 9, 10, 11] rfl)⟩
                    · refine lv_iload hx hb dX8_waits_160 (lv_at hl 1 rfl) ?_
                      refine lv_goto (tgt := 167) hx hb dX8_waits_162 (by decide) ?_
                      refine lv_istore (lv' := [(10, .int (nI mm_16)), (8, .int x_22), (11, .int (nI mm_16)), (9, .int c9_16), (0, .ref (a 0)), (1, .int (nI j_2)), (2, .int (nI j_6)), (3, .int (nI j_4)), (4, .int (nI j_8)), (5, .int p4), (6, .int p5), (7, .int p6)]) hx hb dX8_waits_167 hl (by decide) rfl (fun ls hl => ?_)
                      refine lv_iload hx hb dX8_waits_169 (lv_at hl 1 rfl) ?_
                      refine lv_iload hx hb dX8_waits_171 (lv_at hl 3 rfl) ?_
                      refine lv_icmp_ge (tgt := 181) hx hb dX8_waits_173 (by decide) (fun c_25 => ?_) (fun c_25 => ?_)
                      · refine lv_iload hx hb dX8_waits_181 (lv_at hl 3 rfl) ?_
                        refine lv_istore (lv' := [(9, .int c9_16), (10, .int (nI mm_16)), (8, .int x_22), (11, .int (nI mm_16)), (0, .ref (a 0)), (1, .int (nI j_2)), (2, .int (nI j_6)), (3, .int (nI j_4)), (4, .int (nI j_8)), (5, .int p4), (6, .int p5), (7, .int p6)]) hx hb dX8_waits_183 hl (by decide) rfl (fun ls hl => ?_)
                        refine lv_iinc (v := (nI (mm_16 + 1))) (lv' := [(11, .int (nI (mm_16 + 1))), (9, .int c9_16), (10, .int (nI mm_16)), (8, .int x_22), (0, .ref (a 0)), (1, .int (nI j_2)), (2, .int (nI j_6)), (3, .int (nI j_4)), (4, .int (nI j_8)), (5, .int p4), (6, .int p5), (7, .int p6)]) hx hb dX8_waits_185 hl (k := 3) rfl (nI_add mm_16 1) (by decide) rfl (fun ls hl => ?_)
                        refine lv_goto (tgt := 123) hx hb dX8_waits_188 (by decide) ?_
                        exact ih_16 _ (mm_16 + 1, x_22, c9_16, (nI mm_16)) _ _ _ (by omega) ⟨rfl, (by omega), hP, hD, hS, (lv_sub hl [0, 2, 1, 3, 4, 5, 6, 7, 8, 9, 10, 11] rfl)⟩
                      · refine lv_iload hx hb dX8_waits_176 (lv_at hl 1 rfl) ?_
                        refine lv_goto (tgt := 183) hx hb dX8_waits_178 (by decide) ?_
                        refine lv_istore (lv' := [(9, .int x_22), (10, .int (nI mm_16)), (8, .int x_22), (11, .int (nI mm_16)), (0, .ref (a 0)), (1, .int (nI j_2)), (2, .int (nI j_6)), (3, .int (nI j_4)), (4, .int (nI j_8)), (5, .int p4), (6, .int p5), (7, .int p6)]) hx hb dX8_waits_183 hl (by decide) rfl (fun ls hl => ?_)
                        refine lv_iinc (v := (nI (mm_16 + 1))) (lv' := [(11, .int (nI (mm_16 + 1))), (9, .int x_22), (10, .int (nI mm_16)), (8, .int x_22), (0, .ref (a 0)), (1, .int (nI j_2)), (2, .int (nI j_6)), (3, .int (nI j_4)), (4, .int (nI j_8)), (5, .int p4), (6, .int p5), (7, .int p6)]) hx hb dX8_waits_185 hl (k := 3) rfl (nI_add mm_16 1) (by decide) rfl (fun ls hl => ?_)
                        refine lv_goto (tgt := 123) hx hb dX8_waits_188 (by decide) ?_
                        exact ih_16 _ (mm_16 + 1, x_22, x_22, (nI mm_16)) _ _ _ (by omega) ⟨rfl, (by omega), hP, hD, hS, (lv_sub hl [0, 2, 1, 3, 4, 5, 6, 7, 8, 9, 10, 11] rfl)⟩
                · refine lv_sipush (v := (-1003)) hx hb dX8_waits_90 (by decide) ?_
                  have hP9 := hP.sub (ws' := [((a 0), .inr (8, (fX8 a (nI tx) fp (nI t0) wd (nI we) nu na (nI rd) ts (nI ru) (nI rw) (nI ca) df db sd))), (aI k (a 1) 3 (nF dn)), (aI k (a 4) 27 (sg se tm gs)), (aI k (a 2) 72 ffrees), (aI k (a 3) 72 fprices), (aI k (a 18) 768 fons), (aI k (a 19) 768 fworths), (aI k (a 20) 5 fstarts), (aI k (a 21) 4 fends), (aZ k (a 22) 4 fgoesRound), (aI k (a 23) 8 fbegin)]) [0, 1, 2, 3, 4, 5, 6, 7, 8, 9, 10] rfl
                  have hD9 := hD.sub (ws' := [((a 0), .inr (8, (fX8 a (nI tx) fp (nI t0) wd (nI we) nu na (nI rd) ts (nI ru) (nI rw) (nI ca) df db sd))), (aI k (a 1) 3 (nF dn)), (aI k (a 4) 27 (sg se tm gs)), (aI k (a 2) 72 ffrees), (aI k (a 3) 72 fprices), (aI k (a 18) 768 fons), (aI k (a 19) 768 fworths), (aI k (a 20) 5 fstarts), (aI k (a 21) 4 fends), (aZ k (a 22) 4 fgoesRound), (aI k (a 23) 8 fbegin)]) [0, 1, 2, 3, 4, 5, 6, 7, 8, 9, 10] (by decide) rfl
                  exact W.iret (v := (-1003)) hx hb hr (fun t ht hW => ⟨⟨(-1003), (fons, fworths, fstarts, fends, fgoesRound, fbegin), rfl, trivial, by rw [ht]; exact hP9, hD9⟩, hS.F ht⟩) hS.2.2 dX8_waits_93
              · refine lv_if_ne (tgt := 82) hx hb dX8_waits_75 (by decide) (fun h => absurd (by decide) h) (fun _ => ?_)
                refine lv_sipush (v := (-1002)) hx hb dX8_waits_78 (by decide) ?_
                have hP9 := hP.sub (ws' := [((a 0), .inr (8, (fX8 a (nI tx) fp (nI t0) wd (nI we) nu na (nI rd) ts (nI ru) (nI rw) (nI ca) df db sd))), (aI k (a 1) 3 (nF dn)), (aI k (a 4) 27 (sg se tm gs)), (aI k (a 2) 72 ffrees), (aI k (a 3) 72 fprices), (aI k (a 18) 768 fons), (aI k (a 19) 768 fworths), (aI k (a 20) 5 fstarts), (aI k (a 21) 4 fends), (aZ k (a 22) 4 fgoesRound), (aI k (a 23) 8 fbegin)]) [0, 1, 2, 3, 4, 5, 6, 7, 8, 9, 10] rfl
                have hD9 := hD.sub (ws' := [((a 0), .inr (8, (fX8 a (nI tx) fp (nI t0) wd (nI we) nu na (nI rd) ts (nI ru) (nI rw) (nI ca) df db sd))), (aI k (a 1) 3 (nF dn)), (aI k (a 4) 27 (sg se tm gs)), (aI k (a 2) 72 ffrees), (aI k (a 3) 72 fprices), (aI k (a 18) 768 fons), (aI k (a 19) 768 fworths), (aI k (a 20) 5 fstarts), (aI k (a 21) 4 fends), (aZ k (a 22) 4 fgoesRound), (aI k (a 23) 8 fbegin)]) [0, 1, 2, 3, 4, 5, 6, 7, 8, 9, 10] (by decide) rfl
                exact W.iret (v := (-1002)) hx hb hr (fun t ht hW => ⟨⟨(-1002), (fons, fworths, fstarts, fends, fgoesRound, fbegin), rfl, trivial, by rw [ht]; exact hP9, hD9⟩, hS.F ht⟩) hS.2.2 dX8_waits_81
            · refine lv_if_eq (tgt := 78) hx hb dX8_waits_64 (by decide) (fun _ => ?_) (fun h => absurd (by decide) h)
              refine lv_sipush (v := (-1002)) hx hb dX8_waits_78 (by decide) ?_
              have hP9 := hP.sub (ws' := [((a 0), .inr (8, (fX8 a (nI tx) fp (nI t0) wd (nI we) nu na (nI rd) ts (nI ru) (nI rw) (nI ca) df db sd))), (aI k (a 1) 3 (nF dn)), (aI k (a 4) 27 (sg se tm gs)), (aI k (a 2) 72 ffrees), (aI k (a 3) 72 fprices), (aI k (a 18) 768 fons), (aI k (a 19) 768 fworths), (aI k (a 20) 5 fstarts), (aI k (a 21) 4 fends), (aZ k (a 22) 4 fgoesRound), (aI k (a 23) 8 fbegin)]) [0, 1, 2, 3, 4, 5, 6, 7, 8, 9, 10] rfl
              have hD9 := hD.sub (ws' := [((a 0), .inr (8, (fX8 a (nI tx) fp (nI t0) wd (nI we) nu na (nI rd) ts (nI ru) (nI rw) (nI ca) df db sd))), (aI k (a 1) 3 (nF dn)), (aI k (a 4) 27 (sg se tm gs)), (aI k (a 2) 72 ffrees), (aI k (a 3) 72 fprices), (aI k (a 18) 768 fons), (aI k (a 19) 768 fworths), (aI k (a 20) 5 fstarts), (aI k (a 21) 4 fends), (aZ k (a 22) 4 fgoesRound), (aI k (a 23) 8 fbegin)]) [0, 1, 2, 3, 4, 5, 6, 7, 8, 9, 10] (by decide) rfl
              exact W.iret (v := (-1002)) hx hb hr (fun t ht hW => ⟨⟨(-1002), (fons, fworths, fstarts, fends, fgoesRound, fbegin), rfl, trivial, by rw [ht]; exact hP9, hD9⟩, hS.F ht⟩) hS.2.2 dX8_waits_81
          · refine lv_if_eq (tgt := 78) hx hb dX8_waits_51 (by decide) (fun _ => ?_) (fun h => absurd (by decide) h)
            refine lv_sipush (v := (-1002)) hx hb dX8_waits_78 (by decide) ?_
            have hP9 := hP.sub (ws' := [((a 0), .inr (8, (fX8 a (nI tx) fp (nI t0) wd (nI we) nu na (nI rd) ts (nI ru) (nI rw) (nI ca) df db sd))), (aI k (a 1) 3 (nF dn)), (aI k (a 4) 27 (sg se tm gs)), (aI k (a 2) 72 ffrees), (aI k (a 3) 72 fprices), (aI k (a 18) 768 fons), (aI k (a 19) 768 fworths), (aI k (a 20) 5 fstarts), (aI k (a 21) 4 fends), (aZ k (a 22) 4 fgoesRound), (aI k (a 23) 8 fbegin)]) [0, 1, 2, 3, 4, 5, 6, 7, 8, 9, 10] rfl
            have hD9 := hD.sub (ws' := [((a 0), .inr (8, (fX8 a (nI tx) fp (nI t0) wd (nI we) nu na (nI rd) ts (nI ru) (nI rw) (nI ca) df db sd))), (aI k (a 1) 3 (nF dn)), (aI k (a 4) 27 (sg se tm gs)), (aI k (a 2) 72 ffrees), (aI k (a 3) 72 fprices), (aI k (a 18) 768 fons), (aI k (a 19) 768 fworths), (aI k (a 20) 5 fstarts), (aI k (a 21) 4 fends), (aZ k (a 22) 4 fgoesRound), (aI k (a 23) 8 fbegin)]) [0, 1, 2, 3, 4, 5, 6, 7, 8, 9, 10] (by decide) rfl
            exact W.iret (v := (-1002)) hx hb hr (fun t ht hW => ⟨⟨(-1002), (fons, fworths, fstarts, fends, fgoesRound, fbegin), rfl, trivial, by rw [ht]; exact hP9, hD9⟩, hS.F ht⟩) hS.2.2 dX8_waits_81
        · refine lv_if_eq (tgt := 78) hx hb dX8_waits_38 (by decide) (fun _ => ?_) (fun h => absurd (by decide) h)
          refine lv_sipush (v := (-1002)) hx hb dX8_waits_78 (by decide) ?_
          have hP9 := hP.sub (ws' := [((a 0), .inr (8, (fX8 a (nI tx) fp (nI t0) wd (nI we) nu na (nI rd) ts (nI ru) (nI rw) (nI ca) df db sd))), (aI k (a 1) 3 (nF dn)), (aI k (a 4) 27 (sg se tm gs)), (aI k (a 2) 72 ffrees), (aI k (a 3) 72 fprices), (aI k (a 18) 768 fons), (aI k (a 19) 768 fworths), (aI k (a 20) 5 fstarts), (aI k (a 21) 4 fends), (aZ k (a 22) 4 fgoesRound), (aI k (a 23) 8 fbegin)]) [0, 1, 2, 3, 4, 5, 6, 7, 8, 9, 10] rfl
          have hD9 := hD.sub (ws' := [((a 0), .inr (8, (fX8 a (nI tx) fp (nI t0) wd (nI we) nu na (nI rd) ts (nI ru) (nI rw) (nI ca) df db sd))), (aI k (a 1) 3 (nF dn)), (aI k (a 4) 27 (sg se tm gs)), (aI k (a 2) 72 ffrees), (aI k (a 3) 72 fprices), (aI k (a 18) 768 fons), (aI k (a 19) 768 fworths), (aI k (a 20) 5 fstarts), (aI k (a 21) 4 fends), (aZ k (a 22) 4 fgoesRound), (aI k (a 23) 8 fbegin)]) [0, 1, 2, 3, 4, 5, 6, 7, 8, 9, 10] (by decide) rfl
          exact W.iret (v := (-1002)) hx hb hr (fun t ht hW => ⟨⟨(-1002), (fons, fworths, fstarts, fends, fgoesRound, fbegin), rfl, trivial, by rw [ht]; exact hP9, hD9⟩, hS.F ht⟩) hS.2.2 dX8_waits_81
      · refine lv_if_eq (tgt := 78) hx hb dX8_waits_27 (by decide) (fun _ => ?_) (fun h => absurd (by decide) h)
        refine lv_sipush (v := (-1002)) hx hb dX8_waits_78 (by decide) ?_
        have hP9 := hP.sub (ws' := [((a 0), .inr (8, (fX8 a (nI tx) fp (nI t0) wd (nI we) nu na (nI rd) ts (nI ru) (nI rw) (nI ca) df db sd))), (aI k (a 1) 3 (nF dn)), (aI k (a 4) 27 (sg se tm gs)), (aI k (a 2) 72 ffrees), (aI k (a 3) 72 fprices), (aI k (a 18) 768 fons), (aI k (a 19) 768 fworths), (aI k (a 20) 5 fstarts), (aI k (a 21) 4 fends), (aZ k (a 22) 4 fgoesRound), (aI k (a 23) 8 fbegin)]) [0, 1, 2, 3, 4, 5, 6, 7, 8, 9, 10] rfl
        have hD9 := hD.sub (ws' := [((a 0), .inr (8, (fX8 a (nI tx) fp (nI t0) wd (nI we) nu na (nI rd) ts (nI ru) (nI rw) (nI ca) df db sd))), (aI k (a 1) 3 (nF dn)), (aI k (a 4) 27 (sg se tm gs)), (aI k (a 2) 72 ffrees), (aI k (a 3) 72 fprices), (aI k (a 18) 768 fons), (aI k (a 19) 768 fworths), (aI k (a 20) 5 fstarts), (aI k (a 21) 4 fends), (aZ k (a 22) 4 fgoesRound), (aI k (a 23) 8 fbegin)]) [0, 1, 2, 3, 4, 5, 6, 7, 8, 9, 10] (by decide) rfl
        exact W.iret (v := (-1002)) hx hb hr (fun t ht hW => ⟨⟨(-1002), (fons, fworths, fstarts, fends, fgoesRound, fbegin), rfl, trivial, by rw [ht]; exact hP9, hD9⟩, hS.F ht⟩) hS.2.2 dX8_waits_81
    · refine lv_if_ne (tgt := 21) hx hb dX8_waits_14 (by decide) (fun h => absurd (by decide) h) (fun _ => ?_)
      refine lv_sipush (v := (-1001)) hx hb dX8_waits_17 (by decide) ?_
      have hP9 := hP.sub (ws' := [((a 0), .inr (8, (fX8 a (nI tx) fp (nI t0) wd (nI we) nu na (nI rd) ts (nI ru) (nI rw) (nI ca) df db sd))), (aI k (a 1) 3 (nF dn)), (aI k (a 4) 27 (sg se tm gs)), (aI k (a 2) 72 ffrees), (aI k (a 3) 72 fprices), (aI k (a 18) 768 fons), (aI k (a 19) 768 fworths), (aI k (a 20) 5 fstarts), (aI k (a 21) 4 fends), (aZ k (a 22) 4 fgoesRound), (aI k (a 23) 8 fbegin)]) [0, 1, 2, 3, 4, 5, 6, 7, 8, 9, 10] rfl
      have hD9 := hD.sub (ws' := [((a 0), .inr (8, (fX8 a (nI tx) fp (nI t0) wd (nI we) nu na (nI rd) ts (nI ru) (nI rw) (nI ca) df db sd))), (aI k (a 1) 3 (nF dn)), (aI k (a 4) 27 (sg se tm gs)), (aI k (a 2) 72 ffrees), (aI k (a 3) 72 fprices), (aI k (a 18) 768 fons), (aI k (a 19) 768 fworths), (aI k (a 20) 5 fstarts), (aI k (a 21) 4 fends), (aZ k (a 22) 4 fgoesRound), (aI k (a 23) 8 fbegin)]) [0, 1, 2, 3, 4, 5, 6, 7, 8, 9, 10] (by decide) rfl
      exact W.iret (v := (-1001)) hx hb hr (fun t ht hW => ⟨⟨(-1001), (fons, fworths, fstarts, fends, fgoesRound, fbegin), rfl, trivial, by rw [ht]; exact hP9, hD9⟩, hS.F ht⟩) hS.2.2 dX8_waits_20
  · refine lv_if_eq (tgt := 17) hx hb dX8_waits_5 (by decide) (fun _ => ?_) (fun h => absurd (by decide) h)
    refine lv_sipush (v := (-1001)) hx hb dX8_waits_17 (by decide) ?_
    have hP9 := hP.sub (ws' := [((a 0), .inr (8, (fX8 a (nI tx) fp (nI t0) wd (nI we) nu na (nI rd) ts (nI ru) (nI rw) (nI ca) df db sd))), (aI k (a 1) 3 (nF dn)), (aI k (a 4) 27 (sg se tm gs)), (aI k (a 2) 72 ffrees), (aI k (a 3) 72 fprices), (aI k (a 18) 768 fons), (aI k (a 19) 768 fworths), (aI k (a 20) 5 fstarts), (aI k (a 21) 4 fends), (aZ k (a 22) 4 fgoesRound), (aI k (a 23) 8 fbegin)]) [0, 1, 2, 3, 4, 5, 6, 7, 8, 9, 10] rfl
    have hD9 := hD.sub (ws' := [((a 0), .inr (8, (fX8 a (nI tx) fp (nI t0) wd (nI we) nu na (nI rd) ts (nI ru) (nI rw) (nI ca) df db sd))), (aI k (a 1) 3 (nF dn)), (aI k (a 4) 27 (sg se tm gs)), (aI k (a 2) 72 ffrees), (aI k (a 3) 72 fprices), (aI k (a 18) 768 fons), (aI k (a 19) 768 fworths), (aI k (a 20) 5 fstarts), (aI k (a 21) 4 fends), (aZ k (a 22) 4 fgoesRound), (aI k (a 23) 8 fbegin)]) [0, 1, 2, 3, 4, 5, 6, 7, 8, 9, 10] (by decide) rfl
    exact W.iret (v := (-1001)) hx hb hr (fun t ht hW => ⟨⟨(-1001), (fons, fworths, fstarts, fends, fgoesRound, fbegin), rfl, trivial, by rw [ht]; exact hP9, hD9⟩, hS.F ht⟩) hS.2.2 dX8_waits_20

theorem dX8_boy_0 : decode cX8_boy 0 = .ok (.aload_n 0, 1) := by decide +kernel
theorem dX8_boy_1 : decode cX8_boy 1 = .ok (.iload_n 1, 1) := by decide +kernel
theorem dX8_boy_2 : decode cX8_boy 2 = .ok (.invokevirtual 206, 3) := by decide +kernel
theorem dX8_boy_5 : decode cX8_boy 5 = .ok (.ifCond .ne 7, 3) := by decide +kernel
theorem dX8_boy_8 : decode cX8_boy 8 = .ok (.sipush (-1001), 3) := by decide +kernel
theorem dX8_boy_11 : decode cX8_boy 11 = .ok (.ireturn, 1) := by decide +kernel
theorem dX8_boy_12 : decode cX8_boy 12 = .ok (.aload_n 0, 1) := by decide +kernel
theorem dX8_boy_13 : decode cX8_boy 13 = .ok (.iload_n 1, 1) := by decide +kernel
theorem dX8_boy_14 : decode cX8_boy 14 = .ok (.invokevirtual 268, 3) := by decide +kernel
theorem dX8_boy_17 : decode cX8_boy 17 = .ok (.aload_n 0, 1) := by decide +kernel
theorem dX8_boy_18 : decode cX8_boy 18 = .ok (.getfield 7, 3) := by decide +kernel
theorem dX8_boy_21 : decode cX8_boy 21 = .ok (.iload_n 1, 1) := by decide +kernel
theorem dX8_boy_22 : decode cX8_boy 22 = .ok (.iaload, 1) := by decide +kernel
theorem dX8_boy_23 : decode cX8_boy 23 = .ok (.istore_n 2, 1) := by decide +kernel
theorem dX8_boy_24 : decode cX8_boy 24 = .ok (.iconst 0, 1) := by decide +kernel
theorem dX8_boy_25 : decode cX8_boy 25 = .ok (.istore_n 3, 1) := by decide +kernel
theorem dX8_boy_26 : decode cX8_boy 26 = .ok (.iload_n 3, 1) := by decide +kernel
theorem dX8_boy_27 : decode cX8_boy 27 = .ok (.bipush 50, 2) := by decide +kernel
theorem dX8_boy_29 : decode cX8_boy 29 = .ok (.if_icmp .ge 82, 3) := by decide +kernel
theorem dX8_boy_32 : decode cX8_boy 32 = .ok (.iload_n 3, 1) := by decide +kernel
theorem dX8_boy_33 : decode cX8_boy 33 = .ok (.iconst 2, 1) := by decide +kernel
theorem dX8_boy_34 : decode cX8_boy 34 = .ok (.idiv, 1) := by decide +kernel
theorem dX8_boy_35 : decode cX8_boy 35 = .ok (.istore 4, 2) := by decide +kernel
theorem dX8_boy_37 : decode cX8_boy 37 = .ok (.iload 4, 2) := by decide +kernel
theorem dX8_boy_39 : decode cX8_boy 39 = .ok (.iload_n 2, 1) := by decide +kernel
theorem dX8_boy_40 : decode cX8_boy 40 = .ok (.if_icmp .ge 34, 3) := by decide +kernel
theorem dX8_boy_43 : decode cX8_boy 43 = .ok (.aload_n 0, 1) := by decide +kernel
theorem dX8_boy_44 : decode cX8_boy 44 = .ok (.iload_n 1, 1) := by decide +kernel
theorem dX8_boy_45 : decode cX8_boy 45 = .ok (.iconst 0, 1) := by decide +kernel
theorem dX8_boy_46 : decode cX8_boy 46 = .ok (.iload 4, 2) := by decide +kernel
theorem dX8_boy_48 : decode cX8_boy 48 = .ok (.iload_n 2, 1) := by decide +kernel
theorem dX8_boy_49 : decode cX8_boy 49 = .ok (.if_icmp .ge 8, 3) := by decide +kernel
theorem dX8_boy_52 : decode cX8_boy 52 = .ok (.iload 4, 2) := by decide +kernel
theorem dX8_boy_54 : decode cX8_boy 54 = .ok (.goto 4, 3) := by decide +kernel
theorem dX8_boy_57 : decode cX8_boy 57 = .ok (.iconst 0, 1) := by decide +kernel
theorem dX8_boy_58 : decode cX8_boy 58 = .ok (.invokevirtual 237, 3) := by decide +kernel
theorem dX8_boy_61 : decode cX8_boy 61 = .ok (.aload_n 0, 1) := by decide +kernel
theorem dX8_boy_62 : decode cX8_boy 62 = .ok (.getfield 47, 3) := by decide +kernel
theorem dX8_boy_65 : decode cX8_boy 65 = .ok (.iconst 0, 1) := by decide +kernel
theorem dX8_boy_66 : decode cX8_boy 66 = .ok (.iaload, 1) := by decide +kernel
theorem dX8_boy_67 : decode cX8_boy 67 = .ok (.if_icmp .ge 7, 3) := by decide +kernel
theorem dX8_boy_70 : decode cX8_boy 70 = .ok (.iconst 1, 1) := by decide +kernel
theorem dX8_boy_71 : decode cX8_boy 71 = .ok (.goto 4, 3) := by decide +kernel
theorem dX8_boy_74 : decode cX8_boy 74 = .ok (.iconst 0, 1) := by decide +kernel
theorem dX8_boy_75 : decode cX8_boy 75 = .ok (.istore 5, 2) := by decide +kernel
theorem dX8_boy_77 : decode cX8_boy 77 = .ok (.aload_n 0, 1) := by decide +kernel
theorem dX8_boy_78 : decode cX8_boy 78 = .ok (.getfield 78, 3) := by decide +kernel
theorem dX8_boy_81 : decode cX8_boy 81 = .ok (.iload_n 3, 1) := by decide +kernel
theorem dX8_boy_82 : decode cX8_boy 82 = .ok (.iload 5, 2) := by decide +kernel
theorem dX8_boy_84 : decode cX8_boy 84 = .ok (.ifCond .eq 14, 3) := by decide +kernel
theorem dX8_boy_87 : decode cX8_boy 87 = .ok (.aload_n 0, 1) := by decide +kernel
theorem dX8_boy_88 : decode cX8_boy 88 = .ok (.iload_n 1, 1) := by decide +kernel
theorem dX8_boy_89 : decode cX8_boy 89 = .ok (.iconst 0, 1) := by decide +kernel
theorem dX8_boy_90 : decode cX8_boy 90 = .ok (.iload 4, 2) := by decide +kernel
theorem dX8_boy_92 : decode cX8_boy 92 = .ok (.invokevirtual 237, 3) := by decide +kernel
theorem dX8_boy_95 : decode cX8_boy 95 = .ok (.goto 9, 3) := by decide +kernel
theorem dX8_boy_98 : decode cX8_boy 98 = .ok (.aload_n 0, 1) := by decide +kernel
theorem dX8_boy_99 : decode cX8_boy 99 = .ok (.getfield 47, 3) := by decide +kernel
theorem dX8_boy_102 : decode cX8_boy 102 = .ok (.iconst 0, 1) := by decide +kernel
theorem dX8_boy_103 : decode cX8_boy 103 = .ok (.iaload, 1) := by decide +kernel
theorem dX8_boy_104 : decode cX8_boy 104 = .ok (.iastore, 1) := by decide +kernel
theorem dX8_boy_105 : decode cX8_boy 105 = .ok (.iinc 3 1, 3) := by decide +kernel
theorem dX8_boy_108 : decode cX8_boy 108 = .ok (.goto (-82), 3) := by decide +kernel
theorem dX8_boy_111 : decode cX8_boy 111 = .ok (.iload_n 2, 1) := by decide +kernel
theorem dX8_boy_112 : decode cX8_boy 112 = .ok (.iconst 1, 1) := by decide +kernel
theorem dX8_boy_113 : decode cX8_boy 113 = .ok (.isub, 1) := by decide +kernel
theorem dX8_boy_114 : decode cX8_boy 114 = .ok (.istore_n 3, 1) := by decide +kernel
theorem dX8_boy_115 : decode cX8_boy 115 = .ok (.iload_n 3, 1) := by decide +kernel
theorem dX8_boy_116 : decode cX8_boy 116 = .ok (.ifCond .lt 154, 3) := by decide +kernel
theorem dX8_boy_119 : decode cX8_boy 119 = .ok (.iconst 0, 1) := by decide +kernel
theorem dX8_boy_120 : decode cX8_boy 120 = .ok (.istore 4, 2) := by decide +kernel
theorem dX8_boy_122 : decode cX8_boy 122 = .ok (.iload 4, 2) := by decide +kernel
theorem dX8_boy_124 : decode cX8_boy 124 = .ok (.bipush 50, 2) := by decide +kernel
theorem dX8_boy_126 : decode cX8_boy 126 = .ok (.if_icmp .ge 108, 3) := by decide +kernel
theorem dX8_boy_129 : decode cX8_boy 129 = .ok (.iload 4, 2) := by decide +kernel
theorem dX8_boy_131 : decode cX8_boy 131 = .ok (.iconst 2, 1) := by decide +kernel
theorem dX8_boy_132 : decode cX8_boy 132 = .ok (.idiv, 1) := by decide +kernel
theorem dX8_boy_133 : decode cX8_boy 133 = .ok (.istore 5, 2) := by decide +kernel
theorem dX8_boy_135 : decode cX8_boy 135 = .ok (.iload 5, 2) := by decide +kernel
theorem dX8_boy_137 : decode cX8_boy 137 = .ok (.iload_n 2, 1) := by decide +kernel
theorem dX8_boy_138 : decode cX8_boy 138 = .ok (.if_icmp .ge 21, 3) := by decide +kernel
theorem dX8_boy_141 : decode cX8_boy 141 = .ok (.aload_n 0, 1) := by decide +kernel
theorem dX8_boy_142 : decode cX8_boy 142 = .ok (.iload_n 1, 1) := by decide +kernel
theorem dX8_boy_143 : decode cX8_boy 143 = .ok (.iconst 0, 1) := by decide +kernel
theorem dX8_boy_144 : decode cX8_boy 144 = .ok (.iload_n 3, 1) := by decide +kernel
theorem dX8_boy_145 : decode cX8_boy 145 = .ok (.invokevirtual 237, 3) := by decide +kernel
theorem dX8_boy_148 : decode cX8_boy 148 = .ok (.aload_n 0, 1) := by decide +kernel
theorem dX8_boy_149 : decode cX8_boy 149 = .ok (.iload_n 1, 1) := by decide +kernel
theorem dX8_boy_150 : decode cX8_boy 150 = .ok (.iconst 0, 1) := by decide +kernel
theorem dX8_boy_151 : decode cX8_boy 151 = .ok (.iload 5, 2) := by decide +kernel
theorem dX8_boy_153 : decode cX8_boy 153 = .ok (.invokevirtual 237, 3) := by decide +kernel
theorem dX8_boy_156 : decode cX8_boy 156 = .ok (.if_icmp .ge 7, 3) := by decide +kernel
theorem dX8_boy_159 : decode cX8_boy 159 = .ok (.iconst 1, 1) := by decide +kernel
theorem dX8_boy_160 : decode cX8_boy 160 = .ok (.goto 4, 3) := by decide +kernel
theorem dX8_boy_163 : decode cX8_boy 163 = .ok (.iconst 0, 1) := by decide +kernel
theorem dX8_boy_164 : decode cX8_boy 164 = .ok (.istore 6, 2) := by decide +kernel
theorem dX8_boy_166 : decode cX8_boy 166 = .ok (.aload_n 0, 1) := by decide +kernel
theorem dX8_boy_167 : decode cX8_boy 167 = .ok (.getfield 78, 3) := by decide +kernel
theorem dX8_boy_170 : decode cX8_boy 170 = .ok (.iconst 2, 1) := by decide +kernel
theorem dX8_boy_171 : decode cX8_boy 171 = .ok (.iload 6, 2) := by decide +kernel
theorem dX8_boy_173 : decode cX8_boy 173 = .ok (.ifCond .eq 7, 3) := by decide +kernel
theorem dX8_boy_176 : decode cX8_boy 176 = .ok (.iload_n 3, 1) := by decide +kernel
theorem dX8_boy_177 : decode cX8_boy 177 = .ok (.goto 5, 3) := by decide +kernel
theorem dX8_boy_180 : decode cX8_boy 180 = .ok (.iload 5, 2) := by decide +kernel
theorem dX8_boy_182 : decode cX8_boy 182 = .ok (.imul, 1) := by decide +kernel
theorem dX8_boy_183 : decode cX8_boy 183 = .ok (.iconst 1, 1) := by decide +kernel
theorem dX8_boy_184 : decode cX8_boy 184 = .ok (.iadd, 1) := by decide +kernel
theorem dX8_boy_185 : decode cX8_boy 185 = .ok (.iaload, 1) := by decide +kernel
theorem dX8_boy_186 : decode cX8_boy 186 = .ok (.istore 7, 2) := by decide +kernel
theorem dX8_boy_188 : decode cX8_boy 188 = .ok (.aload_n 0, 1) := by decide +kernel
theorem dX8_boy_189 : decode cX8_boy 189 = .ok (.getfield 81, 3) := by decide +kernel
theorem dX8_boy_192 : decode cX8_boy 192 = .ok (.iload 4, 2) := by decide +kernel
theorem dX8_boy_194 : decode cX8_boy 194 = .ok (.aload_n 0, 1) := by decide +kernel
theorem dX8_boy_195 : decode cX8_boy 195 = .ok (.iload_n 1, 1) := by decide +kernel
theorem dX8_boy_196 : decode cX8_boy 196 = .ok (.iload_n 3, 1) := by decide +kernel
theorem dX8_boy_197 : decode cX8_boy 197 = .ok (.iload 4, 2) := by decide +kernel
theorem dX8_boy_199 : decode cX8_boy 199 = .ok (.iconst 2, 1) := by decide +kernel
theorem dX8_boy_200 : decode cX8_boy 200 = .ok (.irem, 1) := by decide +kernel
theorem dX8_boy_201 : decode cX8_boy 201 = .ok (.iconst 1, 1) := by decide +kernel
theorem dX8_boy_202 : decode cX8_boy 202 = .ok (.if_icmp .ne 7, 3) := by decide +kernel
theorem dX8_boy_205 : decode cX8_boy 205 = .ok (.iconst 1, 1) := by decide +kernel
theorem dX8_boy_206 : decode cX8_boy 206 = .ok (.goto 4, 3) := by decide +kernel
theorem dX8_boy_209 : decode cX8_boy 209 = .ok (.iconst 0, 1) := by decide +kernel
theorem dX8_boy_210 : decode cX8_boy 210 = .ok (.invokevirtual 219, 3) := by decide +kernel
theorem dX8_boy_213 : decode cX8_boy 213 = .ok (.iload 7, 2) := by decide +kernel
theorem dX8_boy_215 : decode cX8_boy 215 = .ok (.aload_n 0, 1) := by decide +kernel
theorem dX8_boy_216 : decode cX8_boy 216 = .ok (.getfield 78, 3) := by decide +kernel
theorem dX8_boy_219 : decode cX8_boy 219 = .ok (.iconst 2, 1) := by decide +kernel
theorem dX8_boy_220 : decode cX8_boy 220 = .ok (.iload 5, 2) := by decide +kernel
theorem dX8_boy_222 : decode cX8_boy 222 = .ok (.imul, 1) := by decide +kernel
theorem dX8_boy_223 : decode cX8_boy 223 = .ok (.iaload, 1) := by decide +kernel
theorem dX8_boy_224 : decode cX8_boy 224 = .ok (.invokestatic 245, 3) := by decide +kernel
theorem dX8_boy_227 : decode cX8_boy 227 = .ok (.iastore, 1) := by decide +kernel
theorem dX8_boy_228 : decode cX8_boy 228 = .ok (.iinc 4 1, 3) := by decide +kernel
theorem dX8_boy_231 : decode cX8_boy 231 = .ok (.goto (-109), 3) := by decide +kernel
theorem dX8_boy_234 : decode cX8_boy 234 = .ok (.iconst 0, 1) := by decide +kernel
theorem dX8_boy_235 : decode cX8_boy 235 = .ok (.istore 4, 2) := by decide +kernel
theorem dX8_boy_237 : decode cX8_boy 237 = .ok (.iload 4, 2) := by decide +kernel
theorem dX8_boy_239 : decode cX8_boy 239 = .ok (.bipush 50, 2) := by decide +kernel
theorem dX8_boy_241 : decode cX8_boy 241 = .ok (.if_icmp .ge 23, 3) := by decide +kernel
theorem dX8_boy_244 : decode cX8_boy 244 = .ok (.aload_n 0, 1) := by decide +kernel
theorem dX8_boy_245 : decode cX8_boy 245 = .ok (.getfield 78, 3) := by decide +kernel
theorem dX8_boy_248 : decode cX8_boy 248 = .ok (.iload 4, 2) := by decide +kernel
theorem dX8_boy_250 : decode cX8_boy 250 = .ok (.aload_n 0, 1) := by decide +kernel
theorem dX8_boy_251 : decode cX8_boy 251 = .ok (.getfield 81, 3) := by decide +kernel
theorem dX8_boy_254 : decode cX8_boy 254 = .ok (.iload 4, 2) := by decide +kernel
theorem dX8_boy_256 : decode cX8_boy 256 = .ok (.iaload, 1) := by decide +kernel
theorem dX8_boy_257 : decode cX8_boy 257 = .ok (.iastore, 1) := by decide +kernel
theorem dX8_boy_258 : decode cX8_boy 258 = .ok (.iinc 4 1, 3) := by decide +kernel
theorem dX8_boy_261 : decode cX8_boy 261 = .ok (.goto (-24), 3) := by decide +kernel
theorem dX8_boy_264 : decode cX8_boy 264 = .ok (.iinc 3 (-1), 3) := by decide +kernel
theorem dX8_boy_267 : decode cX8_boy 267 = .ok (.goto (-152), 3) := by decide +kernel
theorem dX8_boy_270 : decode cX8_boy 270 = .ok (.aload_n 0, 1) := by decide +kernel
theorem dX8_boy_271 : decode cX8_boy 271 = .ok (.getfield 78, 3) := by decide +kernel
theorem dX8_boy_274 : decode cX8_boy 274 = .ok (.bipush 48, 2) := by decide +kernel
theorem dX8_boy_276 : decode cX8_boy 276 = .ok (.iaload, 1) := by decide +kernel
theorem dX8_boy_277 : decode cX8_boy 277 = .ok (.ireturn, 1) := by decide +kernel
set_option maxHeartbeats 4000000 in
set_option maxRecDepth 100000 in
theorem m_boy (l : Launch) (D : va_G) (k : Nat → ClassId) (st : Nat → Nat) (lo : Nat) (a : Nat → Nat) (tx : Nat) (t0 : Nat) (we : Nat) (rd : Nat) (ru : Nat) (rw : Nat) (ca : Nat) (fp : Int32) (wd : Int64) (nu : Int32) (na : Int32) (ts : Int32) (df : Int32) (db : Int32) (sd : Int32) (dn : Nat → Nat) (se : Nat → Nat) (tm : Nat → Nat) (gs : Nat → Int32) (ffrees : Nat → Int32) (fprices : Nat → Int32) (fons : Nat → Int32) (fworths : Nat → Int32) (fstarts : Nat → Int32) (fends : Nat → Int32) (fgoesRound : Nat → Int32) (fbegin : Nat → Int32) (fboys : Nat → Int32) (fboysNext : Nat → Int32) (p0 : Int32) (hdn : ∀ j, dn j ≤ 24) (hse : ∀ j, se j ≤ 2) (htm : ∀ j, tm j ≤ 3) : CWi l D k st lo yX8_boy cX8_boy 8 (some .int) ({ frames := 6, cells := 0, slots := 0, locals := 144 }) 0 0 [.ref (a 0), .int p0] [((a 0), .inr (8, (fX8 a (nI tx) fp (nI t0) wd (nI we) nu na (nI rd) ts (nI ru) (nI rw) (nI ca) df db sd))), (aI k (a 1) 3 (nF dn)), (aI k (a 4) 27 (sg se tm gs)), (aI k (a 2) 72 ffrees), (aI k (a 3) 72 fprices), (aI k (a 18) 768 fons), (aI k (a 19) 768 fworths), (aI k (a 20) 5 fstarts), (aI k (a 21) 4 fends), (aZ k (a 22) 4 fgoesRound), (aI k (a 23) 8 fbegin), (aI k (a 33) 50 fboys), (aI k (a 34) 50 fboysNext)] (fun (r : Int32) (u : (Nat → Int32) × (Nat → Int32) × (Nat → Int32) × (Nat → Int32) × (Nat → Int32) × (Nat → Int32) × (Nat → Int32) × (Nat → Int32)) => match u with | (fons_, fworths_, fstarts_, fends_, fgoesRound_, fbegin_, fboys_, fboysNext_) => True) (fun (u : (Nat → Int32) × (Nat → Int32) × (Nat → Int32) × (Nat → Int32) × (Nat → Int32) × (Nat → Int32) × (Nat → Int32) × (Nat → Int32)) => match u with | (fons_, fworths_, fstarts_, fends_, fgoesRound_, fbegin_, fboys_, fboysNext_) => [((a 0), .inr (8, (fX8 a (nI tx) fp (nI t0) wd (nI we) nu na (nI rd) ts (nI ru) (nI rw) (nI ca) df db sd))), (aI k (a 1) 3 (nF dn)), (aI k (a 4) 27 (sg se tm gs)), (aI k (a 2) 72 ffrees), (aI k (a 3) 72 fprices), (aI k (a 18) 768 fons_), (aI k (a 19) 768 fworths_), (aI k (a 20) 5 fstarts_), (aI k (a 21) 4 fends_), (aZ k (a 22) 4 fgoesRound_), (aI k (a 23) 8 fbegin_), (aI k (a 33) 50 fboys_), (aI k (a 34) 50 fboysNext_)]) := by
  intro sz
  refine Met.ofW (cc := cX8_boy) (maxL := 8) (ret := (some .int)) (by decide) rfl ?_
  intro p e s m args below meth c s₁ B hml hv
  obtain ⟨rfl, hsz, hlo, hP, hK, hDL, hZ⟩ := hv
  have hx := B.exec
  have hb := B.bytes
  have hr := B.returns
  have hts := WS_ts B.pre
  have hown : s.vm.findClass RX8 = some m.cls := findClass_of_methodNamed B.named
  have hlocks := B.notSynchronized
  subst hsz
  have hD := hDL.self (sz := s.heap.size)
  have hAlo := A_lo hDL hlo
  generalize hAe : va_A [((a 0), .inr (8, (fX8 a (nI tx) fp (nI t0) wd (nI we) nu na (nI rd) ts (nI ru) (nI rw) (nI ca) df db sd))), (aI k (a 1) 3 (nF dn)), (aI k (a 4) 27 (sg se tm gs)), (aI k (a 2) 72 ffrees), (aI k (a 3) 72 fprices), (aI k (a 18) 768 fons), (aI k (a 19) 768 fworths), (aI k (a 20) 5 fstarts), (aI k (a 21) 4 fends), (aZ k (a 22) 4 fgoesRound), (aI k (a 23) 8 fbegin), (aI k (a 33) 50 fboys), (aI k (a 34) 50 fboysNext)] s.heap.size = A at hD hAlo ⊢
  have hA : ∀ q : Nat, s.heap.size ≤ q → A q := fun q h => by rw [← hAe]; exact Or.inr h
  have hS : va_S A s.heap s.heap [] := va_S.rf
  have hl := lv_entry ([.ref (a 0), .int p0]) (n := 8) (Nat.le_of_ble_eq_true rfl)
  rw [lg_entry_eq]
  generalize (lg_sl ([.ref (a 0), .int p0]) ++ List.replicate (8 - (lg_sl ([.ref (a 0), .int p0])).length) Slot.unset).toArray = ls at hl ⊢
  have hl : lv_has ls 8 [(0, .ref (a 0)), (1, .int p0)] := hl
  refine lv_aload_n hx hb dX8_boy_0 rfl (lv_at hl 0 rfl) ?_
  refine lv_iload_n hx hb dX8_boy_1 rfl (lv_at hl 1 rfl) ?_
  refine ro_i (D := D) (va_runV (As := [.int p0]) (rest := []) ⟨hx, hb, hml, hown, hts⟩ ((m_isStreet l D k st lo a tx t0 we rd ru rw ca fp wd nu na ts df db sd dn p0 hdn) s.heap.size) (cwV 1 hts (gV tw_1189 tw_1191 tw_38 tw_87 tw_1192) rfl rfl rfl (by decide +kernel) ⟨Nat.le_of_ble_eq_true rfl, Nat.le_of_ble_eq_true rfl⟩) (pV hS hAlo hlo hP hK (va_Dlo hD hAlo) hZ [0, 1] (by decide) rfl (ci := 8) (q := (RX8, TX8, 44)) (q0 := 0) rfl rfl) rfl rfl hl.1 rfl (lv_room (Nat.le_of_ble_eq_true rfl)) dX8_boy_2 ⟨Nat.le_of_ble_eq_true rfl, Nat.le_of_ble_eq_true rfl⟩) hS hA hP (fun r_1 H locs hw_1 hP hS => ?_)
  try dsimp only at hw_1
  rcases hw_1 with ⟨rfl, j_2, hj_2, rfl, hw_1⟩ | rfl
  · have hdj_2 := hdn j_2
    have htj_2 := htm j_2
    refine lv_if_ne (tgt := 12) hx hb dX8_boy_5 (by decide) (fun _ => ?_) (fun h => absurd h (by decide))
    refine lv_aload_n hx hb dX8_boy_12 rfl (lv_at hl 0 rfl) ?_
    refine lv_iload_n hx hb dX8_boy_13 rfl (lv_at hl 1 rfl) ?_
    refine rw_v (D := D) (wr := [(aI k (a 33) 50 fboys), (aI k (a 34) 50 fboysNext)]) (va_runV (As := [.int (nI j_2)]) (rest := []) ⟨hx, hb, hml, hown, hts⟩ ((m_findWay l D k st lo a tx t0 we rd ru rw ca fp wd nu na ts df db sd dn se tm gs ffrees fprices fons fworths fstarts fends fgoesRound fbegin j_2 hdn hse htm (by omega) (by omega)) H.size) (cwV 1 hts (gV tw_1250 tw_1252 tw_49 tw_87 tw_1253) rfl rfl rfl (by decide +kernel) ⟨Nat.le_of_ble_eq_true rfl, Nat.le_of_ble_eq_true rfl⟩) (pV hS hAlo hlo hP hK (va_Dlo hD hAlo) hZ [0, 1, 2, 3, 4, 5, 6, 7, 8, 9, 10] (by decide) rfl (ci := 8) (q := (RX8, TX8, 44)) (q0 := 0) rfl rfl) rfl rfl hl.1 rfl (lv_room (Nat.le_of_ble_eq_true rfl)) dX8_boy_14 ⟨Nat.le_of_ble_eq_true rfl, Nat.le_of_ble_eq_true rfl⟩) hS hA hP hD [0, 1, 2, 3, 4, 5, 6, 7, 8, 9, 10] [11, 12] rfl rfl (by decide) (by decide) (fun u H locs hw_3 hP hD hS => ?_)
    obtain ⟨fons__3, fworths__3, fstarts__3, fends__3, fgoesRound__3, fbegin__3⟩ := u
    replace hP : va_P D classes [(aI k (a 33) 50 fboys), (aI k (a 34) 50 fboysNext), ((a 0), .inr (8, (fX8 a (nI tx) fp (nI t0) wd (nI we) nu na (nI rd) ts (nI ru) (nI rw) (nI ca) df db sd))), (aI k (a 1) 3 (nF dn)), (aI k (a 4) 27 (sg se tm gs)), (aI k (a 2) 72 ffrees), (aI k (a 3) 72 fprices), (aI k (a 18) 768 fons__3), (aI k (a 19) 768 fworths__3), (aI k (a 20) 5 fstarts__3), (aI k (a 21) 4 fends__3), (aZ k (a 22) 4 fgoesRound__3), (aI k (a 23) 8 fbegin__3)] H := hP
    replace hD : va_D A [(aI k (a 33) 50 fboys), (aI k (a 34) 50 fboysNext), ((a 0), .inr (8, (fX8 a (nI tx) fp (nI t0) wd (nI we) nu na (nI rd) ts (nI ru) (nI rw) (nI ca) df db sd))), (aI k (a 1) 3 (nF dn)), (aI k (a 4) 27 (sg se tm gs)), (aI k (a 2) 72 ffrees), (aI k (a 3) 72 fprices), (aI k (a 18) 768 fons__3), (aI k (a 19) 768 fworths__3), (aI k (a 20) 5 fstarts__3), (aI k (a 21) 4 fends__3), (aZ k (a 22) 4 fgoesRound__3), (aI k (a 23) 8 fbegin__3)] := hD
    try dsimp only at hw_3
    refine lv_aload_n hx hb dX8_boy_17 rfl (lv_at hl 0 rfl) ?_
    refine va_get (D := D) (ci := 8) (v := .ref (a 1)) (C := RX8) (T := TX8) (N := 44) hx hb hts inX8 hown hK hP 2 rfl rfl 0 (by decide) (hts _ tw_973) (fun _ h9 => h9) rfl dX8_boy_18 ?_
    refine lv_iload_n hx hb dX8_boy_21 rfl (lv_at hl 1 rfl) ?_
    refine va_iald hx hb hK hP 3 1 rfl rfl (vp_in_nI (by omega) (by decide)) dX8_boy_22 ?_
    refine lv_ti (y := (nI (dn j_2))) (by rw [nI_clamp (by omega)]; rfl) ?_
    refine lv_istore_n (lv' := [(2, .int (nI (dn j_2))), (0, .ref (a 0)), (1, .int (nI j_2))]) hx hb dX8_boy_23 rfl hl (by decide) rfl (fun ls hl => ?_)
    refine lv_iconst (v := 0) hx hb dX8_boy_24 (by decide) ?_
    refine lv_istore_n (lv' := [(3, .int 0), (2, .int (nI (dn j_2))), (0, .ref (a 0)), (1, .int (nI j_2))]) hx hb dX8_boy_25 rfl hl (by decide) rfl (fun ls hl => ?_)
    refine W_loop (σ := Nat × (Nat → Int32)) (fun (n_ : Nat) (x_ : Nat × (Nat → Int32)) (H : Heap) (locs : List Loc) (ls : Array Slot) => match x_ with | (kk_4, fb_4) => n_ = 50 - kk_4 ∧ (kk_4 ≤ 50) ∧ va_P D classes [(aI k (a 33) 50 fb_4), (aI k (a 34) 50 fboysNext), ((a 0), .inr (8, (fX8 a (nI tx) fp (nI t0) wd (nI we) nu na (nI rd) ts (nI ru) (nI rw) (nI ca) df db sd))), (aI k (a 1) 3 (nF dn)), (aI k (a 4) 27 (sg se tm gs)), (aI k (a 2) 72 ffrees), (aI k (a 3) 72 fprices), (aI k (a 18) 768 fons__3), (aI k (a 19) 768 fworths__3), (aI k (a 20) 5 fstarts__3), (aI k (a 21) 4 fends__3), (aZ k (a 22) 4 fgoesRound__3), (aI k (a 23) 8 fbegin__3)] H ∧ va_D A [(aI k (a 33) 50 fb_4), (aI k (a 34) 50 fboysNext), ((a 0), .inr (8, (fX8 a (nI tx) fp (nI t0) wd (nI we) nu na (nI rd) ts (nI ru) (nI rw) (nI ca) df db sd))), (aI k (a 1) 3 (nF dn)), (aI k (a 4) 27 (sg se tm gs)), (aI k (a 2) 72 ffrees), (aI k (a 3) 72 fprices), (aI k (a 18) 768 fons__3), (aI k (a 19) 768 fworths__3), (aI k (a 20) 5 fstarts__3), (aI k (a 21) 4 fends__3), (aZ k (a 22) 4 fgoesRound__3), (aI k (a 23) 8 fbegin__3)] ∧ va_S A s.heap H locs ∧ lv_has ls 8 [(3, .int (nI kk_4)), (2, .int (nI (dn j_2))), (0, .ref (a 0)), (1, .int (nI j_2))]) (fun n_4 x_4 H locs ls hI ih_4 => ?_) _ (0, fboys) ⟨rfl, (by omega), hP, hD, hS, (lv_sub hl [0, 1, 2, 3] rfl)⟩
    obtain ⟨kk_4, fb_4⟩ := x_4
    obtain ⟨hm_4, hv_4, hP, hD, hS, hl⟩ := hI
    subst hm_4
    refine lv_iload_n hx hb dX8_boy_26 rfl (lv_at hl 0 rfl) ?_
    refine lv_bipush (v := 50) hx hb dX8_boy_27 (by decide) ?_
    refine lv_icmp_ge (tgt := 111) hx hb dX8_boy_29 (by decide) (fun c_5 => ?_) (fun c_5 => ?_)
    · have c_5 := (nI_leI (a := 50) (b := kk_4) (by omega) (by omega)).mp c_5
      refine lv_iload_n hx hb dX8_boy_111 rfl (lv_at hl 1 rfl) ?_
      refine lv_iconst (v := 1) hx hb dX8_boy_112 (by decide) ?_
      refine lv_isub hx hb dX8_boy_113 ?_
      refine lv_ti (y := (nI (dn j_2) - 1)) rfl ?_
      refine lv_istore_n (lv' := [(3, .int (nI (dn j_2) - 1)), (2, .int (nI (dn j_2))), (0, .ref (a 0)), (1, .int (nI j_2))]) hx hb dX8_boy_114 rfl hl (by decide) rfl (fun ls hl => ?_)
      refine W_loop (σ := Nat × (Nat → Int32) × (Nat → Int32)) (fun (n_ : Nat) (x_ : Nat × (Nat → Int32) × (Nat → Int32)) (H : Heap) (locs : List Loc) (ls : Array Slot) => match x_ with | (q_6, fb_6, fn_6) => n_ = 2 * q_6 ∧ (q_6 ≤ 24) ∧ va_P D classes [(aI k (a 33) 50 fb_6), (aI k (a 34) 50 fn_6), ((a 0), .inr (8, (fX8 a (nI tx) fp (nI t0) wd (nI we) nu na (nI rd) ts (nI ru) (nI rw) (nI ca) df db sd))), (aI k (a 1) 3 (nF dn)), (aI k (a 4) 27 (sg se tm gs)), (aI k (a 2) 72 ffrees), (aI k (a 3) 72 fprices), (aI k (a 18) 768 fons__3), (aI k (a 19) 768 fworths__3), (aI k (a 20) 5 fstarts__3), (aI k (a 21) 4 fends__3), (aZ k (a 22) 4 fgoesRound__3), (aI k (a 23) 8 fbegin__3)] H ∧ va_D A [(aI k (a 33) 50 fb_6), (aI k (a 34) 50 fn_6), ((a 0), .inr (8, (fX8 a (nI tx) fp (nI t0) wd (nI we) nu na (nI rd) ts (nI ru) (nI rw) (nI ca) df db sd))), (aI k (a 1) 3 (nF dn)), (aI k (a 4) 27 (sg se tm gs)), (aI k (a 2) 72 ffrees), (aI k (a 3) 72 fprices), (aI k (a 18) 768 fons__3), (aI k (a 19) 768 fworths__3), (aI k (a 20) 5 fstarts__3), (aI k (a 21) 4 fends__3), (aZ k (a 22) 4 fgoesRound__3), (aI k (a 23) 8 fbegin__3)] ∧ va_S A s.heap H locs ∧ lv_has ls 8 [(3, .int (nI q_6 - 1)), (2, .int (nI (dn j_2))), (0, .ref (a 0)), (1, .int (nI j_2))]) (fun n_6 x_6 H locs ls hI ih_6 => ?_) _ (dn j_2, fb_4, fboysNext) ⟨rfl, (by omega), hP, hD, hS, (lv_sub hl [0, 1, 2, 3] rfl)⟩
      obtain ⟨q_6, fb_6, fn_6⟩ := x_6
      obtain ⟨hm_6, hv_6, hP, hD, hS, hl⟩ := hI
      subst hm_6
      rcases q_6 with _ | q_6
      · rw [dn0] at hl
        refine lv_iload_n hx hb dX8_boy_115 rfl (lv_at hl 0 rfl) ?_
        refine lv_if_lt (tgt := 270) hx hb dX8_boy_116 (by decide) (fun _ => ?_) (fun h => absurd (by decide) h)
        refine lv_aload_n hx hb dX8_boy_270 rfl (lv_at hl 2 rfl) ?_
        refine va_get (D := D) (ci := 8) (v := .ref (a 33)) (C := RX8) (T := TX8) (N := 44) hx hb hts inX8 hown hK hP 2 rfl rfl 32 (by decide) (hts _ tw_1005) (fun _ h9 => h9) rfl dX8_boy_271 ?_
        refine lv_bipush (v := 48) hx hb dX8_boy_274 (by decide) ?_
        refine va_iald hx hb hK hP 0 1 rfl rfl (by unfold vp_in; decide) dX8_boy_276 ?_
        refine lv_ti (y := (fb_6 48)) (by rfl) ?_
        have hP9 := hP.sub (ws' := [((a 0), .inr (8, (fX8 a (nI tx) fp (nI t0) wd (nI we) nu na (nI rd) ts (nI ru) (nI rw) (nI ca) df db sd))), (aI k (a 1) 3 (nF dn)), (aI k (a 4) 27 (sg se tm gs)), (aI k (a 2) 72 ffrees), (aI k (a 3) 72 fprices), (aI k (a 18) 768 fons__3), (aI k (a 19) 768 fworths__3), (aI k (a 20) 5 fstarts__3), (aI k (a 21) 4 fends__3), (aZ k (a 22) 4 fgoesRound__3), (aI k (a 23) 8 fbegin__3), (aI k (a 33) 50 fb_6), (aI k (a 34) 50 fn_6)]) [2, 3, 4, 5, 6, 7, 8, 9, 10, 11, 12, 0, 1] rfl
        have hD9 := hD.sub (ws' := [((a 0), .inr (8, (fX8 a (nI tx) fp (nI t0) wd (nI we) nu na (nI rd) ts (nI ru) (nI rw) (nI ca) df db sd))), (aI k (a 1) 3 (nF dn)), (aI k (a 4) 27 (sg se tm gs)), (aI k (a 2) 72 ffrees), (aI k (a 3) 72 fprices), (aI k (a 18) 768 fons__3), (aI k (a 19) 768 fworths__3), (aI k (a 20) 5 fstarts__3), (aI k (a 21) 4 fends__3), (aZ k (a 22) 4 fgoesRound__3), (aI k (a 23) 8 fbegin__3), (aI k (a 33) 50 fb_6), (aI k (a 34) 50 fn_6)]) [2, 3, 4, 5, 6, 7, 8, 9, 10, 11, 12, 0, 1] (by decide) rfl
        exact W.iret (v := (fb_6 48)) hx hb hr (fun t ht hW => ⟨⟨(fb_6 48), (fons__3, fworths__3, fstarts__3, fends__3, fgoesRound__3, fbegin__3, fb_6, fn_6), rfl, trivial, by rw [ht]; exact hP9, hD9⟩, hS.F ht⟩) hS.2.2 dX8_boy_277
      · rw [nI_pred] at hl
        refine lv_iload_n hx hb dX8_boy_115 rfl (lv_at hl 0 rfl) ?_
        refine lv_if_lt (tgt := 270) hx hb dX8_boy_116 (by decide) (fun h => absurd h (nI_pos0 (by omega))) (fun _ => ?_)
        refine lv_iconst (v := 0) hx hb dX8_boy_119 (by decide) ?_
        refine lv_istore (lv' := [(4, .int 0), (3, .int (nI q_6)), (2, .int (nI (dn j_2))), (0, .ref (a 0)), (1, .int (nI j_2))]) hx hb dX8_boy_120 hl (by decide) rfl (fun ls hl => ?_)
        refine W_loop (σ := Nat × (Nat → Int32)) (fun (n_ : Nat) (x_ : Nat × (Nat → Int32)) (H : Heap) (locs : List Loc) (ls : Array Slot) => match x_ with | (kk_7, fn_7) => n_ = 50 - kk_7 ∧ (kk_7 ≤ 50) ∧ va_P D classes [(aI k (a 33) 50 fb_6), (aI k (a 34) 50 fn_7), ((a 0), .inr (8, (fX8 a (nI tx) fp (nI t0) wd (nI we) nu na (nI rd) ts (nI ru) (nI rw) (nI ca) df db sd))), (aI k (a 1) 3 (nF dn)), (aI k (a 4) 27 (sg se tm gs)), (aI k (a 2) 72 ffrees), (aI k (a 3) 72 fprices), (aI k (a 18) 768 fons__3), (aI k (a 19) 768 fworths__3), (aI k (a 20) 5 fstarts__3), (aI k (a 21) 4 fends__3), (aZ k (a 22) 4 fgoesRound__3), (aI k (a 23) 8 fbegin__3)] H ∧ va_D A [(aI k (a 33) 50 fb_6), (aI k (a 34) 50 fn_7), ((a 0), .inr (8, (fX8 a (nI tx) fp (nI t0) wd (nI we) nu na (nI rd) ts (nI ru) (nI rw) (nI ca) df db sd))), (aI k (a 1) 3 (nF dn)), (aI k (a 4) 27 (sg se tm gs)), (aI k (a 2) 72 ffrees), (aI k (a 3) 72 fprices), (aI k (a 18) 768 fons__3), (aI k (a 19) 768 fworths__3), (aI k (a 20) 5 fstarts__3), (aI k (a 21) 4 fends__3), (aZ k (a 22) 4 fgoesRound__3), (aI k (a 23) 8 fbegin__3)] ∧ va_S A s.heap H locs ∧ lv_has ls 8 [(4, .int (nI kk_7)), (3, .int (nI q_6)), (2, .int (nI (dn j_2))), (0, .ref (a 0)), (1, .int (nI j_2))]) (fun n_7 x_7 H locs ls hI ih_7 => ?_) _ (0, fn_6) ⟨rfl, (by omega), hP, hD, hS, (lv_sub hl [0, 1, 2, 3, 4] rfl)⟩
        obtain ⟨kk_7, fn_7⟩ := x_7
        obtain ⟨hm_7, hv_7, hP, hD, hS, hl⟩ := hI
        subst hm_7
        refine lv_iload hx hb dX8_boy_122 (lv_at hl 0 rfl) ?_
        refine lv_bipush (v := 50) hx hb dX8_boy_124 (by decide) ?_
        refine lv_icmp_ge (tgt := 234) hx hb dX8_boy_126 (by decide) (fun c_8 => ?_) (fun c_8 => ?_)
        · have c_8 := (nI_leI (a := 50) (b := kk_7) (by omega) (by omega)).mp c_8
          refine lv_iconst (v := 0) hx hb dX8_boy_234 (by decide) ?_
          refine lv_istore (lv' := [(4, .int 0), (3, .int (nI q_6)), (2, .int (nI (dn j_2))), (0, .ref (a 0)), (1, .int (nI j_2))]) hx hb dX8_boy_235 hl (by decide) rfl (fun ls hl => ?_)
          refine W_loop (σ := Nat × (Nat → Int32)) (fun (n_ : Nat) (x_ : Nat × (Nat → Int32)) (H : Heap) (locs : List Loc) (ls : Array Slot) => match x_ with | (kk_9, fb_9) => n_ = 50 - kk_9 ∧ (kk_9 ≤ 50) ∧ va_P D classes [(aI k (a 33) 50 fb_9), (aI k (a 34) 50 fn_7), ((a 0), .inr (8, (fX8 a (nI tx) fp (nI t0) wd (nI we) nu na (nI rd) ts (nI ru) (nI rw) (nI ca) df db sd))), (aI k (a 1) 3 (nF dn)), (aI k (a 4) 27 (sg se tm gs)), (aI k (a 2) 72 ffrees), (aI k (a 3) 72 fprices), (aI k (a 18) 768 fons__3), (aI k (a 19) 768 fworths__3), (aI k (a 20) 5 fstarts__3), (aI k (a 21) 4 fends__3), (aZ k (a 22) 4 fgoesRound__3), (aI k (a 23) 8 fbegin__3)] H ∧ va_D A [(aI k (a 33) 50 fb_9), (aI k (a 34) 50 fn_7), ((a 0), .inr (8, (fX8 a (nI tx) fp (nI t0) wd (nI we) nu na (nI rd) ts (nI ru) (nI rw) (nI ca) df db sd))), (aI k (a 1) 3 (nF dn)), (aI k (a 4) 27 (sg se tm gs)), (aI k (a 2) 72 ffrees), (aI k (a 3) 72 fprices), (aI k (a 18) 768 fons__3), (aI k (a 19) 768 fworths__3), (aI k (a 20) 5 fstarts__3), (aI k (a 21) 4 fends__3), (aZ k (a 22) 4 fgoesRound__3), (aI k (a 23) 8 fbegin__3)] ∧ va_S A s.heap H locs ∧ lv_has ls 8 [(4, .int (nI kk_9)), (3, .int (nI q_6)), (2, .int (nI (dn j_2))), (0, .ref (a 0)), (1, .int (nI j_2))]) (fun n_9 x_9 H locs ls hI ih_9 => ?_) _ (0, fb_6) ⟨rfl, (by omega), hP, hD, hS, (lv_sub hl [0, 1, 2, 3, 4] rfl)⟩
          obtain ⟨kk_9, fb_9⟩ := x_9
          obtain ⟨hm_9, hv_9, hP, hD, hS, hl⟩ := hI
          subst hm_9
          refine lv_iload hx hb dX8_boy_237 (lv_at hl 0 rfl) ?_
          refine lv_bipush (v := 50) hx hb dX8_boy_239 (by decide) ?_
          refine lv_icmp_ge (tgt := 264) hx hb dX8_boy_241 (by decide) (fun c_10 => ?_) (fun c_10 => ?_)
          · have c_10 := (nI_leI (a := 50) (b := kk_9) (by omega) (by omega)).mp c_10
            refine lv_iinc (v := (nI q_6 - 1)) (lv' := [(3, .int (nI q_6 - 1)), (4, .int (nI kk_9)), (2, .int (nI (dn j_2))), (0, .ref (a 0)), (1, .int (nI j_2))]) hx hb dX8_boy_264 hl (k := 1) rfl (dn1 _) (by decide) rfl (fun ls hl => ?_)
            refine lv_goto (tgt := 115) hx hb dX8_boy_267 (by decide) ?_
            exact ih_6 _ (q_6, fb_9, fn_7) _ _ _ (by omega) ⟨rfl, (by omega), hP, hD, hS, (lv_sub hl [0, 2, 3, 4] rfl)⟩
          · have c_10 : ¬ (50 ≤ kk_9) := fun h => c_10 ((nI_leI (a := 50) (b := kk_9) (by omega) (by omega)).mpr h)
            refine lv_aload_n hx hb dX8_boy_244 rfl (lv_at hl 3 rfl) ?_
            refine va_get (D := D) (ci := 8) (v := .ref (a 33)) (C := RX8) (T := TX8) (N := 44) hx hb hts inX8 hown hK hP 2 rfl rfl 32 (by decide) (hts _ tw_1005) (fun _ h9 => h9) rfl dX8_boy_245 ?_
            refine lv_iload hx hb dX8_boy_248 (lv_at hl 0 rfl) ?_
            refine lv_aload_n hx hb dX8_boy_250 rfl (lv_at hl 3 rfl) ?_
            refine va_get (D := D) (ci := 8) (v := .ref (a 34)) (C := RX8) (T := TX8) (N := 44) hx hb hts inX8 hown hK hP 2 rfl rfl 33 (by decide) (hts _ tw_1006) (fun _ h9 => h9) rfl dX8_boy_251 ?_
            refine lv_iload hx hb dX8_boy_254 (lv_at hl 0 rfl) ?_
            refine va_iald hx hb hK hP 1 1 rfl rfl (vp_in_nI (by omega) (by decide)) dX8_boy_256 ?_
            refine lv_ti (y := (fn_7 kk_9)) (by rw [nI_clamp (by omega)]) ?_
            refine va_iast hx hb hK hP hD hS 0 1 rfl rfl (vp_in_nI (by omega) (by decide)) dX8_boy_257 (fun H locs hP hD hS => ?_)
            replace hP : va_P D classes [(aI k (a 33) 50 (upd fb_9 (Int32.toNatClampNeg (nI kk_9)) (fn_7 kk_9))), (aI k (a 34) 50 fn_7), ((a 0), .inr (8, (fX8 a (nI tx) fp (nI t0) wd (nI we) nu na (nI rd) ts (nI ru) (nI rw) (nI ca) df db sd))), (aI k (a 1) 3 (nF dn)), (aI k (a 4) 27 (sg se tm gs)), (aI k (a 2) 72 ffrees), (aI k (a 3) 72 fprices), (aI k (a 18) 768 fons__3), (aI k (a 19) 768 fworths__3), (aI k (a 20) 5 fstarts__3), (aI k (a 21) 4 fends__3), (aZ k (a 22) 4 fgoesRound__3), (aI k (a 23) 8 fbegin__3)] H := hP
            replace hD : va_D A [(aI k (a 33) 50 (upd fb_9 (Int32.toNatClampNeg (nI kk_9)) (fn_7 kk_9))), (aI k (a 34) 50 fn_7), ((a 0), .inr (8, (fX8 a (nI tx) fp (nI t0) wd (nI we) nu na (nI rd) ts (nI ru) (nI rw) (nI ca) df db sd))), (aI k (a 1) 3 (nF dn)), (aI k (a 4) 27 (sg se tm gs)), (aI k (a 2) 72 ffrees), (aI k (a 3) 72 fprices), (aI k (a 18) 768 fons__3), (aI k (a 19) 768 fworths__3), (aI k (a 20) 5 fstarts__3), (aI k (a 21) 4 fends__3), (aZ k (a 22) 4 fgoesRound__3), (aI k (a 23) 8 fbegin__3)] := hD
            generalize (upd fb_9 (Int32.toNatClampNeg (nI kk_9)) (fn_7 kk_9)) = f_11 at hP hD
            refine lv_iinc (v := (nI (kk_9 + 1))) (lv' := [(4, .int (nI (kk_9 + 1))), (3, .int (nI q_6)), (2, .int (nI (dn j_2))), (0, .ref (a 0)), (1, .int (nI j_2))]) hx hb dX8_boy_258 hl (k := 0) rfl (nI_add kk_9 1) (by decide) rfl (fun ls hl => ?_)
            refine lv_goto (tgt := 237) hx hb dX8_boy_261 (by decide) ?_
            exact ih_9 _ (kk_9 + 1, f_11) _ _ _ (by omega) ⟨rfl, (by omega), hP, hD, hS, (lv_sub hl [0, 1, 2, 3, 4] rfl)⟩
        · have c_8 : ¬ (50 ≤ kk_7) := fun h => c_8 ((nI_leI (a := 50) (b := kk_7) (by omega) (by omega)).mpr h)
          refine lv_iload hx hb dX8_boy_129 (lv_at hl 0 rfl) ?_
          refine lv_iconst (v := 2) hx hb dX8_boy_131 (by decide) ?_
          refine lv_idiv hx hb dX8_boy_132 (by decide) ?_
          refine lv_ti (y := (nI (kk_7 / 2))) (pk_div (by omega) (by decide) (by decide)) ?_
          refine lv_istore (lv' := [(5, .int (nI (kk_7 / 2))), (4, .int (nI kk_7)), (3, .int (nI q_6)), (2, .int (nI (dn j_2))), (0, .ref (a 0)), (1, .int (nI j_2))]) hx hb dX8_boy_133 hl (by decide) rfl (fun ls hl => ?_)
          refine lv_iload hx hb dX8_boy_135 (lv_at hl 0 rfl) ?_
          refine lv_iload_n hx hb dX8_boy_137 rfl (lv_at hl 3 rfl) ?_
          refine lv_icmp_ge (tgt := 159) hx hb dX8_boy_138 (by decide) (fun c_12 => ?_) (fun c_12 => ?_)
          · have c_12 := (nI_leI (a := (dn j_2)) (b := (kk_7 / 2)) (by omega) (by omega)).mp c_12
            refine lv_iconst (v := 1) hx hb dX8_boy_159 (by decide) ?_
            refine lv_goto (tgt := 164) hx hb dX8_boy_160 (by decide) ?_
            refine lv_istore (lv' := [(6, .int 1), (5, .int (nI (kk_7 / 2))), (4, .int (nI kk_7)), (3, .int (nI q_6)), (2, .int (nI (dn j_2))), (0, .ref (a 0)), (1, .int (nI j_2))]) hx hb dX8_boy_164 hl (by decide) rfl (fun ls hl => ?_)
            refine lv_aload_n hx hb dX8_boy_166 rfl (lv_at hl 5 rfl) ?_
            refine va_get (D := D) (ci := 8) (v := .ref (a 33)) (C := RX8) (T := TX8) (N := 44) hx hb hts inX8 hown hK hP 2 rfl rfl 32 (by decide) (hts _ tw_1005) (fun _ h9 => h9) rfl dX8_boy_167 ?_
            refine lv_iconst (v := 2) hx hb dX8_boy_170 (by decide) ?_
            refine lv_iload hx hb dX8_boy_171 (lv_at hl 0 rfl) ?_
            refine lv_if_eq (tgt := 180) hx hb dX8_boy_173 (by decide) (fun h => absurd h (by decide)) (fun _ => ?_)
            refine lv_iload_n hx hb dX8_boy_176 rfl (lv_at hl 3 rfl) ?_
            refine lv_goto (tgt := 182) hx hb dX8_boy_177 (by decide) ?_
            refine lv_imul hx hb dX8_boy_182 ?_
            refine lv_ti (y := (nI (2 * q_6))) (pk_mul 2 q_6) ?_
            refine lv_iconst (v := 1) hx hb dX8_boy_183 (by decide) ?_
            refine lv_iadd hx hb dX8_boy_184 ?_
            refine lv_ti (y := (nI (2 * q_6 + 1))) (nI_add (2 * q_6) 1) ?_
            refine va_iald hx hb hK hP 0 1 rfl rfl (vp_in_nI (by omega) (by decide)) dX8_boy_185 ?_
            refine lv_ti (y := (fb_6 (2 * q_6 + 1))) (by rw [nI_clamp (by omega)]) ?_
            refine lv_istore (lv' := [(7, .int (fb_6 (2 * q_6 + 1))), (6, .int 1), (5, .int (nI (kk_7 / 2))), (4, .int (nI kk_7)), (3, .int (nI q_6)), (2, .int (nI (dn j_2))), (0, .ref (a 0)), (1, .int (nI j_2))]) hx hb dX8_boy_186 hl (by decide) rfl (fun ls hl => ?_)
            refine lv_aload_n hx hb dX8_boy_188 rfl (lv_at hl 6 rfl) ?_
            refine va_get (D := D) (ci := 8) (v := .ref (a 34)) (C := RX8) (T := TX8) (N := 44) hx hb hts inX8 hown hK hP 2 rfl rfl 33 (by decide) (hts _ tw_1006) (fun _ h9 => h9) rfl dX8_boy_189 ?_
            refine lv_iload hx hb dX8_boy_192 (lv_at hl 3 rfl) ?_
            refine lv_aload_n hx hb dX8_boy_194 rfl (lv_at hl 6 rfl) ?_
            refine lv_iload_n hx hb dX8_boy_195 rfl (lv_at hl 7 rfl) ?_
            refine lv_iload_n hx hb dX8_boy_196 rfl (lv_at hl 4 rfl) ?_
            refine lv_iload hx hb dX8_boy_197 (lv_at hl 3 rfl) ?_
            refine lv_iconst (v := 2) hx hb dX8_boy_199 (by decide) ?_
            refine lv_irem hx hb dX8_boy_200 (by decide) ?_
            refine lv_ti (y := (nI (kk_7 % 2))) (pk_rem (by omega) (by decide) (by decide)) ?_
            refine lv_iconst (v := 1) hx hb dX8_boy_201 (by decide) ?_
            refine lv_icmp_ne (tgt := 209) hx hb dX8_boy_202 (by decide) (fun c_13 => ?_) (fun c_13 => ?_)
            · have c_13 : ¬ ((kk_7 % 2) = 1) := fun h => c_13 ((nI_eq (a := (kk_7 % 2)) (b := 1) (by omega) (by omega)).mpr h)
              refine lv_iconst (v := 0) hx hb dX8_boy_209 (by decide) ?_
              refine ro_i (D := D) (va_runV (As := [.int (nI j_2), .int (nI q_6), .int 0]) (rest := [.int (nI kk_7), .ref (a 34)]) ⟨hx, hb, hml, hown, hts⟩ ((m_chanceOf l D k st lo a tx t0 we rd ru rw ca fp wd nu na ts df db sd ffrees se tm gs j_2 q_6 0 (by omega) (by omega)) H.size) (cwV 3 hts (gV tw_1210 tw_1212 tw_41 tw_87 tw_1213) rfl rfl rfl (by decide +kernel) ⟨Nat.le_of_ble_eq_true rfl, Nat.le_of_ble_eq_true rfl⟩) (pV hS hAlo hlo hP hK (va_Dlo hD hAlo) hZ [2, 5, 4] (by decide) rfl (ci := 8) (q := (RX8, TX8, 44)) (q0 := 0) rfl rfl) rfl rfl hl.1 rfl (lv_room (Nat.le_of_ble_eq_true rfl)) dX8_boy_210 ⟨Nat.le_of_ble_eq_true rfl, Nat.le_of_ble_eq_true rfl⟩) hS hA hP (fun r_14 H locs hw_14 hP hS => ?_)
              try dsimp only at hw_14
              refine lv_iload hx hb dX8_boy_213 (lv_at hl 0 rfl) ?_
              refine lv_aload_n hx hb dX8_boy_215 rfl (lv_at hl 6 rfl) ?_
              refine va_get (D := D) (ci := 8) (v := .ref (a 33)) (C := RX8) (T := TX8) (N := 44) hx hb hts inX8 hown hK hP 2 rfl rfl 32 (by decide) (hts _ tw_1005) (fun _ h9 => h9) rfl dX8_boy_216 ?_
              refine lv_iconst (v := 2) hx hb dX8_boy_219 (by decide) ?_
              refine lv_iload hx hb dX8_boy_220 (lv_at hl 2 rfl) ?_
              refine lv_imul hx hb dX8_boy_222 ?_
              refine lv_ti (y := (nI (2 * (kk_7 / 2)))) (pk_mul 2 (kk_7 / 2)) ?_
              refine va_iald hx hb hK hP 0 1 rfl rfl (vp_in_nI (by omega) (by decide)) dX8_boy_223 ?_
              refine lv_ti (y := (fb_6 (2 * (kk_7 / 2)))) (by rw [nI_clamp (by omega)]) ?_
              refine ro_i (D := D) (va_runS (As := [.int r_14, .int (fb_6 (2 * q_6 + 1)), .int (fb_6 (2 * (kk_7 / 2)))]) (rest := [.int (nI kk_7), .ref (a 34)]) ⟨hx, hb, hml, hown, hts⟩ ((m_mixed l D k st lo r_14 (fb_6 (2 * q_6 + 1)) (fb_6 (2 * (kk_7 / 2)))) H.size) (va_cwS 3 hts (gS tw_1269 tw_1270 tw_87 tw_1271) rfl rfl rfl (by decide +kernel) ⟨Nat.le_of_ble_eq_true rfl, Nat.le_of_ble_eq_true rfl⟩) (pS hS hAlo hlo hP hK (va_Dlo hD hAlo) hZ [] (by decide) rfl) rfl rfl hl.1 rfl (lv_room (Nat.le_of_ble_eq_true rfl)) dX8_boy_224 ⟨Nat.le_of_ble_eq_true rfl, Nat.le_of_ble_eq_true rfl⟩) hS hA hP (fun r_15 H locs hw_15 hP hS => ?_)
              try dsimp only at hw_15
              refine va_iast hx hb hK hP hD hS 1 1 rfl rfl (vp_in_nI (by omega) (by decide)) dX8_boy_227 (fun H locs hP hD hS => ?_)
              replace hP : va_P D classes [(aI k (a 33) 50 fb_6), (aI k (a 34) 50 (upd fn_7 (Int32.toNatClampNeg (nI kk_7)) r_15)), ((a 0), .inr (8, (fX8 a (nI tx) fp (nI t0) wd (nI we) nu na (nI rd) ts (nI ru) (nI rw) (nI ca) df db sd))), (aI k (a 1) 3 (nF dn)), (aI k (a 4) 27 (sg se tm gs)), (aI k (a 2) 72 ffrees), (aI k (a 3) 72 fprices), (aI k (a 18) 768 fons__3), (aI k (a 19) 768 fworths__3), (aI k (a 20) 5 fstarts__3), (aI k (a 21) 4 fends__3), (aZ k (a 22) 4 fgoesRound__3), (aI k (a 23) 8 fbegin__3)] H := hP
              replace hD : va_D A [(aI k (a 33) 50 fb_6), (aI k (a 34) 50 (upd fn_7 (Int32.toNatClampNeg (nI kk_7)) r_15)), ((a 0), .inr (8, (fX8 a (nI tx) fp (nI t0) wd (nI we) nu na (nI rd) ts (nI ru) (nI rw) (nI ca) df db sd))), (aI k (a 1) 3 (nF dn)), (aI k (a 4) 27 (sg se tm gs)), (aI k (a 2) 72 ffrees), (aI k (a 3) 72 fprices), (aI k (a 18) 768 fons__3), (aI k (a 19) 768 fworths__3), (aI k (a 20) 5 fstarts__3), (aI k (a 21) 4 fends__3), (aZ k (a 22) 4 fgoesRound__3), (aI k (a 23) 8 fbegin__3)] := hD
              generalize (upd fn_7 (Int32.toNatClampNeg (nI kk_7)) r_15) = f_16 at hP hD
              refine lv_iinc (v := (nI (kk_7 + 1))) (lv' := [(4, .int (nI (kk_7 + 1))), (7, .int (fb_6 (2 * q_6 + 1))), (6, .int 1), (5, .int (nI (kk_7 / 2))), (3, .int (nI q_6)), (2, .int (nI (dn j_2))), (0, .ref (a 0)), (1, .int (nI j_2))]) hx hb dX8_boy_228 hl (k := 3) rfl (nI_add kk_7 1) (by decide) rfl (fun ls hl => ?_)
              refine lv_goto (tgt := 122) hx hb dX8_boy_231 (by decide) ?_
              exact ih_7 _ (kk_7 + 1, f_16) _ _ _ (by omega) ⟨rfl, (by omega), hP, hD, hS, (lv_sub hl [0, 4, 5, 6, 7] rfl)⟩
            · have c_13 := (nI_eq (a := (kk_7 % 2)) (b := 1) (by omega) (by omega)).mp c_13
              refine lv_iconst (v := 1) hx hb dX8_boy_205 (by decide) ?_
              refine lv_goto (tgt := 210) hx hb dX8_boy_206 (by decide) ?_
              refine ro_i (D := D) (va_runV (As := [.int (nI j_2), .int (nI q_6), .int 1]) (rest := [.int (nI kk_7), .ref (a 34)]) ⟨hx, hb, hml, hown, hts⟩ ((m_chanceOf l D k st lo a tx t0 we rd ru rw ca fp wd nu na ts df db sd ffrees se tm gs j_2 q_6 1 (by omega) (by omega)) H.size) (cwV 3 hts (gV tw_1210 tw_1212 tw_41 tw_87 tw_1213) rfl rfl rfl (by decide +kernel) ⟨Nat.le_of_ble_eq_true rfl, Nat.le_of_ble_eq_true rfl⟩) (pV hS hAlo hlo hP hK (va_Dlo hD hAlo) hZ [2, 5, 4] (by decide) rfl (ci := 8) (q := (RX8, TX8, 44)) (q0 := 0) rfl rfl) rfl rfl hl.1 rfl (lv_room (Nat.le_of_ble_eq_true rfl)) dX8_boy_210 ⟨Nat.le_of_ble_eq_true rfl, Nat.le_of_ble_eq_true rfl⟩) hS hA hP (fun r_17 H locs hw_17 hP hS => ?_)
              try dsimp only at hw_17
              refine lv_iload hx hb dX8_boy_213 (lv_at hl 0 rfl) ?_
              refine lv_aload_n hx hb dX8_boy_215 rfl (lv_at hl 6 rfl) ?_
              refine va_get (D := D) (ci := 8) (v := .ref (a 33)) (C := RX8) (T := TX8) (N := 44) hx hb hts inX8 hown hK hP 2 rfl rfl 32 (by decide) (hts _ tw_1005) (fun _ h9 => h9) rfl dX8_boy_216 ?_
              refine lv_iconst (v := 2) hx hb dX8_boy_219 (by decide) ?_
              refine lv_iload hx hb dX8_boy_220 (lv_at hl 2 rfl) ?_
              refine lv_imul hx hb dX8_boy_222 ?_
              refine lv_ti (y := (nI (2 * (kk_7 / 2)))) (pk_mul 2 (kk_7 / 2)) ?_
              refine va_iald hx hb hK hP 0 1 rfl rfl (vp_in_nI (by omega) (by decide)) dX8_boy_223 ?_
              refine lv_ti (y := (fb_6 (2 * (kk_7 / 2)))) (by rw [nI_clamp (by omega)]) ?_
              refine ro_i (D := D) (va_runS (As := [.int r_17, .int (fb_6 (2 * q_6 + 1)), .int (fb_6 (2 * (kk_7 / 2)))]) (rest := [.int (nI kk_7), .ref (a 34)]) ⟨hx, hb, hml, hown, hts⟩ ((m_mixed l D k st lo r_17 (fb_6 (2 * q_6 + 1)) (fb_6 (2 * (kk_7 / 2)))) H.size) (va_cwS 3 hts (gS tw_1269 tw_1270 tw_87 tw_1271) rfl rfl rfl (by decide +kernel) ⟨Nat.le_of_ble_eq_true rfl, Nat.le_of_ble_eq_true rfl⟩) (pS hS hAlo hlo hP hK (va_Dlo hD hAlo) hZ [] (by decide) rfl) rfl rfl hl.1 rfl (lv_room (Nat.le_of_ble_eq_true rfl)) dX8_boy_224 ⟨Nat.le_of_ble_eq_true rfl, Nat.le_of_ble_eq_true rfl⟩) hS hA hP (fun r_18 H locs hw_18 hP hS => ?_)
              try dsimp only at hw_18
              refine va_iast hx hb hK hP hD hS 1 1 rfl rfl (vp_in_nI (by omega) (by decide)) dX8_boy_227 (fun H locs hP hD hS => ?_)
              replace hP : va_P D classes [(aI k (a 33) 50 fb_6), (aI k (a 34) 50 (upd fn_7 (Int32.toNatClampNeg (nI kk_7)) r_18)), ((a 0), .inr (8, (fX8 a (nI tx) fp (nI t0) wd (nI we) nu na (nI rd) ts (nI ru) (nI rw) (nI ca) df db sd))), (aI k (a 1) 3 (nF dn)), (aI k (a 4) 27 (sg se tm gs)), (aI k (a 2) 72 ffrees), (aI k (a 3) 72 fprices), (aI k (a 18) 768 fons__3), (aI k (a 19) 768 fworths__3), (aI k (a 20) 5 fstarts__3), (aI k (a 21) 4 fends__3), (aZ k (a 22) 4 fgoesRound__3), (aI k (a 23) 8 fbegin__3)] H := hP
              replace hD : va_D A [(aI k (a 33) 50 fb_6), (aI k (a 34) 50 (upd fn_7 (Int32.toNatClampNeg (nI kk_7)) r_18)), ((a 0), .inr (8, (fX8 a (nI tx) fp (nI t0) wd (nI we) nu na (nI rd) ts (nI ru) (nI rw) (nI ca) df db sd))), (aI k (a 1) 3 (nF dn)), (aI k (a 4) 27 (sg se tm gs)), (aI k (a 2) 72 ffrees), (aI k (a 3) 72 fprices), (aI k (a 18) 768 fons__3), (aI k (a 19) 768 fworths__3), (aI k (a 20) 5 fstarts__3), (aI k (a 21) 4 fends__3), (aZ k (a 22) 4 fgoesRound__3), (aI k (a 23) 8 fbegin__3)] := hD
              generalize (upd fn_7 (Int32.toNatClampNeg (nI kk_7)) r_18) = f_19 at hP hD
              refine lv_iinc (v := (nI (kk_7 + 1))) (lv' := [(4, .int (nI (kk_7 + 1))), (7, .int (fb_6 (2 * q_6 + 1))), (6, .int 1), (5, .int (nI (kk_7 / 2))), (3, .int (nI q_6)), (2, .int (nI (dn j_2))), (0, .ref (a 0)), (1, .int (nI j_2))]) hx hb dX8_boy_228 hl (k := 3) rfl (nI_add kk_7 1) (by decide) rfl (fun ls hl => ?_)
              refine lv_goto (tgt := 122) hx hb dX8_boy_231 (by decide) ?_
              exact ih_7 _ (kk_7 + 1, f_19) _ _ _ (by omega) ⟨rfl, (by omega), hP, hD, hS, (lv_sub hl [0, 4, 5, 6, 7] rfl)⟩
          · have c_12 : ¬ ((dn j_2) ≤ (kk_7 / 2)) := fun h => c_12 ((nI_leI (a := (dn j_2)) (b := (kk_7 / 2)) (by omega) (by omega)).mpr h)
            refine lv_aload_n hx hb dX8_boy_141 rfl (lv_at hl 4 rfl) ?_
            refine lv_iload_n hx hb dX8_boy_142 rfl (lv_at hl 5 rfl) ?_
            refine lv_iconst (v := 0) hx hb dX8_boy_143 (by decide) ?_
            refine lv_iload_n hx hb dX8_boy_144 rfl (lv_at hl 2 rfl) ?_
            refine ro_i (D := D) (va_runV (As := [.int (nI j_2), .int 0, .int (nI q_6)]) (rest := []) ⟨hx, hb, hml, hown, hts⟩ ((m_takingOf l D k st lo a tx t0 we rd ru rw ca fp wd nu na ts df db sd dn se tm gs fprices j_2 q_6 0 (by omega) (by omega)) H.size) (cwV 3 hts (gV tw_1222 tw_1224 tw_43 tw_87 tw_1225) rfl rfl rfl (by decide +kernel) ⟨Nat.le_of_ble_eq_true rfl, Nat.le_of_ble_eq_true rfl⟩) (pV hS hAlo hlo hP hK (va_Dlo hD hAlo) hZ [2, 3, 4, 6] (by decide) rfl (ci := 8) (q := (RX8, TX8, 44)) (q0 := 0) rfl rfl) rfl rfl hl.1 rfl (lv_room (Nat.le_of_ble_eq_true rfl)) dX8_boy_145 ⟨Nat.le_of_ble_eq_true rfl, Nat.le_of_ble_eq_true rfl⟩) hS hA hP (fun r_20 H locs hw_20 hP hS => ?_)
            try dsimp only at hw_20
            refine lv_aload_n hx hb dX8_boy_148 rfl (lv_at hl 4 rfl) ?_
            refine lv_iload_n hx hb dX8_boy_149 rfl (lv_at hl 5 rfl) ?_
            refine lv_iconst (v := 0) hx hb dX8_boy_150 (by decide) ?_
            refine lv_iload hx hb dX8_boy_151 (lv_at hl 0 rfl) ?_
            refine ro_i (D := D) (va_runV (As := [.int (nI j_2), .int 0, .int (nI (kk_7 / 2))]) (rest := [.int r_20]) ⟨hx, hb, hml, hown, hts⟩ ((m_takingOf l D k st lo a tx t0 we rd ru rw ca fp wd nu na ts df db sd dn se tm gs fprices j_2 (kk_7 / 2) 0 (by omega) (by omega)) H.size) (cwV 3 hts (gV tw_1222 tw_1224 tw_43 tw_87 tw_1225) rfl rfl rfl (by decide +kernel) ⟨Nat.le_of_ble_eq_true rfl, Nat.le_of_ble_eq_true rfl⟩) (pV hS hAlo hlo hP hK (va_Dlo hD hAlo) hZ [2, 3, 4, 6] (by decide) rfl (ci := 8) (q := (RX8, TX8, 44)) (q0 := 0) rfl rfl) rfl rfl hl.1 rfl (lv_room (Nat.le_of_ble_eq_true rfl)) dX8_boy_153 ⟨Nat.le_of_ble_eq_true rfl, Nat.le_of_ble_eq_true rfl⟩) hS hA hP (fun r_21 H locs hw_21 hP hS => ?_)
            try dsimp only at hw_21
            refine lv_icmp_ge (tgt := 163) hx hb dX8_boy_156 (by decide) (fun c_22 => ?_) (fun c_22 => ?_)
            · refine lv_iconst (v := 0) hx hb dX8_boy_163 (by decide) ?_
              refine lv_istore (lv' := [(6, .int 0), (5, .int (nI (kk_7 / 2))), (4, .int (nI kk_7)), (3, .int (nI q_6)), (2, .int (nI (dn j_2))), (0, .ref (a 0)), (1, .int (nI j_2))]) hx hb dX8_boy_164 hl (by decide) rfl (fun ls hl => ?_)
              refine lv_aload_n hx hb dX8_boy_166 rfl (lv_at hl 5 rfl) ?_
              refine va_get (D := D) (ci := 8) (v := .ref (a 33)) (C := RX8) (T := TX8) (N := 44) hx hb hts inX8 hown hK hP 2 rfl rfl 32 (by decide) (hts _ tw_1005) (fun _ h9 => h9) rfl dX8_boy_167 ?_
              refine lv_iconst (v := 2) hx hb dX8_boy_170 (by decide) ?_
              refine lv_iload hx hb dX8_boy_171 (lv_at hl 0 rfl) ?_
              refine lv_if_eq (tgt := 180) hx hb dX8_boy_173 (by decide) (fun _ => ?_) (fun h => absurd (by decide) h)
              refine lv_iload hx hb dX8_boy_180 (lv_at hl 1 rfl) ?_
              refine lv_imul hx hb dX8_boy_182 ?_
              refine lv_ti (y := (nI (2 * (kk_7 / 2)))) (pk_mul 2 (kk_7 / 2)) ?_
              refine lv_iconst (v := 1) hx hb dX8_boy_183 (by decide) ?_
              refine lv_iadd hx hb dX8_boy_184 ?_
              refine lv_ti (y := (nI (2 * (kk_7 / 2) + 1))) (nI_add (2 * (kk_7 / 2)) 1) ?_
              refine va_iald hx hb hK hP 0 1 rfl rfl (vp_in_nI (by omega) (by decide)) dX8_boy_185 ?_
              refine lv_ti (y := (fb_6 (2 * (kk_7 / 2) + 1))) (by rw [nI_clamp (by omega)]) ?_
              refine lv_istore (lv' := [(7, .int (fb_6 (2 * (kk_7 / 2) + 1))), (6, .int 0), (5, .int (nI (kk_7 / 2))), (4, .int (nI kk_7)), (3, .int (nI q_6)), (2, .int (nI (dn j_2))), (0, .ref (a 0)), (1, .int (nI j_2))]) hx hb dX8_boy_186 hl (by decide) rfl (fun ls hl => ?_)
              refine lv_aload_n hx hb dX8_boy_188 rfl (lv_at hl 6 rfl) ?_
              refine va_get (D := D) (ci := 8) (v := .ref (a 34)) (C := RX8) (T := TX8) (N := 44) hx hb hts inX8 hown hK hP 2 rfl rfl 33 (by decide) (hts _ tw_1006) (fun _ h9 => h9) rfl dX8_boy_189 ?_
              refine lv_iload hx hb dX8_boy_192 (lv_at hl 3 rfl) ?_
              refine lv_aload_n hx hb dX8_boy_194 rfl (lv_at hl 6 rfl) ?_
              refine lv_iload_n hx hb dX8_boy_195 rfl (lv_at hl 7 rfl) ?_
              refine lv_iload_n hx hb dX8_boy_196 rfl (lv_at hl 4 rfl) ?_
              refine lv_iload hx hb dX8_boy_197 (lv_at hl 3 rfl) ?_
              refine lv_iconst (v := 2) hx hb dX8_boy_199 (by decide) ?_
              refine lv_irem hx hb dX8_boy_200 (by decide) ?_
              refine lv_ti (y := (nI (kk_7 % 2))) (pk_rem (by omega) (by decide) (by decide)) ?_
              refine lv_iconst (v := 1) hx hb dX8_boy_201 (by decide) ?_
              refine lv_icmp_ne (tgt := 209) hx hb dX8_boy_202 (by decide) (fun c_23 => ?_) (fun c_23 => ?_)
              · have c_23 : ¬ ((kk_7 % 2) = 1) := fun h => c_23 ((nI_eq (a := (kk_7 % 2)) (b := 1) (by omega) (by omega)).mpr h)
                refine lv_iconst (v := 0) hx hb dX8_boy_209 (by decide) ?_
                refine ro_i (D := D) (va_runV (As := [.int (nI j_2), .int (nI q_6), .int 0]) (rest := [.int (nI kk_7), .ref (a 34)]) ⟨hx, hb, hml, hown, hts⟩ ((m_chanceOf l D k st lo a tx t0 we rd ru rw ca fp wd nu na ts df db sd ffrees se tm gs j_2 q_6 0 (by omega) (by omega)) H.size) (cwV 3 hts (gV tw_1210 tw_1212 tw_41 tw_87 tw_1213) rfl rfl rfl (by decide +kernel) ⟨Nat.le_of_ble_eq_true rfl, Nat.le_of_ble_eq_true rfl⟩) (pV hS hAlo hlo hP hK (va_Dlo hD hAlo) hZ [2, 5, 4] (by decide) rfl (ci := 8) (q := (RX8, TX8, 44)) (q0 := 0) rfl rfl) rfl rfl hl.1 rfl (lv_room (Nat.le_of_ble_eq_true rfl)) dX8_boy_210 ⟨Nat.le_of_ble_eq_true rfl, Nat.le_of_ble_eq_true rfl⟩) hS hA hP (fun r_24 H locs hw_24 hP hS => ?_)
                try dsimp only at hw_24
                refine lv_iload hx hb dX8_boy_213 (lv_at hl 0 rfl) ?_
                refine lv_aload_n hx hb dX8_boy_215 rfl (lv_at hl 6 rfl) ?_
                refine va_get (D := D) (ci := 8) (v := .ref (a 33)) (C := RX8) (T := TX8) (N := 44) hx hb hts inX8 hown hK hP 2 rfl rfl 32 (by decide) (hts _ tw_1005) (fun _ h9 => h9) rfl dX8_boy_216 ?_
                refine lv_iconst (v := 2) hx hb dX8_boy_219 (by decide) ?_
                refine lv_iload hx hb dX8_boy_220 (lv_at hl 2 rfl) ?_
                refine lv_imul hx hb dX8_boy_222 ?_
                refine lv_ti (y := (nI (2 * (kk_7 / 2)))) (pk_mul 2 (kk_7 / 2)) ?_
                refine va_iald hx hb hK hP 0 1 rfl rfl (vp_in_nI (by omega) (by decide)) dX8_boy_223 ?_
                refine lv_ti (y := (fb_6 (2 * (kk_7 / 2)))) (by rw [nI_clamp (by omega)]) ?_
                refine ro_i (D := D) (va_runS (As := [.int r_24, .int (fb_6 (2 * (kk_7 / 2) + 1)), .int (fb_6 (2 * (kk_7 / 2)))]) (rest := [.int (nI kk_7), .ref (a 34)]) ⟨hx, hb, hml, hown, hts⟩ ((m_mixed l D k st lo r_24 (fb_6 (2 * (kk_7 / 2) + 1)) (fb_6 (2 * (kk_7 / 2)))) H.size) (va_cwS 3 hts (gS tw_1269 tw_1270 tw_87 tw_1271) rfl rfl rfl (by decide +kernel) ⟨Nat.le_of_ble_eq_true rfl, Nat.le_of_ble_eq_true rfl⟩) (pS hS hAlo hlo hP hK (va_Dlo hD hAlo) hZ [] (by decide) rfl) rfl rfl hl.1 rfl (lv_room (Nat.le_of_ble_eq_true rfl)) dX8_boy_224 ⟨Nat.le_of_ble_eq_true rfl, Nat.le_of_ble_eq_true rfl⟩) hS hA hP (fun r_25 H locs hw_25 hP hS => ?_)
                try dsimp only at hw_25
                refine va_iast hx hb hK hP hD hS 1 1 rfl rfl (vp_in_nI (by omega) (by decide)) dX8_boy_227 (fun H locs hP hD hS => ?_)
                replace hP : va_P D classes [(aI k (a 33) 50 fb_6), (aI k (a 34) 50 (upd fn_7 (Int32.toNatClampNeg (nI kk_7)) r_25)), ((a 0), .inr (8, (fX8 a (nI tx) fp (nI t0) wd (nI we) nu na (nI rd) ts (nI ru) (nI rw) (nI ca) df db sd))), (aI k (a 1) 3 (nF dn)), (aI k (a 4) 27 (sg se tm gs)), (aI k (a 2) 72 ffrees), (aI k (a 3) 72 fprices), (aI k (a 18) 768 fons__3), (aI k (a 19) 768 fworths__3), (aI k (a 20) 5 fstarts__3), (aI k (a 21) 4 fends__3), (aZ k (a 22) 4 fgoesRound__3), (aI k (a 23) 8 fbegin__3)] H := hP
                replace hD : va_D A [(aI k (a 33) 50 fb_6), (aI k (a 34) 50 (upd fn_7 (Int32.toNatClampNeg (nI kk_7)) r_25)), ((a 0), .inr (8, (fX8 a (nI tx) fp (nI t0) wd (nI we) nu na (nI rd) ts (nI ru) (nI rw) (nI ca) df db sd))), (aI k (a 1) 3 (nF dn)), (aI k (a 4) 27 (sg se tm gs)), (aI k (a 2) 72 ffrees), (aI k (a 3) 72 fprices), (aI k (a 18) 768 fons__3), (aI k (a 19) 768 fworths__3), (aI k (a 20) 5 fstarts__3), (aI k (a 21) 4 fends__3), (aZ k (a 22) 4 fgoesRound__3), (aI k (a 23) 8 fbegin__3)] := hD
                generalize (upd fn_7 (Int32.toNatClampNeg (nI kk_7)) r_25) = f_26 at hP hD
                refine lv_iinc (v := (nI (kk_7 + 1))) (lv' := [(4, .int (nI (kk_7 + 1))), (7, .int (fb_6 (2 * (kk_7 / 2) + 1))), (6, .int 0), (5, .int (nI (kk_7 / 2))), (3, .int (nI q_6)), (2, .int (nI (dn j_2))), (0, .ref (a 0)), (1, .int (nI j_2))]) hx hb dX8_boy_228 hl (k := 3) rfl (nI_add kk_7 1) (by decide) rfl (fun ls hl => ?_)
                refine lv_goto (tgt := 122) hx hb dX8_boy_231 (by decide) ?_
                exact ih_7 _ (kk_7 + 1, f_26) _ _ _ (by omega) ⟨rfl, (by omega), hP, hD, hS, (lv_sub hl [0, 4, 5, 6, 7] rfl)⟩
              · have c_23 := (nI_eq (a := (kk_7 % 2)) (b := 1) (by omega) (by omega)).mp c_23
                refine lv_iconst (v := 1) hx hb dX8_boy_205 (by decide) ?_
                refine lv_goto (tgt := 210) hx hb dX8_boy_206 (by decide) ?_
                refine ro_i (D := D) (va_runV (As := [.int (nI j_2), .int (nI q_6), .int 1]) (rest := [.int (nI kk_7), .ref (a 34)]) ⟨hx, hb, hml, hown, hts⟩ ((m_chanceOf l D k st lo a tx t0 we rd ru rw ca fp wd nu na ts df db sd ffrees se tm gs j_2 q_6 1 (by omega) (by omega)) H.size) (cwV 3 hts (gV tw_1210 tw_1212 tw_41 tw_87 tw_1213) rfl rfl rfl (by decide +kernel) ⟨Nat.le_of_ble_eq_true rfl, Nat.le_of_ble_eq_true rfl⟩) (pV hS hAlo hlo hP hK (va_Dlo hD hAlo) hZ [2, 5, 4] (by decide) rfl (ci := 8) (q := (RX8, TX8, 44)) (q0 := 0) rfl rfl) rfl rfl hl.1 rfl (lv_room (Nat.le_of_ble_eq_true rfl)) dX8_boy_210 ⟨Nat.le_of_ble_eq_true rfl, Nat.le_of_ble_eq_true rfl⟩) hS hA hP (fun r_27 H locs hw_27 hP hS => ?_)
                try dsimp only at hw_27
                refine lv_iload hx hb dX8_boy_213 (lv_at hl 0 rfl) ?_
                refine lv_aload_n hx hb dX8_boy_215 rfl (lv_at hl 6 rfl) ?_
                refine va_get (D := D) (ci := 8) (v := .ref (a 33)) (C := RX8) (T := TX8) (N := 44) hx hb hts inX8 hown hK hP 2 rfl rfl 32 (by decide) (hts _ tw_1005) (fun _ h9 => h9) rfl dX8_boy_216 ?_
                refine lv_iconst (v := 2) hx hb dX8_boy_219 (by decide) ?_
                refine lv_iload hx hb dX8_boy_220 (lv_at hl 2 rfl) ?_
                refine lv_imul hx hb dX8_boy_222 ?_
                refine lv_ti (y := (nI (2 * (kk_7 / 2)))) (pk_mul 2 (kk_7 / 2)) ?_
                refine va_iald hx hb hK hP 0 1 rfl rfl (vp_in_nI (by omega) (by decide)) dX8_boy_223 ?_
                refine lv_ti (y := (fb_6 (2 * (kk_7 / 2)))) (by rw [nI_clamp (by omega)]) ?_
                refine ro_i (D := D) (va_runS (As := [.int r_27, .int (fb_6 (2 * (kk_7 / 2) + 1)), .int (fb_6 (2 * (kk_7 / 2)))]) (rest := [.int (nI kk_7), .ref (a 34)]) ⟨hx, hb, hml, hown, hts⟩ ((m_mixed l D k st lo r_27 (fb_6 (2 * (kk_7 / 2) + 1)) (fb_6 (2 * (kk_7 / 2)))) H.size) (va_cwS 3 hts (gS tw_1269 tw_1270 tw_87 tw_1271) rfl rfl rfl (by decide +kernel) ⟨Nat.le_of_ble_eq_true rfl, Nat.le_of_ble_eq_true rfl⟩) (pS hS hAlo hlo hP hK (va_Dlo hD hAlo) hZ [] (by decide) rfl) rfl rfl hl.1 rfl (lv_room (Nat.le_of_ble_eq_true rfl)) dX8_boy_224 ⟨Nat.le_of_ble_eq_true rfl, Nat.le_of_ble_eq_true rfl⟩) hS hA hP (fun r_28 H locs hw_28 hP hS => ?_)
                try dsimp only at hw_28
                refine va_iast hx hb hK hP hD hS 1 1 rfl rfl (vp_in_nI (by omega) (by decide)) dX8_boy_227 (fun H locs hP hD hS => ?_)
                replace hP : va_P D classes [(aI k (a 33) 50 fb_6), (aI k (a 34) 50 (upd fn_7 (Int32.toNatClampNeg (nI kk_7)) r_28)), ((a 0), .inr (8, (fX8 a (nI tx) fp (nI t0) wd (nI we) nu na (nI rd) ts (nI ru) (nI rw) (nI ca) df db sd))), (aI k (a 1) 3 (nF dn)), (aI k (a 4) 27 (sg se tm gs)), (aI k (a 2) 72 ffrees), (aI k (a 3) 72 fprices), (aI k (a 18) 768 fons__3), (aI k (a 19) 768 fworths__3), (aI k (a 20) 5 fstarts__3), (aI k (a 21) 4 fends__3), (aZ k (a 22) 4 fgoesRound__3), (aI k (a 23) 8 fbegin__3)] H := hP
                replace hD : va_D A [(aI k (a 33) 50 fb_6), (aI k (a 34) 50 (upd fn_7 (Int32.toNatClampNeg (nI kk_7)) r_28)), ((a 0), .inr (8, (fX8 a (nI tx) fp (nI t0) wd (nI we) nu na (nI rd) ts (nI ru) (nI rw) (nI ca) df db sd))), (aI k (a 1) 3 (nF dn)), (aI k (a 4) 27 (sg se tm gs)), (aI k (a 2) 72 ffrees), (aI k (a 3) 72 fprices), (aI k (a 18) 768 fons__3), (aI k (a 19) 768 fworths__3), (aI k (a 20) 5 fstarts__3), (aI k (a 21) 4 fends__3), (aZ k (a 22) 4 fgoesRound__3), (aI k (a 23) 8 fbegin__3)] := hD
                generalize (upd fn_7 (Int32.toNatClampNeg (nI kk_7)) r_28) = f_29 at hP hD
                refine lv_iinc (v := (nI (kk_7 + 1))) (lv' := [(4, .int (nI (kk_7 + 1))), (7, .int (fb_6 (2 * (kk_7 / 2) + 1))), (6, .int 0), (5, .int (nI (kk_7 / 2))), (3, .int (nI q_6)), (2, .int (nI (dn j_2))), (0, .ref (a 0)), (1, .int (nI j_2))]) hx hb dX8_boy_228 hl (k := 3) rfl (nI_add kk_7 1) (by decide) rfl (fun ls hl => ?_)
                refine lv_goto (tgt := 122) hx hb dX8_boy_231 (by decide) ?_
                exact ih_7 _ (kk_7 + 1, f_29) _ _ _ (by omega) ⟨rfl, (by omega), hP, hD, hS, (lv_sub hl [0, 4, 5, 6, 7] rfl)⟩
            · refine lv_iconst (v := 1) hx hb dX8_boy_159 (by decide) ?_
              refine lv_goto (tgt := 164) hx hb dX8_boy_160 (by decide) ?_
              refine lv_istore (lv' := [(6, .int 1), (5, .int (nI (kk_7 / 2))), (4, .int (nI kk_7)), (3, .int (nI q_6)), (2, .int (nI (dn j_2))), (0, .ref (a 0)), (1, .int (nI j_2))]) hx hb dX8_boy_164 hl (by decide) rfl (fun ls hl => ?_)
              refine lv_aload_n hx hb dX8_boy_166 rfl (lv_at hl 5 rfl) ?_
              refine va_get (D := D) (ci := 8) (v := .ref (a 33)) (C := RX8) (T := TX8) (N := 44) hx hb hts inX8 hown hK hP 2 rfl rfl 32 (by decide) (hts _ tw_1005) (fun _ h9 => h9) rfl dX8_boy_167 ?_
              refine lv_iconst (v := 2) hx hb dX8_boy_170 (by decide) ?_
              refine lv_iload hx hb dX8_boy_171 (lv_at hl 0 rfl) ?_
              refine lv_if_eq (tgt := 180) hx hb dX8_boy_173 (by decide) (fun h => absurd h (by decide)) (fun _ => ?_)
              refine lv_iload_n hx hb dX8_boy_176 rfl (lv_at hl 3 rfl) ?_
              refine lv_goto (tgt := 182) hx hb dX8_boy_177 (by decide) ?_
              refine lv_imul hx hb dX8_boy_182 ?_
              refine lv_ti (y := (nI (2 * q_6))) (pk_mul 2 q_6) ?_
              refine lv_iconst (v := 1) hx hb dX8_boy_183 (by decide) ?_
              refine lv_iadd hx hb dX8_boy_184 ?_
              refine lv_ti (y := (nI (2 * q_6 + 1))) (nI_add (2 * q_6) 1) ?_
              refine va_iald hx hb hK hP 0 1 rfl rfl (vp_in_nI (by omega) (by decide)) dX8_boy_185 ?_
              refine lv_ti (y := (fb_6 (2 * q_6 + 1))) (by rw [nI_clamp (by omega)]) ?_
              refine lv_istore (lv' := [(7, .int (fb_6 (2 * q_6 + 1))), (6, .int 1), (5, .int (nI (kk_7 / 2))), (4, .int (nI kk_7)), (3, .int (nI q_6)), (2, .int (nI (dn j_2))), (0, .ref (a 0)), (1, .int (nI j_2))]) hx hb dX8_boy_186 hl (by decide) rfl (fun ls hl => ?_)
              refine lv_aload_n hx hb dX8_boy_188 rfl (lv_at hl 6 rfl) ?_
              refine va_get (D := D) (ci := 8) (v := .ref (a 34)) (C := RX8) (T := TX8) (N := 44) hx hb hts inX8 hown hK hP 2 rfl rfl 33 (by decide) (hts _ tw_1006) (fun _ h9 => h9) rfl dX8_boy_189 ?_
              refine lv_iload hx hb dX8_boy_192 (lv_at hl 3 rfl) ?_
              refine lv_aload_n hx hb dX8_boy_194 rfl (lv_at hl 6 rfl) ?_
              refine lv_iload_n hx hb dX8_boy_195 rfl (lv_at hl 7 rfl) ?_
              refine lv_iload_n hx hb dX8_boy_196 rfl (lv_at hl 4 rfl) ?_
              refine lv_iload hx hb dX8_boy_197 (lv_at hl 3 rfl) ?_
              refine lv_iconst (v := 2) hx hb dX8_boy_199 (by decide) ?_
              refine lv_irem hx hb dX8_boy_200 (by decide) ?_
              refine lv_ti (y := (nI (kk_7 % 2))) (pk_rem (by omega) (by decide) (by decide)) ?_
              refine lv_iconst (v := 1) hx hb dX8_boy_201 (by decide) ?_
              refine lv_icmp_ne (tgt := 209) hx hb dX8_boy_202 (by decide) (fun c_30 => ?_) (fun c_30 => ?_)
              · have c_30 : ¬ ((kk_7 % 2) = 1) := fun h => c_30 ((nI_eq (a := (kk_7 % 2)) (b := 1) (by omega) (by omega)).mpr h)
                refine lv_iconst (v := 0) hx hb dX8_boy_209 (by decide) ?_
                refine ro_i (D := D) (va_runV (As := [.int (nI j_2), .int (nI q_6), .int 0]) (rest := [.int (nI kk_7), .ref (a 34)]) ⟨hx, hb, hml, hown, hts⟩ ((m_chanceOf l D k st lo a tx t0 we rd ru rw ca fp wd nu na ts df db sd ffrees se tm gs j_2 q_6 0 (by omega) (by omega)) H.size) (cwV 3 hts (gV tw_1210 tw_1212 tw_41 tw_87 tw_1213) rfl rfl rfl (by decide +kernel) ⟨Nat.le_of_ble_eq_true rfl, Nat.le_of_ble_eq_true rfl⟩) (pV hS hAlo hlo hP hK (va_Dlo hD hAlo) hZ [2, 5, 4] (by decide) rfl (ci := 8) (q := (RX8, TX8, 44)) (q0 := 0) rfl rfl) rfl rfl hl.1 rfl (lv_room (Nat.le_of_ble_eq_true rfl)) dX8_boy_210 ⟨Nat.le_of_ble_eq_true rfl, Nat.le_of_ble_eq_true rfl⟩) hS hA hP (fun r_31 H locs hw_31 hP hS => ?_)
                try dsimp only at hw_31
                refine lv_iload hx hb dX8_boy_213 (lv_at hl 0 rfl) ?_
                refine lv_aload_n hx hb dX8_boy_215 rfl (lv_at hl 6 rfl) ?_
                refine va_get (D := D) (ci := 8) (v := .ref (a 33)) (C := RX8) (T := TX8) (N := 44) hx hb hts inX8 hown hK hP 2 rfl rfl 32 (by decide) (hts _ tw_1005) (fun _ h9 => h9) rfl dX8_boy_216 ?_
                refine lv_iconst (v := 2) hx hb dX8_boy_219 (by decide) ?_
                refine lv_iload hx hb dX8_boy_220 (lv_at hl 2 rfl) ?_
                refine lv_imul hx hb dX8_boy_222 ?_
                refine lv_ti (y := (nI (2 * (kk_7 / 2)))) (pk_mul 2 (kk_7 / 2)) ?_
                refine va_iald hx hb hK hP 0 1 rfl rfl (vp_in_nI (by omega) (by decide)) dX8_boy_223 ?_
                refine lv_ti (y := (fb_6 (2 * (kk_7 / 2)))) (by rw [nI_clamp (by omega)]) ?_
                refine ro_i (D := D) (va_runS (As := [.int r_31, .int (fb_6 (2 * q_6 + 1)), .int (fb_6 (2 * (kk_7 / 2)))]) (rest := [.int (nI kk_7), .ref (a 34)]) ⟨hx, hb, hml, hown, hts⟩ ((m_mixed l D k st lo r_31 (fb_6 (2 * q_6 + 1)) (fb_6 (2 * (kk_7 / 2)))) H.size) (va_cwS 3 hts (gS tw_1269 tw_1270 tw_87 tw_1271) rfl rfl rfl (by decide +kernel) ⟨Nat.le_of_ble_eq_true rfl, Nat.le_of_ble_eq_true rfl⟩) (pS hS hAlo hlo hP hK (va_Dlo hD hAlo) hZ [] (by decide) rfl) rfl rfl hl.1 rfl (lv_room (Nat.le_of_ble_eq_true rfl)) dX8_boy_224 ⟨Nat.le_of_ble_eq_true rfl, Nat.le_of_ble_eq_true rfl⟩) hS hA hP (fun r_32 H locs hw_32 hP hS => ?_)
                try dsimp only at hw_32
                refine va_iast hx hb hK hP hD hS 1 1 rfl rfl (vp_in_nI (by omega) (by decide)) dX8_boy_227 (fun H locs hP hD hS => ?_)
                replace hP : va_P D classes [(aI k (a 33) 50 fb_6), (aI k (a 34) 50 (upd fn_7 (Int32.toNatClampNeg (nI kk_7)) r_32)), ((a 0), .inr (8, (fX8 a (nI tx) fp (nI t0) wd (nI we) nu na (nI rd) ts (nI ru) (nI rw) (nI ca) df db sd))), (aI k (a 1) 3 (nF dn)), (aI k (a 4) 27 (sg se tm gs)), (aI k (a 2) 72 ffrees), (aI k (a 3) 72 fprices), (aI k (a 18) 768 fons__3), (aI k (a 19) 768 fworths__3), (aI k (a 20) 5 fstarts__3), (aI k (a 21) 4 fends__3), (aZ k (a 22) 4 fgoesRound__3), (aI k (a 23) 8 fbegin__3)] H := hP
                replace hD : va_D A [(aI k (a 33) 50 fb_6), (aI k (a 34) 50 (upd fn_7 (Int32.toNatClampNeg (nI kk_7)) r_32)), ((a 0), .inr (8, (fX8 a (nI tx) fp (nI t0) wd (nI we) nu na (nI rd) ts (nI ru) (nI rw) (nI ca) df db sd))), (aI k (a 1) 3 (nF dn)), (aI k (a 4) 27 (sg se tm gs)), (aI k (a 2) 72 ffrees), (aI k (a 3) 72 fprices), (aI k (a 18) 768 fons__3), (aI k (a 19) 768 fworths__3), (aI k (a 20) 5 fstarts__3), (aI k (a 21) 4 fends__3), (aZ k (a 22) 4 fgoesRound__3), (aI k (a 23) 8 fbegin__3)] := hD
                generalize (upd fn_7 (Int32.toNatClampNeg (nI kk_7)) r_32) = f_33 at hP hD
                refine lv_iinc (v := (nI (kk_7 + 1))) (lv' := [(4, .int (nI (kk_7 + 1))), (7, .int (fb_6 (2 * q_6 + 1))), (6, .int 1), (5, .int (nI (kk_7 / 2))), (3, .int (nI q_6)), (2, .int (nI (dn j_2))), (0, .ref (a 0)), (1, .int (nI j_2))]) hx hb dX8_boy_228 hl (k := 3) rfl (nI_add kk_7 1) (by decide) rfl (fun ls hl => ?_)
                refine lv_goto (tgt := 122) hx hb dX8_boy_231 (by decide) ?_
                exact ih_7 _ (kk_7 + 1, f_33) _ _ _ (by omega) ⟨rfl, (by omega), hP, hD, hS, (lv_sub hl [0, 4, 5, 6, 7] rfl)⟩
              · have c_30 := (nI_eq (a := (kk_7 % 2)) (b := 1) (by omega) (by omega)).mp c_30
                refine lv_iconst (v := 1) hx hb dX8_boy_205 (by decide) ?_
                refine lv_goto (tgt := 210) hx hb dX8_boy_206 (by decide) ?_
                refine ro_i (D := D) (va_runV (As := [.int (nI j_2), .int (nI q_6), .int 1]) (rest := [.int (nI kk_7), .ref (a 34)]) ⟨hx, hb, hml, hown, hts⟩ ((m_chanceOf l D k st lo a tx t0 we rd ru rw ca fp wd nu na ts df db sd ffrees se tm gs j_2 q_6 1 (by omega) (by omega)) H.size) (cwV 3 hts (gV tw_1210 tw_1212 tw_41 tw_87 tw_1213) rfl rfl rfl (by decide +kernel) ⟨Nat.le_of_ble_eq_true rfl, Nat.le_of_ble_eq_true rfl⟩) (pV hS hAlo hlo hP hK (va_Dlo hD hAlo) hZ [2, 5, 4] (by decide) rfl (ci := 8) (q := (RX8, TX8, 44)) (q0 := 0) rfl rfl) rfl rfl hl.1 rfl (lv_room (Nat.le_of_ble_eq_true rfl)) dX8_boy_210 ⟨Nat.le_of_ble_eq_true rfl, Nat.le_of_ble_eq_true rfl⟩) hS hA hP (fun r_34 H locs hw_34 hP hS => ?_)
                try dsimp only at hw_34
                refine lv_iload hx hb dX8_boy_213 (lv_at hl 0 rfl) ?_
                refine lv_aload_n hx hb dX8_boy_215 rfl (lv_at hl 6 rfl) ?_
                refine va_get (D := D) (ci := 8) (v := .ref (a 33)) (C := RX8) (T := TX8) (N := 44) hx hb hts inX8 hown hK hP 2 rfl rfl 32 (by decide) (hts _ tw_1005) (fun _ h9 => h9) rfl dX8_boy_216 ?_
                refine lv_iconst (v := 2) hx hb dX8_boy_219 (by decide) ?_
                refine lv_iload hx hb dX8_boy_220 (lv_at hl 2 rfl) ?_
                refine lv_imul hx hb dX8_boy_222 ?_
                refine lv_ti (y := (nI (2 * (kk_7 / 2)))) (pk_mul 2 (kk_7 / 2)) ?_
                refine va_iald hx hb hK hP 0 1 rfl rfl (vp_in_nI (by omega) (by decide)) dX8_boy_223 ?_
                refine lv_ti (y := (fb_6 (2 * (kk_7 / 2)))) (by rw [nI_clamp (by omega)]) ?_
                refine ro_i (D := D) (va_runS (As := [.int r_34, .int (fb_6 (2 * q_6 + 1)), .int (fb_6 (2 * (kk_7 / 2)))]) (rest := [.int (nI kk_7), .ref (a 34)]) ⟨hx, hb, hml, hown, hts⟩ ((m_mixed l D k st lo r_34 (fb_6 (2 * q_6 + 1)) (fb_6 (2 * (kk_7 / 2)))) H.size) (va_cwS 3 hts (gS tw_1269 tw_1270 tw_87 tw_1271) rfl rfl rfl (by decide +kernel) ⟨Nat.le_of_ble_eq_true rfl, Nat.le_of_ble_eq_true rfl⟩) (pS hS hAlo hlo hP hK (va_Dlo hD hAlo) hZ [] (by decide) rfl) rfl rfl hl.1 rfl (lv_room (Nat.le_of_ble_eq_true rfl)) dX8_boy_224 ⟨Nat.le_of_ble_eq_true rfl, Nat.le_of_ble_eq_true rfl⟩) hS hA hP (fun r_35 H locs hw_35 hP hS => ?_)
                try dsimp only at hw_35
                refine va_iast hx hb hK hP hD hS 1 1 rfl rfl (vp_in_nI (by omega) (by decide)) dX8_boy_227 (fun H locs hP hD hS => ?_)
                replace hP : va_P D classes [(aI k (a 33) 50 fb_6), (aI k (a 34) 50 (upd fn_7 (Int32.toNatClampNeg (nI kk_7)) r_35)), ((a 0), .inr (8, (fX8 a (nI tx) fp (nI t0) wd (nI we) nu na (nI rd) ts (nI ru) (nI rw) (nI ca) df db sd))), (aI k (a 1) 3 (nF dn)), (aI k (a 4) 27 (sg se tm gs)), (aI k (a 2) 72 ffrees), (aI k (a 3) 72 fprices), (aI k (a 18) 768 fons__3), (aI k (a 19) 768 fworths__3), (aI k (a 20) 5 fstarts__3), (aI k (a 21) 4 fends__3), (aZ k (a 22) 4 fgoesRound__3), (aI k (a 23) 8 fbegin__3)] H := hP
                replace hD : va_D A [(aI k (a 33) 50 fb_6), (aI k (a 34) 50 (upd fn_7 (Int32.toNatClampNeg (nI kk_7)) r_35)), ((a 0), .inr (8, (fX8 a (nI tx) fp (nI t0) wd (nI we) nu na (nI rd) ts (nI ru) (nI rw) (nI ca) df db sd))), (aI k (a 1) 3 (nF dn)), (aI k (a 4) 27 (sg se tm gs)), (aI k (a 2) 72 ffrees), (aI k (a 3) 72 fprices), (aI k (a 18) 768 fons__3), (aI k (a 19) 768 fworths__3), (aI k (a 20) 5 fstarts__3), (aI k (a 21) 4 fends__3), (aZ k (a 22) 4 fgoesRound__3), (aI k (a 23) 8 fbegin__3)] := hD
                generalize (upd fn_7 (Int32.toNatClampNeg (nI kk_7)) r_35) = f_36 at hP hD
                refine lv_iinc (v := (nI (kk_7 + 1))) (lv' := [(4, .int (nI (kk_7 + 1))), (7, .int (fb_6 (2 * q_6 + 1))), (6, .int 1), (5, .int (nI (kk_7 / 2))), (3, .int (nI q_6)), (2, .int (nI (dn j_2))), (0, .ref (a 0)), (1, .int (nI j_2))]) hx hb dX8_boy_228 hl (k := 3) rfl (nI_add kk_7 1) (by decide) rfl (fun ls hl => ?_)
                refine lv_goto (tgt := 122) hx hb dX8_boy_231 (by decide) ?_
                exact ih_7 _ (kk_7 + 1, f_36) _ _ _ (by omega) ⟨rfl, (by omega), hP, hD, hS, (lv_sub hl [0, 4, 5, 6, 7] rfl)⟩
    · have c_5 : ¬ (50 ≤ kk_4) := fun h => c_5 ((nI_leI (a := 50) (b := kk_4) (by omega) (by omega)).mpr h)
      refine lv_iload_n hx hb dX8_boy_32 rfl (lv_at hl 0 rfl) ?_
      refine lv_iconst (v := 2) hx hb dX8_boy_33 (by decide) ?_
      refine lv_idiv hx hb dX8_boy_34 (by decide) ?_
      refine lv_ti (y := (nI (kk_4 / 2))) (pk_div (by omega) (by decide) (by decide)) ?_
      refine lv_istore (lv' := [(4, .int (nI (kk_4 / 2))), (3, .int (nI kk_4)), (2, .int (nI (dn j_2))), (0, .ref (a 0)), (1, .int (nI j_2))]) hx hb dX8_boy_35 hl (by decide) rfl (fun ls hl => ?_)
      refine lv_iload hx hb dX8_boy_37 (lv_at hl 0 rfl) ?_
      refine lv_iload_n hx hb dX8_boy_39 rfl (lv_at hl 2 rfl) ?_
      refine lv_icmp_ge (tgt := 74) hx hb dX8_boy_40 (by decide) (fun c_37 => ?_) (fun c_37 => ?_)
      · have c_37 := (nI_leI (a := (dn j_2)) (b := (kk_4 / 2)) (by omega) (by omega)).mp c_37
        refine lv_iconst (v := 0) hx hb dX8_boy_74 (by decide) ?_
        refine lv_istore (lv' := [(5, .int 0), (4, .int (nI (kk_4 / 2))), (3, .int (nI kk_4)), (2, .int (nI (dn j_2))), (0, .ref (a 0)), (1, .int (nI j_2))]) hx hb dX8_boy_75 hl (by decide) rfl (fun ls hl => ?_)
        refine lv_aload_n hx hb dX8_boy_77 rfl (lv_at hl 4 rfl) ?_
        refine va_get (D := D) (ci := 8) (v := .ref (a 33)) (C := RX8) (T := TX8) (N := 44) hx hb hts inX8 hown hK hP 2 rfl rfl 32 (by decide) (hts _ tw_1005) (fun _ h9 => h9) rfl dX8_boy_78 ?_
        refine lv_iload_n hx hb dX8_boy_81 rfl (lv_at hl 2 rfl) ?_
        refine lv_iload hx hb dX8_boy_82 (lv_at hl 0 rfl) ?_
        refine lv_if_eq (tgt := 98) hx hb dX8_boy_84 (by decide) (fun _ => ?_) (fun h => absurd (by decide) h)
        refine lv_aload_n hx hb dX8_boy_98 rfl (lv_at hl 4 rfl) ?_
        refine va_get (D := D) (ci := 8) (v := .ref (a 21)) (C := RX8) (T := TX8) (N := 44) hx hb hts inX8 hown hK hP 2 rfl rfl 20 (by decide) (hts _ tw_993) (fun _ h9 => h9) rfl dX8_boy_99 ?_
        refine lv_iconst (v := 0) hx hb dX8_boy_102 (by decide) ?_
        refine va_iald hx hb hK hP 10 1 rfl rfl (by unfold vp_in; decide) dX8_boy_103 ?_
        refine lv_ti (y := (fends__3 0)) (by rfl) ?_
        refine va_iast hx hb hK hP hD hS 0 1 rfl rfl (vp_in_nI (by omega) (by decide)) dX8_boy_104 (fun H locs hP hD hS => ?_)
        replace hP : va_P D classes [(aI k (a 33) 50 (upd fb_4 (Int32.toNatClampNeg (nI kk_4)) (fends__3 0))), (aI k (a 34) 50 fboysNext), ((a 0), .inr (8, (fX8 a (nI tx) fp (nI t0) wd (nI we) nu na (nI rd) ts (nI ru) (nI rw) (nI ca) df db sd))), (aI k (a 1) 3 (nF dn)), (aI k (a 4) 27 (sg se tm gs)), (aI k (a 2) 72 ffrees), (aI k (a 3) 72 fprices), (aI k (a 18) 768 fons__3), (aI k (a 19) 768 fworths__3), (aI k (a 20) 5 fstarts__3), (aI k (a 21) 4 fends__3), (aZ k (a 22) 4 fgoesRound__3), (aI k (a 23) 8 fbegin__3)] H := hP
        replace hD : va_D A [(aI k (a 33) 50 (upd fb_4 (Int32.toNatClampNeg (nI kk_4)) (fends__3 0))), (aI k (a 34) 50 fboysNext), ((a 0), .inr (8, (fX8 a (nI tx) fp (nI t0) wd (nI we) nu na (nI rd) ts (nI ru) (nI rw) (nI ca) df db sd))), (aI k (a 1) 3 (nF dn)), (aI k (a 4) 27 (sg se tm gs)), (aI k (a 2) 72 ffrees), (aI k (a 3) 72 fprices), (aI k (a 18) 768 fons__3), (aI k (a 19) 768 fworths__3), (aI k (a 20) 5 fstarts__3), (aI k (a 21) 4 fends__3), (aZ k (a 22) 4 fgoesRound__3), (aI k (a 23) 8 fbegin__3)] := hD
        generalize (upd fb_4 (Int32.toNatClampNeg (nI kk_4)) (fends__3 0)) = f_38 at hP hD
        refine lv_iinc (v := (nI (kk_4 + 1))) (lv' := [(3, .int (nI (kk_4 + 1))), (5, .int 0), (4, .int (nI (kk_4 / 2))), (2, .int (nI (dn j_2))), (0, .ref (a 0)), (1, .int (nI j_2))]) hx hb dX8_boy_105 hl (k := 2) rfl (nI_add kk_4 1) (by decide) rfl (fun ls hl => ?_)
        refine lv_goto (tgt := 26) hx hb dX8_boy_108 (by decide) ?_
        exact ih_4 _ (kk_4 + 1, f_38) _ _ _ (by omega) ⟨rfl, (by omega), hP, hD, hS, (lv_sub hl [0, 3, 4, 5] rfl)⟩
      · have c_37 : ¬ ((dn j_2) ≤ (kk_4 / 2)) := fun h => c_37 ((nI_leI (a := (dn j_2)) (b := (kk_4 / 2)) (by omega) (by omega)).mpr h)
        refine lv_aload_n hx hb dX8_boy_43 rfl (lv_at hl 3 rfl) ?_
        refine lv_iload_n hx hb dX8_boy_44 rfl (lv_at hl 4 rfl) ?_
        refine lv_iconst (v := 0) hx hb dX8_boy_45 (by decide) ?_
        refine lv_iload hx hb dX8_boy_46 (lv_at hl 0 rfl) ?_
        refine lv_iload_n hx hb dX8_boy_48 rfl (lv_at hl 2 rfl) ?_
        refine lv_icmp_ge (tgt := 57) hx hb dX8_boy_49 (by decide) (fun c_39 => ?_) (fun c_39 => ?_)
        · have c_39 := (nI_leI (a := (dn j_2)) (b := (kk_4 / 2)) (by omega) (by omega)).mp c_39
          refine lv_iconst (v := 0) hx hb dX8_boy_57 (by decide) ?_
          refine ro_i (D := D) (va_runV (As := [.int (nI j_2), .int 0, .int 0]) (rest := []) ⟨hx, hb, hml, hown, hts⟩ ((m_takingOf l D k st lo a tx t0 we rd ru rw ca fp wd nu na ts df db sd dn se tm gs fprices j_2 0 0 (by omega) (by omega)) H.size) (cwV 3 hts (gV tw_1222 tw_1224 tw_43 tw_87 tw_1225) rfl rfl rfl (by decide +kernel) ⟨Nat.le_of_ble_eq_true rfl, Nat.le_of_ble_eq_true rfl⟩) (pV hS hAlo hlo hP hK (va_Dlo hD hAlo) hZ [2, 3, 4, 6] (by decide) rfl (ci := 8) (q := (RX8, TX8, 44)) (q0 := 0) rfl rfl) rfl rfl hl.1 rfl (lv_room (Nat.le_of_ble_eq_true rfl)) dX8_boy_58 ⟨Nat.le_of_ble_eq_true rfl, Nat.le_of_ble_eq_true rfl⟩) hS hA hP (fun r_40 H locs hw_40 hP hS => ?_)
          try dsimp only at hw_40
          refine lv_aload_n hx hb dX8_boy_61 rfl (lv_at hl 3 rfl) ?_
          refine va_get (D := D) (ci := 8) (v := .ref (a 21)) (C := RX8) (T := TX8) (N := 44) hx hb hts inX8 hown hK hP 2 rfl rfl 20 (by decide) (hts _ tw_993) (fun _ h9 => h9) rfl dX8_boy_62 ?_
          refine lv_iconst (v := 0) hx hb dX8_boy_65 (by decide) ?_
          refine va_iald hx hb hK hP 10 1 rfl rfl (by unfold vp_in; decide) dX8_boy_66 ?_
          refine lv_ti (y := (fends__3 0)) (by rfl) ?_
          refine lv_icmp_ge (tgt := 74) hx hb dX8_boy_67 (by decide) (fun c_41 => ?_) (fun c_41 => ?_)
          · refine lv_iconst (v := 0) hx hb dX8_boy_74 (by decide) ?_
            refine lv_istore (lv' := [(5, .int 0), (4, .int (nI (kk_4 / 2))), (3, .int (nI kk_4)), (2, .int (nI (dn j_2))), (0, .ref (a 0)), (1, .int (nI j_2))]) hx hb dX8_boy_75 hl (by decide) rfl (fun ls hl => ?_)
            refine lv_aload_n hx hb dX8_boy_77 rfl (lv_at hl 4 rfl) ?_
            refine va_get (D := D) (ci := 8) (v := .ref (a 33)) (C := RX8) (T := TX8) (N := 44) hx hb hts inX8 hown hK hP 2 rfl rfl 32 (by decide) (hts _ tw_1005) (fun _ h9 => h9) rfl dX8_boy_78 ?_
            refine lv_iload_n hx hb dX8_boy_81 rfl (lv_at hl 2 rfl) ?_
            refine lv_iload hx hb dX8_boy_82 (lv_at hl 0 rfl) ?_
            refine lv_if_eq (tgt := 98) hx hb dX8_boy_84 (by decide) (fun _ => ?_) (fun h => absurd (by decide) h)
            refine lv_aload_n hx hb dX8_boy_98 rfl (lv_at hl 4 rfl) ?_
            refine va_get (D := D) (ci := 8) (v := .ref (a 21)) (C := RX8) (T := TX8) (N := 44) hx hb hts inX8 hown hK hP 2 rfl rfl 20 (by decide) (hts _ tw_993) (fun _ h9 => h9) rfl dX8_boy_99 ?_
            refine lv_iconst (v := 0) hx hb dX8_boy_102 (by decide) ?_
            refine va_iald hx hb hK hP 10 1 rfl rfl (by unfold vp_in; decide) dX8_boy_103 ?_
            refine lv_ti (y := (fends__3 0)) (by rfl) ?_
            refine va_iast hx hb hK hP hD hS 0 1 rfl rfl (vp_in_nI (by omega) (by decide)) dX8_boy_104 (fun H locs hP hD hS => ?_)
            replace hP : va_P D classes [(aI k (a 33) 50 (upd fb_4 (Int32.toNatClampNeg (nI kk_4)) (fends__3 0))), (aI k (a 34) 50 fboysNext), ((a 0), .inr (8, (fX8 a (nI tx) fp (nI t0) wd (nI we) nu na (nI rd) ts (nI ru) (nI rw) (nI ca) df db sd))), (aI k (a 1) 3 (nF dn)), (aI k (a 4) 27 (sg se tm gs)), (aI k (a 2) 72 ffrees), (aI k (a 3) 72 fprices), (aI k (a 18) 768 fons__3), (aI k (a 19) 768 fworths__3), (aI k (a 20) 5 fstarts__3), (aI k (a 21) 4 fends__3), (aZ k (a 22) 4 fgoesRound__3), (aI k (a 23) 8 fbegin__3)] H := hP
            replace hD : va_D A [(aI k (a 33) 50 (upd fb_4 (Int32.toNatClampNeg (nI kk_4)) (fends__3 0))), (aI k (a 34) 50 fboysNext), ((a 0), .inr (8, (fX8 a (nI tx) fp (nI t0) wd (nI we) nu na (nI rd) ts (nI ru) (nI rw) (nI ca) df db sd))), (aI k (a 1) 3 (nF dn)), (aI k (a 4) 27 (sg se tm gs)), (aI k (a 2) 72 ffrees), (aI k (a 3) 72 fprices), (aI k (a 18) 768 fons__3), (aI k (a 19) 768 fworths__3), (aI k (a 20) 5 fstarts__3), (aI k (a 21) 4 fends__3), (aZ k (a 22) 4 fgoesRound__3), (aI k (a 23) 8 fbegin__3)] := hD
            generalize (upd fb_4 (Int32.toNatClampNeg (nI kk_4)) (fends__3 0)) = f_42 at hP hD
            refine lv_iinc (v := (nI (kk_4 + 1))) (lv' := [(3, .int (nI (kk_4 + 1))), (5, .int 0), (4, .int (nI (kk_4 / 2))), (2, .int (nI (dn j_2))), (0, .ref (a 0)), (1, .int (nI j_2))]) hx hb dX8_boy_105 hl (k := 2) rfl (nI_add kk_4 1) (by decide) rfl (fun ls hl => ?_)
            refine lv_goto (tgt := 26) hx hb dX8_boy_108 (by decide) ?_
            exact ih_4 _ (kk_4 + 1, f_42) _ _ _ (by omega) ⟨rfl, (by omega), hP, hD, hS, (lv_sub hl [0, 3, 4, 5] rfl)⟩
          · refine lv_iconst (v := 1) hx hb dX8_boy_70 (by decide) ?_
            refine lv_goto (tgt := 75) hx hb dX8_boy_71 (by decide) ?_
            refine lv_istore (lv' := [(5, .int 1), (4, .int (nI (kk_4 / 2))), (3, .int (nI kk_4)), (2, .int (nI (dn j_2))), (0, .ref (a 0)), (1, .int (nI j_2))]) hx hb dX8_boy_75 hl (by decide) rfl (fun ls hl => ?_)
            refine lv_aload_n hx hb dX8_boy_77 rfl (lv_at hl 4 rfl) ?_
            refine va_get (D := D) (ci := 8) (v := .ref (a 33)) (C := RX8) (T := TX8) (N := 44) hx hb hts inX8 hown hK hP 2 rfl rfl 32 (by decide) (hts _ tw_1005) (fun _ h9 => h9) rfl dX8_boy_78 ?_
            refine lv_iload_n hx hb dX8_boy_81 rfl (lv_at hl 2 rfl) ?_
            refine lv_iload hx hb dX8_boy_82 (lv_at hl 0 rfl) ?_
            refine lv_if_eq (tgt := 98) hx hb dX8_boy_84 (by decide) (fun h => absurd h (by decide)) (fun _ => ?_)
            refine lv_aload_n hx hb dX8_boy_87 rfl (lv_at hl 4 rfl) ?_
            refine lv_iload_n hx hb dX8_boy_88 rfl (lv_at hl 5 rfl) ?_
            refine lv_iconst (v := 0) hx hb dX8_boy_89 (by decide) ?_
            refine lv_iload hx hb dX8_boy_90 (lv_at hl 1 rfl) ?_
            refine ro_i (D := D) (va_runV (As := [.int (nI j_2), .int 0, .int (nI (kk_4 / 2))]) (rest := [.int (nI kk_4), .ref (a 33)]) ⟨hx, hb, hml, hown, hts⟩ ((m_takingOf l D k st lo a tx t0 we rd ru rw ca fp wd nu na ts df db sd dn se tm gs fprices j_2 (kk_4 / 2) 0 (by omega) (by omega)) H.size) (cwV 3 hts (gV tw_1222 tw_1224 tw_43 tw_87 tw_1225) rfl rfl rfl (by decide +kernel) ⟨Nat.le_of_ble_eq_true rfl, Nat.le_of_ble_eq_true rfl⟩) (pV hS hAlo hlo hP hK (va_Dlo hD hAlo) hZ [2, 3, 4, 6] (by decide) rfl (ci := 8) (q := (RX8, TX8, 44)) (q0 := 0) rfl rfl) rfl rfl hl.1 rfl (lv_room (Nat.le_of_ble_eq_true rfl)) dX8_boy_92 ⟨Nat.le_of_ble_eq_true rfl, Nat.le_of_ble_eq_true rfl⟩) hS hA hP (fun r_43 H locs hw_43 hP hS => ?_)
            try dsimp only at hw_43
            refine lv_goto (tgt := 104) hx hb dX8_boy_95 (by decide) ?_
            refine va_iast hx hb hK hP hD hS 0 1 rfl rfl (vp_in_nI (by omega) (by decide)) dX8_boy_104 (fun H locs hP hD hS => ?_)
            replace hP : va_P D classes [(aI k (a 33) 50 (upd fb_4 (Int32.toNatClampNeg (nI kk_4)) r_43)), (aI k (a 34) 50 fboysNext), ((a 0), .inr (8, (fX8 a (nI tx) fp (nI t0) wd (nI we) nu na (nI rd) ts (nI ru) (nI rw) (nI ca) df db sd))), (aI k (a 1) 3 (nF dn)), (aI k (a 4) 27 (sg se tm gs)), (aI k (a 2) 72 ffrees), (aI k (a 3) 72 fprices), (aI k (a 18) 768 fons__3), (aI k (a 19) 768 fworths__3), (aI k (a 20) 5 fstarts__3), (aI k (a 21) 4 fends__3), (aZ k (a 22) 4 fgoesRound__3), (aI k (a 23) 8 fbegin__3)] H := hP
            replace hD : va_D A [(aI k (a 33) 50 (upd fb_4 (Int32.toNatClampNeg (nI kk_4)) r_43)), (aI k (a 34) 50 fboysNext), ((a 0), .inr (8, (fX8 a (nI tx) fp (nI t0) wd (nI we) nu na (nI rd) ts (nI ru) (nI rw) (nI ca) df db sd))), (aI k (a 1) 3 (nF dn)), (aI k (a 4) 27 (sg se tm gs)), (aI k (a 2) 72 ffrees), (aI k (a 3) 72 fprices), (aI k (a 18) 768 fons__3), (aI k (a 19) 768 fworths__3), (aI k (a 20) 5 fstarts__3), (aI k (a 21) 4 fends__3), (aZ k (a 22) 4 fgoesRound__3), (aI k (a 23) 8 fbegin__3)] := hD
            generalize (upd fb_4 (Int32.toNatClampNeg (nI kk_4)) r_43) = f_44 at hP hD
            refine lv_iinc (v := (nI (kk_4 + 1))) (lv' := [(3, .int (nI (kk_4 + 1))), (5, .int 1), (4, .int (nI (kk_4 / 2))), (2, .int (nI (dn j_2))), (0, .ref (a 0)), (1, .int (nI j_2))]) hx hb dX8_boy_105 hl (k := 2) rfl (nI_add kk_4 1) (by decide) rfl (fun ls hl => ?_)
            refine lv_goto (tgt := 26) hx hb dX8_boy_108 (by decide) ?_
            exact ih_4 _ (kk_4 + 1, f_44) _ _ _ (by omega) ⟨rfl, (by omega), hP, hD, hS, (lv_sub hl [0, 3, 4, 5] rfl)⟩
        · have c_39 : ¬ ((dn j_2) ≤ (kk_4 / 2)) := fun h => c_39 ((nI_leI (a := (dn j_2)) (b := (kk_4 / 2)) (by omega) (by omega)).mpr h)
          refine lv_iload hx hb dX8_boy_52 (lv_at hl 0 rfl) ?_
          refine lv_goto (tgt := 58) hx hb dX8_boy_54 (by decide) ?_
          refine ro_i (D := D) (va_runV (As := [.int (nI j_2), .int 0, .int (nI (kk_4 / 2))]) (rest := []) ⟨hx, hb, hml, hown, hts⟩ ((m_takingOf l D k st lo a tx t0 we rd ru rw ca fp wd nu na ts df db sd dn se tm gs fprices j_2 (kk_4 / 2) 0 (by omega) (by omega)) H.size) (cwV 3 hts (gV tw_1222 tw_1224 tw_43 tw_87 tw_1225) rfl rfl rfl (by decide +kernel) ⟨Nat.le_of_ble_eq_true rfl, Nat.le_of_ble_eq_true rfl⟩) (pV hS hAlo hlo hP hK (va_Dlo hD hAlo) hZ [2, 3, 4, 6] (by decide) rfl (ci := 8) (q := (RX8, TX8, 44)) (q0 := 0) rfl rfl) rfl rfl hl.1 rfl (lv_room (Nat.le_of_ble_eq_true rfl)) dX8_boy_58 ⟨Nat.le_of_ble_eq_true rfl, Nat.le_of_ble_eq_true rfl⟩) hS hA hP (fun r_45 H locs hw_45 hP hS => ?_)
          try dsimp only at hw_45
          refine lv_aload_n hx hb dX8_boy_61 rfl (lv_at hl 3 rfl) ?_
          refine va_get (D := D) (ci := 8) (v := .ref (a 21)) (C := RX8) (T := TX8) (N := 44) hx hb hts inX8 hown hK hP 2 rfl rfl 20 (by decide) (hts _ tw_993) (fun _ h9 => h9) rfl dX8_boy_62 ?_
          refine lv_iconst (v := 0) hx hb dX8_boy_65 (by decide) ?_
          refine va_iald hx hb hK hP 10 1 rfl rfl (by unfold vp_in; decide) dX8_boy_66 ?_
          refine lv_ti (y := (fends__3 0)) (by rfl) ?_
          refine lv_icmp_ge (tgt := 74) hx hb dX8_boy_67 (by decide) (fun c_46 => ?_) (fun c_46 => ?_)
          · refine lv_iconst (v := 0) hx hb dX8_boy_74 (by decide) ?_
            refine lv_istore (lv' := [(5, .int 0), (4, .int (nI (kk_4 / 2))), (3, .int (nI kk_4)), (2, .int (nI (dn j_2))), (0, .ref (a 0)), (1, .int (nI j_2))]) hx hb dX8_boy_75 hl (by decide) rfl (fun ls hl => ?_)
            refine lv_aload_n hx hb dX8_boy_77 rfl (lv_at hl 4 rfl) ?_
            refine va_get (D := D) (ci := 8) (v := .ref (a 33)) (C := RX8) (T := TX8) (N := 44) hx hb hts inX8 hown hK hP 2 rfl rfl 32 (by decide) (hts _ tw_1005) (fun _ h9 => h9) rfl dX8_boy_78 ?_
            refine lv_iload_n hx hb dX8_boy_81 rfl (lv_at hl 2 rfl) ?_
            refine lv_iload hx hb dX8_boy_82 (lv_at hl 0 rfl) ?_
            refine lv_if_eq (tgt := 98) hx hb dX8_boy_84 (by decide) (fun _ => ?_) (fun h => absurd (by decide) h)
            refine lv_aload_n hx hb dX8_boy_98 rfl (lv_at hl 4 rfl) ?_
            refine va_get (D := D) (ci := 8) (v := .ref (a 21)) (C := RX8) (T := TX8) (N := 44) hx hb hts inX8 hown hK hP 2 rfl rfl 20 (by decide) (hts _ tw_993) (fun _ h9 => h9) rfl dX8_boy_99 ?_
            refine lv_iconst (v := 0) hx hb dX8_boy_102 (by decide) ?_
            refine va_iald hx hb hK hP 10 1 rfl rfl (by unfold vp_in; decide) dX8_boy_103 ?_
            refine lv_ti (y := (fends__3 0)) (by rfl) ?_
            refine va_iast hx hb hK hP hD hS 0 1 rfl rfl (vp_in_nI (by omega) (by decide)) dX8_boy_104 (fun H locs hP hD hS => ?_)
            replace hP : va_P D classes [(aI k (a 33) 50 (upd fb_4 (Int32.toNatClampNeg (nI kk_4)) (fends__3 0))), (aI k (a 34) 50 fboysNext), ((a 0), .inr (8, (fX8 a (nI tx) fp (nI t0) wd (nI we) nu na (nI rd) ts (nI ru) (nI rw) (nI ca) df db sd))), (aI k (a 1) 3 (nF dn)), (aI k (a 4) 27 (sg se tm gs)), (aI k (a 2) 72 ffrees), (aI k (a 3) 72 fprices), (aI k (a 18) 768 fons__3), (aI k (a 19) 768 fworths__3), (aI k (a 20) 5 fstarts__3), (aI k (a 21) 4 fends__3), (aZ k (a 22) 4 fgoesRound__3), (aI k (a 23) 8 fbegin__3)] H := hP
            replace hD : va_D A [(aI k (a 33) 50 (upd fb_4 (Int32.toNatClampNeg (nI kk_4)) (fends__3 0))), (aI k (a 34) 50 fboysNext), ((a 0), .inr (8, (fX8 a (nI tx) fp (nI t0) wd (nI we) nu na (nI rd) ts (nI ru) (nI rw) (nI ca) df db sd))), (aI k (a 1) 3 (nF dn)), (aI k (a 4) 27 (sg se tm gs)), (aI k (a 2) 72 ffrees), (aI k (a 3) 72 fprices), (aI k (a 18) 768 fons__3), (aI k (a 19) 768 fworths__3), (aI k (a 20) 5 fstarts__3), (aI k (a 21) 4 fends__3), (aZ k (a 22) 4 fgoesRound__3), (aI k (a 23) 8 fbegin__3)] := hD
            generalize (upd fb_4 (Int32.toNatClampNeg (nI kk_4)) (fends__3 0)) = f_47 at hP hD
            refine lv_iinc (v := (nI (kk_4 + 1))) (lv' := [(3, .int (nI (kk_4 + 1))), (5, .int 0), (4, .int (nI (kk_4 / 2))), (2, .int (nI (dn j_2))), (0, .ref (a 0)), (1, .int (nI j_2))]) hx hb dX8_boy_105 hl (k := 2) rfl (nI_add kk_4 1) (by decide) rfl (fun ls hl => ?_)
            refine lv_goto (tgt := 26) hx hb dX8_boy_108 (by decide) ?_
            exact ih_4 _ (kk_4 + 1, f_47) _ _ _ (by omega) ⟨rfl, (by omega), hP, hD, hS, (lv_sub hl [0, 3, 4, 5] rfl)⟩
          · refine lv_iconst (v := 1) hx hb dX8_boy_70 (by decide) ?_
            refine lv_goto (tgt := 75) hx hb dX8_boy_71 (by decide) ?_
            refine lv_istore (lv' := [(5, .int 1), (4, .int (nI (kk_4 / 2))), (3, .int (nI kk_4)), (2, .int (nI (dn j_2))), (0, .ref (a 0)), (1, .int (nI j_2))]) hx hb dX8_boy_75 hl (by decide) rfl (fun ls hl => ?_)
            refine lv_aload_n hx hb dX8_boy_77 rfl (lv_at hl 4 rfl) ?_
            refine va_get (D := D) (ci := 8) (v := .ref (a 33)) (C := RX8) (T := TX8) (N := 44) hx hb hts inX8 hown hK hP 2 rfl rfl 32 (by decide) (hts _ tw_1005) (fun _ h9 => h9) rfl dX8_boy_78 ?_
            refine lv_iload_n hx hb dX8_boy_81 rfl (lv_at hl 2 rfl) ?_
            refine lv_iload hx hb dX8_boy_82 (lv_at hl 0 rfl) ?_
            refine lv_if_eq (tgt := 98) hx hb dX8_boy_84 (by decide) (fun h => absurd h (by decide)) (fun _ => ?_)
            refine lv_aload_n hx hb dX8_boy_87 rfl (lv_at hl 4 rfl) ?_
            refine lv_iload_n hx hb dX8_boy_88 rfl (lv_at hl 5 rfl) ?_
            refine lv_iconst (v := 0) hx hb dX8_boy_89 (by decide) ?_
            refine lv_iload hx hb dX8_boy_90 (lv_at hl 1 rfl) ?_
            refine ro_i (D := D) (va_runV (As := [.int (nI j_2), .int 0, .int (nI (kk_4 / 2))]) (rest := [.int (nI kk_4), .ref (a 33)]) ⟨hx, hb, hml, hown, hts⟩ ((m_takingOf l D k st lo a tx t0 we rd ru rw ca fp wd nu na ts df db sd dn se tm gs fprices j_2 (kk_4 / 2) 0 (by omega) (by omega)) H.size) (cwV 3 hts (gV tw_1222 tw_1224 tw_43 tw_87 tw_1225) rfl rfl rfl (by decide +kernel) ⟨Nat.le_of_ble_eq_true rfl, Nat.le_of_ble_eq_true rfl⟩) (pV hS hAlo hlo hP hK (va_Dlo hD hAlo) hZ [2, 3, 4, 6] (by decide) rfl (ci := 8) (q := (RX8, TX8, 44)) (q0 := 0) rfl rfl) rfl rfl hl.1 rfl (lv_room (Nat.le_of_ble_eq_true rfl)) dX8_boy_92 ⟨Nat.le_of_ble_eq_true rfl, Nat.le_of_ble_eq_true rfl⟩) hS hA hP (fun r_48 H locs hw_48 hP hS => ?_)
            try dsimp only at hw_48
            refine lv_goto (tgt := 104) hx hb dX8_boy_95 (by decide) ?_
            refine va_iast hx hb hK hP hD hS 0 1 rfl rfl (vp_in_nI (by omega) (by decide)) dX8_boy_104 (fun H locs hP hD hS => ?_)
            replace hP : va_P D classes [(aI k (a 33) 50 (upd fb_4 (Int32.toNatClampNeg (nI kk_4)) r_48)), (aI k (a 34) 50 fboysNext), ((a 0), .inr (8, (fX8 a (nI tx) fp (nI t0) wd (nI we) nu na (nI rd) ts (nI ru) (nI rw) (nI ca) df db sd))), (aI k (a 1) 3 (nF dn)), (aI k (a 4) 27 (sg se tm gs)), (aI k (a 2) 72 ffrees), (aI k (a 3) 72 fprices), (aI k (a 18) 768 fons__3), (aI k (a 19) 768 fworths__3), (aI k (a 20) 5 fstarts__3), (aI k (a 21) 4 fends__3), (aZ k (a 22) 4 fgoesRound__3), (aI k (a 23) 8 fbegin__3)] H := hP
            replace hD : va_D A [(aI k (a 33) 50 (upd fb_4 (Int32.toNatClampNeg (nI kk_4)) r_48)), (aI k (a 34) 50 fboysNext), ((a 0), .inr (8, (fX8 a (nI tx) fp (nI t0) wd (nI we) nu na (nI rd) ts (nI ru) (nI rw) (nI ca) df db sd))), (aI k (a 1) 3 (nF dn)), (aI k (a 4) 27 (sg se tm gs)), (aI k (a 2) 72 ffrees), (aI k (a 3) 72 fprices), (aI k (a 18) 768 fons__3), (aI k (a 19) 768 fworths__3), (aI k (a 20) 5 fstarts__3), (aI k (a 21) 4 fends__3), (aZ k (a 22) 4 fgoesRound__3), (aI k (a 23) 8 fbegin__3)] := hD
            generalize (upd fb_4 (Int32.toNatClampNeg (nI kk_4)) r_48) = f_49 at hP hD
            refine lv_iinc (v := (nI (kk_4 + 1))) (lv' := [(3, .int (nI (kk_4 + 1))), (5, .int 1), (4, .int (nI (kk_4 / 2))), (2, .int (nI (dn j_2))), (0, .ref (a 0)), (1, .int (nI j_2))]) hx hb dX8_boy_105 hl (k := 2) rfl (nI_add kk_4 1) (by decide) rfl (fun ls hl => ?_)
            refine lv_goto (tgt := 26) hx hb dX8_boy_108 (by decide) ?_
            exact ih_4 _ (kk_4 + 1, f_49) _ _ _ (by omega) ⟨rfl, (by omega), hP, hD, hS, (lv_sub hl [0, 3, 4, 5] rfl)⟩
  · refine lv_if_ne (tgt := 12) hx hb dX8_boy_5 (by decide) (fun h => absurd (by decide) h) (fun _ => ?_)
    refine lv_sipush (v := (-1001)) hx hb dX8_boy_8 (by decide) ?_
    have hP9 := hP.sub (ws' := [((a 0), .inr (8, (fX8 a (nI tx) fp (nI t0) wd (nI we) nu na (nI rd) ts (nI ru) (nI rw) (nI ca) df db sd))), (aI k (a 1) 3 (nF dn)), (aI k (a 4) 27 (sg se tm gs)), (aI k (a 2) 72 ffrees), (aI k (a 3) 72 fprices), (aI k (a 18) 768 fons), (aI k (a 19) 768 fworths), (aI k (a 20) 5 fstarts), (aI k (a 21) 4 fends), (aZ k (a 22) 4 fgoesRound), (aI k (a 23) 8 fbegin), (aI k (a 33) 50 fboys), (aI k (a 34) 50 fboysNext)]) [0, 1, 2, 3, 4, 5, 6, 7, 8, 9, 10, 11, 12] rfl
    have hD9 := hD.sub (ws' := [((a 0), .inr (8, (fX8 a (nI tx) fp (nI t0) wd (nI we) nu na (nI rd) ts (nI ru) (nI rw) (nI ca) df db sd))), (aI k (a 1) 3 (nF dn)), (aI k (a 4) 27 (sg se tm gs)), (aI k (a 2) 72 ffrees), (aI k (a 3) 72 fprices), (aI k (a 18) 768 fons), (aI k (a 19) 768 fworths), (aI k (a 20) 5 fstarts), (aI k (a 21) 4 fends), (aZ k (a 22) 4 fgoesRound), (aI k (a 23) 8 fbegin), (aI k (a 33) 50 fboys), (aI k (a 34) 50 fboysNext)]) [0, 1, 2, 3, 4, 5, 6, 7, 8, 9, 10, 11, 12] (by decide) rfl
    exact W.iret (v := (-1001)) hx hb hr (fun t ht hW => ⟨⟨(-1001), (fons, fworths, fstarts, fends, fgoesRound, fbegin, fboys, fboysNext), rfl, trivial, by rw [ht]; exact hP9, hD9⟩, hS.F ht⟩) hS.2.2 dX8_boy_11


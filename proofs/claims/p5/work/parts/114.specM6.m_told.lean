theorem f_m_told_rows : True := trivial
theorem dX8_told_0 : decode cX8_told 0 = .ok (.aload_n 0, 1) := by decide +kernel
theorem dX8_told_1 : decode cX8_told 1 = .ok (.iload_n 1, 1) := by decide +kernel
theorem dX8_told_2 : decode cX8_told 2 = .ok (.invokevirtual 206, 3) := by decide +kernel
theorem dX8_told_5 : decode cX8_told 5 = .ok (.ifCond .ne 7, 3) := by decide +kernel
theorem dX8_told_8 : decode cX8_told 8 = .ok (.sipush (-1001), 3) := by decide +kernel
theorem dX8_told_11 : decode cX8_told 11 = .ok (.ireturn, 1) := by decide +kernel
theorem dX8_told_12 : decode cX8_told 12 = .ok (.iload_n 2, 1) := by decide +kernel
theorem dX8_told_13 : decode cX8_told 13 = .ok (.ifCond .ne 12, 3) := by decide +kernel
theorem dX8_told_16 : decode cX8_told 16 = .ok (.aload_n 0, 1) := by decide +kernel
theorem dX8_told_17 : decode cX8_told 17 = .ok (.getfield 7, 3) := by decide +kernel
theorem dX8_told_20 : decode cX8_told 20 = .ok (.iload_n 1, 1) := by decide +kernel
theorem dX8_told_21 : decode cX8_told 21 = .ok (.iaload, 1) := by decide +kernel
theorem dX8_told_22 : decode cX8_told 22 = .ok (.goto 29, 3) := by decide +kernel
theorem dX8_told_25 : decode cX8_told 25 = .ok (.iload_n 2, 1) := by decide +kernel
theorem dX8_told_26 : decode cX8_told 26 = .ok (.i2l, 1) := by decide +kernel
theorem dX8_told_27 : decode cX8_told 27 = .ok (.lconst 1, 1) := by decide +kernel
theorem dX8_told_28 : decode cX8_told 28 = .ok (.ldc2_w 210, 3) := by decide +kernel
theorem dX8_told_31 : decode cX8_told 31 = .ok (.invokestatic 107, 3) := by decide +kernel
theorem dX8_told_34 : decode cX8_told 34 = .ok (.ifCond .eq 14, 3) := by decide +kernel
theorem dX8_told_37 : decode cX8_told 37 = .ok (.aload_n 0, 1) := by decide +kernel
theorem dX8_told_38 : decode cX8_told 38 = .ok (.iload_n 1, 1) := by decide +kernel
theorem dX8_told_39 : decode cX8_told 39 = .ok (.iload_n 2, 1) := by decide +kernel
theorem dX8_told_40 : decode cX8_told 40 = .ok (.iconst 1, 1) := by decide +kernel
theorem dX8_told_41 : decode cX8_told 41 = .ok (.isub, 1) := by decide +kernel
theorem dX8_told_42 : decode cX8_told 42 = .ok (.invokevirtual 212, 3) := by decide +kernel
theorem dX8_told_45 : decode cX8_told 45 = .ok (.goto 6, 3) := by decide +kernel
theorem dX8_told_48 : decode cX8_told 48 = .ok (.sipush (-1002), 3) := by decide +kernel
theorem dX8_told_51 : decode cX8_told 51 = .ok (.ireturn, 1) := by decide +kernel
theorem f_m_door_rows : True := trivial
theorem dX8_door_0 : decode cX8_door 0 = .ok (.aload_n 0, 1) := by decide +kernel
theorem dX8_door_1 : decode cX8_door 1 = .ok (.iload_n 1, 1) := by decide +kernel
theorem dX8_door_2 : decode cX8_door 2 = .ok (.invokevirtual 206, 3) := by decide +kernel
theorem dX8_door_5 : decode cX8_door 5 = .ok (.ifCond .eq 12, 3) := by decide +kernel
theorem dX8_door_8 : decode cX8_door 8 = .ok (.aload_n 0, 1) := by decide +kernel
theorem dX8_door_9 : decode cX8_door 9 = .ok (.iload_n 1, 1) := by decide +kernel
theorem dX8_door_10 : decode cX8_door 10 = .ok (.iload_n 2, 1) := by decide +kernel
theorem dX8_door_11 : decode cX8_door 11 = .ok (.invokevirtual 215, 3) := by decide +kernel
theorem dX8_door_14 : decode cX8_door 14 = .ok (.ifCond .ne 7, 3) := by decide +kernel
theorem dX8_door_17 : decode cX8_door 17 = .ok (.sipush (-1001), 3) := by decide +kernel
theorem dX8_door_20 : decode cX8_door 20 = .ok (.ireturn, 1) := by decide +kernel
theorem dX8_door_21 : decode cX8_door 21 = .ok (.iload_n 3, 1) := by decide +kernel
theorem dX8_door_22 : decode cX8_door 22 = .ok (.ifCond .ne 17, 3) := by decide +kernel
theorem dX8_door_25 : decode cX8_door 25 = .ok (.aload_n 0, 1) := by decide +kernel
theorem dX8_door_26 : decode cX8_door 26 = .ok (.getfield 13, 3) := by decide +kernel
theorem dX8_door_29 : decode cX8_door 29 = .ok (.bipush 24, 2) := by decide +kernel
theorem dX8_door_31 : decode cX8_door 31 = .ok (.iload_n 1, 1) := by decide +kernel
theorem dX8_door_32 : decode cX8_door 32 = .ok (.imul, 1) := by decide +kernel
theorem dX8_door_33 : decode cX8_door 33 = .ok (.iload_n 2, 1) := by decide +kernel
theorem dX8_door_34 : decode cX8_door 34 = .ok (.iadd, 1) := by decide +kernel
theorem dX8_door_35 : decode cX8_door 35 = .ok (.iaload, 1) := by decide +kernel
theorem dX8_door_36 : decode cX8_door 36 = .ok (.goto 25, 3) := by decide +kernel
theorem dX8_door_39 : decode cX8_door 39 = .ok (.iload_n 3, 1) := by decide +kernel
theorem dX8_door_40 : decode cX8_door 40 = .ok (.iconst 1, 1) := by decide +kernel
theorem dX8_door_41 : decode cX8_door 41 = .ok (.if_icmp .ne 17, 3) := by decide +kernel
theorem dX8_door_44 : decode cX8_door 44 = .ok (.aload_n 0, 1) := by decide +kernel
theorem dX8_door_45 : decode cX8_door 45 = .ok (.getfield 16, 3) := by decide +kernel
theorem dX8_door_48 : decode cX8_door 48 = .ok (.bipush 24, 2) := by decide +kernel
theorem dX8_door_50 : decode cX8_door 50 = .ok (.iload_n 1, 1) := by decide +kernel
theorem dX8_door_51 : decode cX8_door 51 = .ok (.imul, 1) := by decide +kernel
theorem dX8_door_52 : decode cX8_door 52 = .ok (.iload_n 2, 1) := by decide +kernel
theorem dX8_door_53 : decode cX8_door 53 = .ok (.iadd, 1) := by decide +kernel
theorem dX8_door_54 : decode cX8_door 54 = .ok (.iaload, 1) := by decide +kernel
theorem dX8_door_55 : decode cX8_door 55 = .ok (.goto 6, 3) := by decide +kernel
theorem dX8_door_58 : decode cX8_door 58 = .ok (.sipush (-1002), 3) := by decide +kernel
theorem dX8_door_61 : decode cX8_door 61 = .ok (.ireturn, 1) := by decide +kernel
theorem dX8_chance_0 : decode cX8_chance 0 = .ok (.aload_n 0, 1) := by decide +kernel
theorem dX8_chance_1 : decode cX8_chance 1 = .ok (.iload_n 1, 1) := by decide +kernel
theorem dX8_chance_2 : decode cX8_chance 2 = .ok (.invokevirtual 206, 3) := by decide +kernel
theorem dX8_chance_5 : decode cX8_chance 5 = .ok (.ifCond .eq 22, 3) := by decide +kernel
theorem dX8_chance_8 : decode cX8_chance 8 = .ok (.aload_n 0, 1) := by decide +kernel
theorem dX8_chance_9 : decode cX8_chance 9 = .ok (.iload_n 1, 1) := by decide +kernel
theorem dX8_chance_10 : decode cX8_chance 10 = .ok (.iload_n 2, 1) := by decide +kernel
theorem dX8_chance_11 : decode cX8_chance 11 = .ok (.invokevirtual 215, 3) := by decide +kernel
theorem dX8_chance_14 : decode cX8_chance 14 = .ok (.ifCond .eq 13, 3) := by decide +kernel
theorem dX8_chance_17 : decode cX8_chance 17 = .ok (.aload_n 0, 1) := by decide +kernel
theorem dX8_chance_18 : decode cX8_chance 18 = .ok (.iload_n 1, 1) := by decide +kernel
theorem dX8_chance_19 : decode cX8_chance 19 = .ok (.iload_n 2, 1) := by decide +kernel
theorem dX8_chance_20 : decode cX8_chance 20 = .ok (.iload_n 3, 1) := by decide +kernel
theorem dX8_chance_21 : decode cX8_chance 21 = .ok (.invokevirtual 219, 3) := by decide +kernel
theorem dX8_chance_24 : decode cX8_chance 24 = .ok (.goto 6, 3) := by decide +kernel
theorem dX8_chance_27 : decode cX8_chance 27 = .ok (.sipush (-1001), 3) := by decide +kernel
theorem dX8_chance_30 : decode cX8_chance 30 = .ok (.ireturn, 1) := by decide +kernel
set_option maxHeartbeats 4000000 in
set_option maxRecDepth 100000 in
theorem m_chance (l : Launch) (D : va_G) (k : Nat → ClassId) (st : Nat → Nat) (lo : Nat) (a : Nat → Nat) (tx : Nat) (t0 : Nat) (we : Nat) (rd : Nat) (ru : Nat) (rw : Nat) (ca : Nat) (fp : Int32) (wd : Int64) (nu : Int32) (na : Int32) (ts : Int32) (df : Int32) (db : Int32) (sd : Int32) (dn : Nat → Nat) (se : Nat → Nat) (tm : Nat → Nat) (gs : Nat → Int32) (ffrees : Nat → Int32) (fprices : Nat → Int32) (p0 : Int32) (p1 : Int32) (p2 : Int32) (hdn : ∀ j, dn j ≤ 24) (hse : ∀ j, se j ≤ 2) (htm : ∀ j, tm j ≤ 3) : CRi l D k st lo yX8_chance cX8_chance 4 (some .int) ({ frames := 2, cells := 0, slots := 0, locals := 47 }) [.ref (a 0), .int p0, .int p1, .int p2] [((a 0), .inr (8, (fX8 a (nI tx) fp (nI t0) wd (nI we) nu na (nI rd) ts (nI ru) (nI rw) (nI ca) df db sd))), (aI k (a 1) 3 (nF dn)), (aI k (a 4) 27 (sg se tm gs)), (aI k (a 2) 72 ffrees), (aI k (a 3) 72 fprices)] (fun r => True) := by
  intro sz
  refine Met.ofW (cc := cX8_chance) (maxL := 4) (ret := (some .int)) (by decide) rfl ?_
  intro p e s m args below meth c s₁ B hml hv
  obtain ⟨rfl, hsz, hlo, hP, hK, hDL, hZ⟩ := hv
  have hx := B.exec
  have hb := B.bytes
  have hr := B.returns
  have hts := WS_ts B.pre
  have hown : s.vm.findClass RX8 = some m.cls := findClass_of_methodNamed B.named
  have hlocks := B.notSynchronized
  subst hsz
  have hA : ∀ q : Nat, s.heap.size ≤ q → (fun q : Nat => s.heap.size ≤ q) q := fun _ h => h
  have hAlo : ∀ q : Nat, (fun q : Nat => s.heap.size ≤ q) q → lo ≤ q := fun q h => Nat.le_trans hlo h
  have hS : va_S (fun q : Nat => s.heap.size ≤ q) s.heap s.heap [] := va_S.rf
  have hl := lv_entry ([.ref (a 0), .int p0, .int p1, .int p2]) (n := 4) (Nat.le_of_ble_eq_true rfl)
  rw [lg_entry_eq]
  generalize (lg_sl ([.ref (a 0), .int p0, .int p1, .int p2]) ++ List.replicate (4 - (lg_sl ([.ref (a 0), .int p0, .int p1, .int p2])).length) Slot.unset).toArray = ls at hl ⊢
  have hl : lv_has ls 4 [(0, .ref (a 0)), (1, .int p0), (2, .int p1), (3, .int p2)] := hl
  refine lv_aload_n hx hb dX8_chance_0 rfl (lv_at hl 0 rfl) ?_
  refine lv_iload_n hx hb dX8_chance_1 rfl (lv_at hl 1 rfl) ?_
  refine ro_i (D := D) (va_runV (As := [.int p0]) (rest := []) ⟨hx, hb, hml, hown, hts⟩ ((m_isStreet l D k st lo a tx t0 we rd ru rw ca fp wd nu na ts df db sd dn p0 hdn) s.heap.size) (cwV 1 hts (gV tw_1189 tw_1191 tw_38 tw_87 tw_1192) rfl rfl rfl (by decide +kernel) ⟨Nat.le_of_ble_eq_true rfl, Nat.le_of_ble_eq_true rfl⟩) (pV hS hAlo hlo hP hK hDL hZ [0, 1] (by decide) rfl (ci := 8) (q := (RX8, TX8, 44)) (q0 := 0) rfl rfl) rfl rfl hl.1 rfl (lv_room (Nat.le_of_ble_eq_true rfl)) dX8_chance_2 ⟨Nat.le_of_ble_eq_true rfl, Nat.le_of_ble_eq_true rfl⟩) hS hA hP (fun r_1 H locs hw_1 hP hS => ?_)
  try dsimp only at hw_1
  rcases hw_1 with ⟨rfl, j_2, hj_2, rfl, hw_1⟩ | rfl
  · have hdj_2 := hdn j_2
    have htj_2 := htm j_2
    refine lv_if_eq (tgt := 27) hx hb dX8_chance_5 (by decide) (fun h => absurd h (by decide)) (fun _ => ?_)
    refine lv_aload_n hx hb dX8_chance_8 rfl (lv_at hl 0 rfl) ?_
    refine lv_iload_n hx hb dX8_chance_9 rfl (lv_at hl 1 rfl) ?_
    refine lv_iload_n hx hb dX8_chance_10 rfl (lv_at hl 2 rfl) ?_
    refine ro_i (D := D) (va_runV (As := [.int (nI j_2), .int p1]) (rest := []) ⟨hx, hb, hml, hown, hts⟩ ((m_isDoor l D k st lo a tx t0 we rd ru rw ca fp wd nu na ts df db sd dn j_2 p1 hdn (by omega)) H.size) (cwV 2 hts (gV tw_1202 tw_1204 tw_40 tw_87 tw_1205) rfl rfl rfl (by decide +kernel) ⟨Nat.le_of_ble_eq_true rfl, Nat.le_of_ble_eq_true rfl⟩) (pV hS hAlo hlo hP hK hDL hZ [0, 1] (by decide) rfl (ci := 8) (q := (RX8, TX8, 44)) (q0 := 0) rfl rfl) rfl rfl hl.1 rfl (lv_room (Nat.le_of_ble_eq_true rfl)) dX8_chance_11 ⟨Nat.le_of_ble_eq_true rfl, Nat.le_of_ble_eq_true rfl⟩) hS hA hP (fun r_3 H locs hw_3 hP hS => ?_)
    try dsimp only at hw_3
    rcases hw_3 with ⟨rfl, j_4, hj_4, rfl, hw_3⟩ | rfl
    · refine lv_if_eq (tgt := 27) hx hb dX8_chance_14 (by decide) (fun h => absurd h (by decide)) (fun _ => ?_)
      refine lv_aload_n hx hb dX8_chance_17 rfl (lv_at hl 0 rfl) ?_
      refine lv_iload_n hx hb dX8_chance_18 rfl (lv_at hl 1 rfl) ?_
      refine lv_iload_n hx hb dX8_chance_19 rfl (lv_at hl 2 rfl) ?_
      refine lv_iload_n hx hb dX8_chance_20 rfl (lv_at hl 3 rfl) ?_
      refine ro_i (D := D) (va_runV (As := [.int (nI j_2), .int (nI j_4), .int p2]) (rest := []) ⟨hx, hb, hml, hown, hts⟩ ((m_chanceOf l D k st lo a tx t0 we rd ru rw ca fp wd nu na ts df db sd ffrees se tm gs j_2 j_4 p2 (by omega) (by omega)) H.size) (cwV 3 hts (gV tw_1210 tw_1212 tw_41 tw_87 tw_1213) rfl rfl rfl (by decide +kernel) ⟨Nat.le_of_ble_eq_true rfl, Nat.le_of_ble_eq_true rfl⟩) (pV hS hAlo hlo hP hK hDL hZ [0, 3, 2] (by decide) rfl (ci := 8) (q := (RX8, TX8, 44)) (q0 := 0) rfl rfl) rfl rfl hl.1 rfl (lv_room (Nat.le_of_ble_eq_true rfl)) dX8_chance_21 ⟨Nat.le_of_ble_eq_true rfl, Nat.le_of_ble_eq_true rfl⟩) hS hA hP (fun r_5 H locs hw_5 hP hS => ?_)
      try dsimp only at hw_5
      refine lv_goto (tgt := 30) hx hb dX8_chance_24 (by decide) ?_
      exact W.iret (v := r_5) hx hb hr (fun t ht hW => ⟨⟨r_5, (), rfl, trivial, trivial⟩, hS.F ht⟩) hS.2.2 dX8_chance_30
    · refine lv_if_eq (tgt := 27) hx hb dX8_chance_14 (by decide) (fun _ => ?_) (fun h => absurd (by decide) h)
      refine lv_sipush (v := (-1001)) hx hb dX8_chance_27 (by decide) ?_
      exact W.iret (v := (-1001)) hx hb hr (fun t ht hW => ⟨⟨(-1001), (), rfl, trivial, trivial⟩, hS.F ht⟩) hS.2.2 dX8_chance_30
  · refine lv_if_eq (tgt := 27) hx hb dX8_chance_5 (by decide) (fun _ => ?_) (fun h => absurd (by decide) h)
    refine lv_sipush (v := (-1001)) hx hb dX8_chance_27 (by decide) ?_
    exact W.iret (v := (-1001)) hx hb hr (fun t ht hW => ⟨⟨(-1001), (), rfl, trivial, trivial⟩, hS.F ht⟩) hS.2.2 dX8_chance_30

theorem dX8_taking_0 : decode cX8_taking 0 = .ok (.aload_n 0, 1) := by decide +kernel
theorem dX8_taking_1 : decode cX8_taking 1 = .ok (.iload_n 1, 1) := by decide +kernel
theorem dX8_taking_2 : decode cX8_taking 2 = .ok (.invokevirtual 206, 3) := by decide +kernel
theorem dX8_taking_5 : decode cX8_taking 5 = .ok (.ifCond .eq 12, 3) := by decide +kernel
theorem dX8_taking_8 : decode cX8_taking 8 = .ok (.aload_n 0, 1) := by decide +kernel
theorem dX8_taking_9 : decode cX8_taking 9 = .ok (.iload_n 1, 1) := by decide +kernel
theorem dX8_taking_10 : decode cX8_taking 10 = .ok (.iload_n 3, 1) := by decide +kernel
theorem dX8_taking_11 : decode cX8_taking 11 = .ok (.invokevirtual 215, 3) := by decide +kernel
theorem dX8_taking_14 : decode cX8_taking 14 = .ok (.ifCond .ne 7, 3) := by decide +kernel
theorem dX8_taking_17 : decode cX8_taking 17 = .ok (.sipush (-1001), 3) := by decide +kernel
theorem dX8_taking_20 : decode cX8_taking 20 = .ok (.ireturn, 1) := by decide +kernel
theorem dX8_taking_21 : decode cX8_taking 21 = .ok (.aload_n 0, 1) := by decide +kernel
theorem dX8_taking_22 : decode cX8_taking 22 = .ok (.iload_n 1, 1) := by decide +kernel
theorem dX8_taking_23 : decode cX8_taking 23 = .ok (.iload_n 2, 1) := by decide +kernel
theorem dX8_taking_24 : decode cX8_taking 24 = .ok (.invokevirtual 234, 3) := by decide +kernel
theorem dX8_taking_27 : decode cX8_taking 27 = .ok (.ifCond .eq 13, 3) := by decide +kernel
theorem dX8_taking_30 : decode cX8_taking 30 = .ok (.aload_n 0, 1) := by decide +kernel
theorem dX8_taking_31 : decode cX8_taking 31 = .ok (.iload_n 1, 1) := by decide +kernel
theorem dX8_taking_32 : decode cX8_taking 32 = .ok (.iload_n 2, 1) := by decide +kernel
theorem dX8_taking_33 : decode cX8_taking 33 = .ok (.iload_n 3, 1) := by decide +kernel
theorem dX8_taking_34 : decode cX8_taking 34 = .ok (.invokevirtual 237, 3) := by decide +kernel
theorem dX8_taking_37 : decode cX8_taking 37 = .ok (.goto 6, 3) := by decide +kernel
theorem dX8_taking_40 : decode cX8_taking 40 = .ok (.sipush (-1002), 3) := by decide +kernel
theorem dX8_taking_43 : decode cX8_taking 43 = .ok (.ireturn, 1) := by decide +kernel
set_option maxHeartbeats 4000000 in
set_option maxRecDepth 100000 in
theorem m_taking (l : Launch) (D : va_G) (k : Nat → ClassId) (st : Nat → Nat) (lo : Nat) (a : Nat → Nat) (tx : Nat) (t0 : Nat) (we : Nat) (rd : Nat) (ru : Nat) (rw : Nat) (ca : Nat) (fp : Int32) (wd : Int64) (nu : Int32) (na : Int32) (ts : Int32) (df : Int32) (db : Int32) (sd : Int32) (dn : Nat → Nat) (se : Nat → Nat) (tm : Nat → Nat) (gs : Nat → Int32) (ffrees : Nat → Int32) (fprices : Nat → Int32) (p0 : Int32) (p1 : Int32) (p2 : Int32) (hdn : ∀ j, dn j ≤ 24) (hse : ∀ j, se j ≤ 2) (htm : ∀ j, tm j ≤ 3) : CRi l D k st lo yX8_taking cX8_taking 4 (some .int) ({ frames := 4, cells := 0, slots := 0, locals := 93 }) [.ref (a 0), .int p0, .int p1, .int p2] [((a 0), .inr (8, (fX8 a (nI tx) fp (nI t0) wd (nI we) nu na (nI rd) ts (nI ru) (nI rw) (nI ca) df db sd))), (aI k (a 1) 3 (nF dn)), (aI k (a 4) 27 (sg se tm gs)), (aI k (a 2) 72 ffrees), (aI k (a 3) 72 fprices)] (fun r => True) := by
  intro sz
  refine Met.ofW (cc := cX8_taking) (maxL := 4) (ret := (some .int)) (by decide) rfl ?_
  intro p e s m args below meth c s₁ B hml hv
  obtain ⟨rfl, hsz, hlo, hP, hK, hDL, hZ⟩ := hv
  have hx := B.exec
  have hb := B.bytes
  have hr := B.returns
  have hts := WS_ts B.pre
  have hown : s.vm.findClass RX8 = some m.cls := findClass_of_methodNamed B.named
  have hlocks := B.notSynchronized
  subst hsz
  have hA : ∀ q : Nat, s.heap.size ≤ q → (fun q : Nat => s.heap.size ≤ q) q := fun _ h => h
  have hAlo : ∀ q : Nat, (fun q : Nat => s.heap.size ≤ q) q → lo ≤ q := fun q h => Nat.le_trans hlo h
  have hS : va_S (fun q : Nat => s.heap.size ≤ q) s.heap s.heap [] := va_S.rf
  have hl := lv_entry ([.ref (a 0), .int p0, .int p1, .int p2]) (n := 4) (Nat.le_of_ble_eq_true rfl)
  rw [lg_entry_eq]
  generalize (lg_sl ([.ref (a 0), .int p0, .int p1, .int p2]) ++ List.replicate (4 - (lg_sl ([.ref (a 0), .int p0, .int p1, .int p2])).length) Slot.unset).toArray = ls at hl ⊢
  have hl : lv_has ls 4 [(0, .ref (a 0)), (1, .int p0), (2, .int p1), (3, .int p2)] := hl
  refine lv_aload_n hx hb dX8_taking_0 rfl (lv_at hl 0 rfl) ?_
  refine lv_iload_n hx hb dX8_taking_1 rfl (lv_at hl 1 rfl) ?_
  refine ro_i (D := D) (va_runV (As := [.int p0]) (rest := []) ⟨hx, hb, hml, hown, hts⟩ ((m_isStreet l D k st lo a tx t0 we rd ru rw ca fp wd nu na ts df db sd dn p0 hdn) s.heap.size) (cwV 1 hts (gV tw_1189 tw_1191 tw_38 tw_87 tw_1192) rfl rfl rfl (by decide +kernel) ⟨Nat.le_of_ble_eq_true rfl, Nat.le_of_ble_eq_true rfl⟩) (pV hS hAlo hlo hP hK hDL hZ [0, 1] (by decide) rfl (ci := 8) (q := (RX8, TX8, 44)) (q0 := 0) rfl rfl) rfl rfl hl.1 rfl (lv_room (Nat.le_of_ble_eq_true rfl)) dX8_taking_2 ⟨Nat.le_of_ble_eq_true rfl, Nat.le_of_ble_eq_true rfl⟩) hS hA hP (fun r_1 H locs hw_1 hP hS => ?_)
  try dsimp only at hw_1
  rcases hw_1 with ⟨rfl, j_2, hj_2, rfl, hw_1⟩ | rfl
  · have hdj_2 := hdn j_2
    have htj_2 := htm j_2
    refine lv_if_eq (tgt := 17) hx hb dX8_taking_5 (by decide) (fun h => absurd h (by decide)) (fun _ => ?_)
    refine lv_aload_n hx hb dX8_taking_8 rfl (lv_at hl 0 rfl) ?_
    refine lv_iload_n hx hb dX8_taking_9 rfl (lv_at hl 1 rfl) ?_
    refine lv_iload_n hx hb dX8_taking_10 rfl (lv_at hl 3 rfl) ?_
    refine ro_i (D := D) (va_runV (As := [.int (nI j_2), .int p2]) (rest := []) ⟨hx, hb, hml, hown, hts⟩ ((m_isDoor l D k st lo a tx t0 we rd ru rw ca fp wd nu na ts df db sd dn j_2 p2 hdn (by omega)) H.size) (cwV 2 hts (gV tw_1202 tw_1204 tw_40 tw_87 tw_1205) rfl rfl rfl (by decide +kernel) ⟨Nat.le_of_ble_eq_true rfl, Nat.le_of_ble_eq_true rfl⟩) (pV hS hAlo hlo hP hK hDL hZ [0, 1] (by decide) rfl (ci := 8) (q := (RX8, TX8, 44)) (q0 := 0) rfl rfl) rfl rfl hl.1 rfl (lv_room (Nat.le_of_ble_eq_true rfl)) dX8_taking_11 ⟨Nat.le_of_ble_eq_true rfl, Nat.le_of_ble_eq_true rfl⟩) hS hA hP (fun r_3 H locs hw_3 hP hS => ?_)
    try dsimp only at hw_3
    rcases hw_3 with ⟨rfl, j_4, hj_4, rfl, hw_3⟩ | rfl
    · refine lv_if_ne (tgt := 21) hx hb dX8_taking_14 (by decide) (fun _ => ?_) (fun h => absurd h (by decide))
      refine lv_aload_n hx hb dX8_taking_21 rfl (lv_at hl 0 rfl) ?_
      refine lv_iload_n hx hb dX8_taking_22 rfl (lv_at hl 1 rfl) ?_
      refine lv_iload_n hx hb dX8_taking_23 rfl (lv_at hl 2 rfl) ?_
      refine ro_i (D := D) (va_runV (As := [.int (nI j_2), .int p1]) (rest := []) ⟨hx, hb, hml, hown, hts⟩ ((m_isRound l D k st lo a tx t0 we rd ru rw ca fp wd nu na ts df db sd se tm gs j_2 p1 htm (by omega)) H.size) (cwV 2 hts (gV tw_1218 tw_1220 tw_42 tw_87 tw_1221) rfl rfl rfl (by decide +kernel) ⟨Nat.le_of_ble_eq_true rfl, Nat.le_of_ble_eq_true rfl⟩) (pV hS hAlo hlo hP hK hDL hZ [0, 2] (by decide) rfl (ci := 8) (q := (RX8, TX8, 44)) (q0 := 0) rfl rfl) rfl rfl hl.1 rfl (lv_room (Nat.le_of_ble_eq_true rfl)) dX8_taking_24 ⟨Nat.le_of_ble_eq_true rfl, Nat.le_of_ble_eq_true rfl⟩) hS hA hP (fun r_5 H locs hw_5 hP hS => ?_)
      try dsimp only at hw_5
      rcases hw_5 with ⟨rfl, j_6, hj_6, rfl, hw_5⟩ | rfl
      · refine lv_if_eq (tgt := 40) hx hb dX8_taking_27 (by decide) (fun h => absurd h (by decide)) (fun _ => ?_)
        refine lv_aload_n hx hb dX8_taking_30 rfl (lv_at hl 0 rfl) ?_
        refine lv_iload_n hx hb dX8_taking_31 rfl (lv_at hl 1 rfl) ?_
        refine lv_iload_n hx hb dX8_taking_32 rfl (lv_at hl 2 rfl) ?_
        refine lv_iload_n hx hb dX8_taking_33 rfl (lv_at hl 3 rfl) ?_
        refine ro_i (D := D) (va_runV (As := [.int (nI j_2), .int (nI j_6), .int (nI j_4)]) (rest := []) ⟨hx, hb, hml, hown, hts⟩ ((m_takingOf l D k st lo a tx t0 we rd ru rw ca fp wd nu na ts df db sd dn se tm gs fprices j_2 j_4 (nI j_6) (by omega) (by omega)) H.size) (cwV 3 hts (gV tw_1222 tw_1224 tw_43 tw_87 tw_1225) rfl rfl rfl (by decide +kernel) ⟨Nat.le_of_ble_eq_true rfl, Nat.le_of_ble_eq_true rfl⟩) (pV hS hAlo hlo hP hK hDL hZ [0, 1, 2, 4] (by decide) rfl (ci := 8) (q := (RX8, TX8, 44)) (q0 := 0) rfl rfl) rfl rfl hl.1 rfl (lv_room (Nat.le_of_ble_eq_true rfl)) dX8_taking_34 ⟨Nat.le_of_ble_eq_true rfl, Nat.le_of_ble_eq_true rfl⟩) hS hA hP (fun r_7 H locs hw_7 hP hS => ?_)
        try dsimp only at hw_7
        refine lv_goto (tgt := 43) hx hb dX8_taking_37 (by decide) ?_
        exact W.iret (v := r_7) hx hb hr (fun t ht hW => ⟨⟨r_7, (), rfl, trivial, trivial⟩, hS.F ht⟩) hS.2.2 dX8_taking_43
      · refine lv_if_eq (tgt := 40) hx hb dX8_taking_27 (by decide) (fun _ => ?_) (fun h => absurd (by decide) h)
        refine lv_sipush (v := (-1002)) hx hb dX8_taking_40 (by decide) ?_
        exact W.iret (v := (-1002)) hx hb hr (fun t ht hW => ⟨⟨(-1002), (), rfl, trivial, trivial⟩, hS.F ht⟩) hS.2.2 dX8_taking_43
    · refine lv_if_ne (tgt := 21) hx hb dX8_taking_14 (by decide) (fun h => absurd (by decide) h) (fun _ => ?_)
      refine lv_sipush (v := (-1001)) hx hb dX8_taking_17 (by decide) ?_
      exact W.iret (v := (-1001)) hx hb hr (fun t ht hW => ⟨⟨(-1001), (), rfl, trivial, trivial⟩, hS.F ht⟩) hS.2.2 dX8_taking_20
  · refine lv_if_eq (tgt := 17) hx hb dX8_taking_5 (by decide) (fun _ => ?_) (fun h => absurd (by decide) h)
    refine lv_sipush (v := (-1001)) hx hb dX8_taking_17 (by decide) ?_
    exact W.iret (v := (-1001)) hx hb hr (fun t ht hW => ⟨⟨(-1001), (), rfl, trivial, trivial⟩, hS.F ht⟩) hS.2.2 dX8_taking_20

theorem dX8_worth_0 : decode cX8_worth 0 = .ok (.aload_n 0, 1) := by decide +kernel
theorem dX8_worth_1 : decode cX8_worth 1 = .ok (.iload_n 1, 1) := by decide +kernel
theorem dX8_worth_2 : decode cX8_worth 2 = .ok (.invokevirtual 206, 3) := by decide +kernel
theorem dX8_worth_5 : decode cX8_worth 5 = .ok (.ifCond .eq 12, 3) := by decide +kernel
theorem dX8_worth_8 : decode cX8_worth 8 = .ok (.aload_n 0, 1) := by decide +kernel
theorem dX8_worth_9 : decode cX8_worth 9 = .ok (.iload_n 1, 1) := by decide +kernel
theorem dX8_worth_10 : decode cX8_worth 10 = .ok (.iload_n 3, 1) := by decide +kernel
theorem dX8_worth_11 : decode cX8_worth 11 = .ok (.invokevirtual 215, 3) := by decide +kernel
theorem dX8_worth_14 : decode cX8_worth 14 = .ok (.ifCond .ne 7, 3) := by decide +kernel
theorem dX8_worth_17 : decode cX8_worth 17 = .ok (.sipush (-1001), 3) := by decide +kernel
theorem dX8_worth_20 : decode cX8_worth 20 = .ok (.ireturn, 1) := by decide +kernel
theorem dX8_worth_21 : decode cX8_worth 21 = .ok (.aload_n 0, 1) := by decide +kernel
theorem dX8_worth_22 : decode cX8_worth 22 = .ok (.iload_n 1, 1) := by decide +kernel
theorem dX8_worth_23 : decode cX8_worth 23 = .ok (.iload_n 2, 1) := by decide +kernel
theorem dX8_worth_24 : decode cX8_worth 24 = .ok (.invokevirtual 234, 3) := by decide +kernel
theorem dX8_worth_27 : decode cX8_worth 27 = .ok (.ifCond .eq 14, 3) := by decide +kernel
theorem dX8_worth_30 : decode cX8_worth 30 = .ok (.aload_n 0, 1) := by decide +kernel
theorem dX8_worth_31 : decode cX8_worth 31 = .ok (.iload_n 1, 1) := by decide +kernel
theorem dX8_worth_32 : decode cX8_worth 32 = .ok (.iload_n 3, 1) := by decide +kernel
theorem dX8_worth_33 : decode cX8_worth 33 = .ok (.iload 4, 2) := by decide +kernel
theorem dX8_worth_35 : decode cX8_worth 35 = .ok (.invokevirtual 264, 3) := by decide +kernel
theorem dX8_worth_38 : decode cX8_worth 38 = .ok (.ifCond .ne 7, 3) := by decide +kernel
theorem dX8_worth_41 : decode cX8_worth 41 = .ok (.sipush (-1002), 3) := by decide +kernel
theorem dX8_worth_44 : decode cX8_worth 44 = .ok (.ireturn, 1) := by decide +kernel
theorem dX8_worth_45 : decode cX8_worth 45 = .ok (.aload_n 0, 1) := by decide +kernel
theorem dX8_worth_46 : decode cX8_worth 46 = .ok (.iload_n 1, 1) := by decide +kernel
theorem dX8_worth_47 : decode cX8_worth 47 = .ok (.invokevirtual 268, 3) := by decide +kernel
theorem dX8_worth_50 : decode cX8_worth 50 = .ok (.aload_n 0, 1) := by decide +kernel
theorem dX8_worth_51 : decode cX8_worth 51 = .ok (.getfield 41, 3) := by decide +kernel
theorem dX8_worth_54 : decode cX8_worth 54 = .ok (.iload_n 2, 1) := by decide +kernel
theorem dX8_worth_55 : decode cX8_worth 55 = .ok (.iload_n 3, 1) := by decide +kernel
theorem dX8_worth_56 : decode cX8_worth 56 = .ok (.iload 4, 2) := by decide +kernel
theorem dX8_worth_58 : decode cX8_worth 58 = .ok (.invokestatic 242, 3) := by decide +kernel
theorem dX8_worth_61 : decode cX8_worth 61 = .ok (.iaload, 1) := by decide +kernel
theorem dX8_worth_62 : decode cX8_worth 62 = .ok (.ireturn, 1) := by decide +kernel
set_option maxHeartbeats 4000000 in
set_option maxRecDepth 100000 in
theorem m_worth (l : Launch) (D : va_G) (k : Nat → ClassId) (st : Nat → Nat) (lo : Nat) (a : Nat → Nat) (tx : Nat) (t0 : Nat) (we : Nat) (rd : Nat) (ru : Nat) (rw : Nat) (ca : Nat) (fp : Int32) (wd : Int64) (nu : Int32) (na : Int32) (ts : Int32) (df : Int32) (db : Int32) (sd : Int32) (dn : Nat → Nat) (se : Nat → Nat) (tm : Nat → Nat) (gs : Nat → Int32) (ffrees : Nat → Int32) (fprices : Nat → Int32) (fons : Nat → Int32) (fworths : Nat → Int32) (fstarts : Nat → Int32) (fends : Nat → Int32) (fgoesRound : Nat → Int32) (fbegin : Nat → Int32) (p0 : Int32) (p1 : Int32) (p2 : Int32) (p3 : Int32) (hdn : ∀ j, dn j ≤ 24) (hse : ∀ j, se j ≤ 2) (htm : ∀ j, tm j ≤ 3) : CWi l D k st lo yX8_worth cX8_worth 5 (some .int) ({ frames := 6, cells := 0, slots := 0, locals := 144 }) 0 0 [.ref (a 0), .int p0, .int p1, .int p2, .int p3] [((a 0), .inr (8, (fX8 a (nI tx) fp (nI t0) wd (nI we) nu na (nI rd) ts (nI ru) (nI rw) (nI ca) df db sd))), (aI k (a 1) 3 (nF dn)), (aI k (a 4) 27 (sg se tm gs)), (aI k (a 2) 72 ffrees), (aI k (a 3) 72 fprices), (aI k (a 18) 768 fons), (aI k (a 19) 768 fworths), (aI k (a 20) 5 fstarts), (aI k (a 21) 4 fends), (aZ k (a 22) 4 fgoesRound), (aI k (a 23) 8 fbegin)] (fun (r : Int32) (u : (Nat → Int32) × (Nat → Int32) × (Nat → Int32) × (Nat → Int32) × (Nat → Int32) × (Nat → Int32)) => match u with | (fons_, fworths_, fstarts_, fends_, fgoesRound_, fbegin_) => True) (fun (u : (Nat → Int32) × (Nat → Int32) × (Nat → Int32) × (Nat → Int32) × (Nat → Int32) × (Nat → Int32)) => match u with | (fons_, fworths_, fstarts_, fends_, fgoesRound_, fbegin_) => [((a 0), .inr (8, (fX8 a (nI tx) fp (nI t0) wd (nI we) nu na (nI rd) ts (nI ru) (nI rw) (nI ca) df db sd))), (aI k (a 1) 3 (nF dn)), (aI k (a 4) 27 (sg se tm gs)), (aI k (a 2) 72 ffrees), (aI k (a 3) 72 fprices), (aI k (a 18) 768 fons_), (aI k (a 19) 768 fworths_), (aI k (a 20) 5 fstarts_), (aI k (a 21) 4 fends_), (aZ k (a 22) 4 fgoesRound_), (aI k (a 23) 8 fbegin_)]) := by
  intro sz
  refine Met.ofW (cc := cX8_worth) (maxL := 5) (ret := (some .int)) (by decide) rfl ?_
  intro p e s m args below meth c s₁ B hml hv
  obtain ⟨rfl, hsz, hlo, hP, hK, hDL, hZ⟩ := hv
  have hx := B.exec
  have hb := B.bytes
  have hr := B.returns
  have hts := WS_ts B.pre
  have hown : s.vm.findClass RX8 = some m.cls := findClass_of_methodNamed B.named
  have hlocks := B.notSynchronized
  subst hsz
  have hD := hDL.self (sz := s.heap.size)
  have hAlo := A_lo hDL hlo
  generalize hAe : va_A [((a 0), .inr (8, (fX8 a (nI tx) fp (nI t0) wd (nI we) nu na (nI rd) ts (nI ru) (nI rw) (nI ca) df db sd))), (aI k (a 1) 3 (nF dn)), (aI k (a 4) 27 (sg se tm gs)), (aI k (a 2) 72 ffrees), (aI k (a 3) 72 fprices), (aI k (a 18) 768 fons), (aI k (a 19) 768 fworths), (aI k (a 20) 5 fstarts), (aI k (a 21) 4 fends), (aZ k (a 22) 4 fgoesRound), (aI k (a 23) 8 fbegin)] s.heap.size = A at hD hAlo ⊢
  have hA : ∀ q : Nat, s.heap.size ≤ q → A q := fun q h => by rw [← hAe]; exact Or.inr h
  have hS : va_S A s.heap s.heap [] := va_S.rf
  have hl := lv_entry ([.ref (a 0), .int p0, .int p1, .int p2, .int p3]) (n := 5) (Nat.le_of_ble_eq_true rfl)
  rw [lg_entry_eq]
  generalize (lg_sl ([.ref (a 0), .int p0, .int p1, .int p2, .int p3]) ++ List.replicate (5 - (lg_sl ([.ref (a 0), .int p0, .int p1, .int p2, .int p3])).length) Slot.unset).toArray = ls at hl ⊢
  have hl : lv_has ls 5 [(0, .ref (a 0)), (1, .int p0), (2, .int p1), (3, .int p2), (4, .int p3)] := hl
  refine lv_aload_n hx hb dX8_worth_0 rfl (lv_at hl 0 rfl) ?_
  refine lv_iload_n hx hb dX8_worth_1 rfl (lv_at hl 1 rfl) ?_
  refine ro_i (D := D) (va_runV (As := [.int p0]) (rest := []) ⟨hx, hb, hml, hown, hts⟩ ((m_isStreet l D k st lo a tx t0 we rd ru rw ca fp wd nu na ts df db sd dn p0 hdn) s.heap.size) (cwV 1 hts (gV tw_1189 tw_1191 tw_38 tw_87 tw_1192) rfl rfl rfl (by decide +kernel) ⟨Nat.le_of_ble_eq_true rfl, Nat.le_of_ble_eq_true rfl⟩) (pV hS hAlo hlo hP hK (va_Dlo hD hAlo) hZ [0, 1] (by decide) rfl (ci := 8) (q := (RX8, TX8, 44)) (q0 := 0) rfl rfl) rfl rfl hl.1 rfl (lv_room (Nat.le_of_ble_eq_true rfl)) dX8_worth_2 ⟨Nat.le_of_ble_eq_true rfl, Nat.le_of_ble_eq_true rfl⟩) hS hA hP (fun r_1 H locs hw_1 hP hS => ?_)
  try dsimp only at hw_1
  rcases hw_1 with ⟨rfl, j_2, hj_2, rfl, hw_1⟩ | rfl
  · have hdj_2 := hdn j_2
    have htj_2 := htm j_2
    refine lv_if_eq (tgt := 17) hx hb dX8_worth_5 (by decide) (fun h => absurd h (by decide)) (fun _ => ?_)
    refine lv_aload_n hx hb dX8_worth_8 rfl (lv_at hl 0 rfl) ?_
    refine lv_iload_n hx hb dX8_worth_9 rfl (lv_at hl 1 rfl) ?_
    refine lv_iload_n hx hb dX8_worth_10 rfl (lv_at hl 3 rfl) ?_
    refine ro_i (D := D) (va_runV (As := [.int (nI j_2), .int p2]) (rest := []) ⟨hx, hb, hml, hown, hts⟩ ((m_isDoor l D k st lo a tx t0 we rd ru rw ca fp wd nu na ts df db sd dn j_2 p2 hdn (by omega)) H.size) (cwV 2 hts (gV tw_1202 tw_1204 tw_40 tw_87 tw_1205) rfl rfl rfl (by decide +kernel) ⟨Nat.le_of_ble_eq_true rfl, Nat.le_of_ble_eq_true rfl⟩) (pV hS hAlo hlo hP hK (va_Dlo hD hAlo) hZ [0, 1] (by decide) rfl (ci := 8) (q := (RX8, TX8, 44)) (q0 := 0) rfl rfl) rfl rfl hl.1 rfl (lv_room (Nat.le_of_ble_eq_true rfl)) dX8_worth_11 ⟨Nat.le_of_ble_eq_true rfl, Nat.le_of_ble_eq_true rfl⟩) hS hA hP (fun r_3 H locs hw_3 hP hS => ?_)
    try dsimp only at hw_3
    rcases hw_3 with ⟨rfl, j_4, hj_4, rfl, hw_3⟩ | rfl
    · refine lv_if_ne (tgt := 21) hx hb dX8_worth_14 (by decide) (fun _ => ?_) (fun h => absurd h (by decide))
      refine lv_aload_n hx hb dX8_worth_21 rfl (lv_at hl 0 rfl) ?_
      refine lv_iload_n hx hb dX8_worth_22 rfl (lv_at hl 1 rfl) ?_
      refine lv_iload_n hx hb dX8_worth_23 rfl (lv_at hl 2 rfl) ?_
      refine ro_i (D := D) (va_runV (As := [.int (nI j_2), .int p1]) (rest := []) ⟨hx, hb, hml, hown, hts⟩ ((m_isRound l D k st lo a tx t0 we rd ru rw ca fp wd nu na ts df db sd se tm gs j_2 p1 htm (by omega)) H.size) (cwV 2 hts (gV tw_1218 tw_1220 tw_42 tw_87 tw_1221) rfl rfl rfl (by decide +kernel) ⟨Nat.le_of_ble_eq_true rfl, Nat.le_of_ble_eq_true rfl⟩) (pV hS hAlo hlo hP hK (va_Dlo hD hAlo) hZ [0, 2] (by decide) rfl (ci := 8) (q := (RX8, TX8, 44)) (q0 := 0) rfl rfl) rfl rfl hl.1 rfl (lv_room (Nat.le_of_ble_eq_true rfl)) dX8_worth_24 ⟨Nat.le_of_ble_eq_true rfl, Nat.le_of_ble_eq_true rfl⟩) hS hA hP (fun r_5 H locs hw_5 hP hS => ?_)
      try dsimp only at hw_5
      rcases hw_5 with ⟨rfl, j_6, hj_6, rfl, hw_5⟩ | rfl
      · refine lv_if_eq (tgt := 41) hx hb dX8_worth_27 (by decide) (fun h => absurd h (by decide)) (fun _ => ?_)
        refine lv_aload_n hx hb dX8_worth_30 rfl (lv_at hl 0 rfl) ?_
        refine lv_iload_n hx hb dX8_worth_31 rfl (lv_at hl 1 rfl) ?_
        refine lv_iload_n hx hb dX8_worth_32 rfl (lv_at hl 3 rfl) ?_
        refine lv_iload hx hb dX8_worth_33 (lv_at hl 4 rfl) ?_
        refine ro_i (D := D) (va_runV (As := [.int (nI j_2), .int (nI j_4), .int p3]) (rest := []) ⟨hx, hb, hml, hown, hts⟩ ((m_isSight l D k st lo a tx t0 we rd ru rw ca fp wd nu na ts df db sd dn se tm gs j_2 j_4 p3 hdn hse (by omega) (by omega)) H.size) (cwV 3 hts (gV tw_1242 tw_1244 tw_47 tw_87 tw_1245) rfl rfl rfl (by decide +kernel) ⟨Nat.le_of_ble_eq_true rfl, Nat.le_of_ble_eq_true rfl⟩) (pV hS hAlo hlo hP hK (va_Dlo hD hAlo) hZ [0, 1, 2] (by decide) rfl (ci := 8) (q := (RX8, TX8, 44)) (q0 := 0) rfl rfl) rfl rfl hl.1 rfl (lv_room (Nat.le_of_ble_eq_true rfl)) dX8_worth_35 ⟨Nat.le_of_ble_eq_true rfl, Nat.le_of_ble_eq_true rfl⟩) hS hA hP (fun r_7 H locs hw_7 hP hS => ?_)
        try dsimp only at hw_7
        rcases hw_7 with ⟨rfl, j_8, hj_8, rfl, hw_7⟩ | rfl
        · refine lv_if_ne (tgt := 45) hx hb dX8_worth_38 (by decide) (fun _ => ?_) (fun h => absurd h (by decide))
          refine lv_aload_n hx hb dX8_worth_45 rfl (lv_at hl 0 rfl) ?_
          refine lv_iload_n hx hb dX8_worth_46 rfl (lv_at hl 1 rfl) ?_
          refine rw_v (D := D) (wr := []) (va_runV (As := [.int (nI j_2)]) (rest := []) ⟨hx, hb, hml, hown, hts⟩ ((m_findWay l D k st lo a tx t0 we rd ru rw ca fp wd nu na ts df db sd dn se tm gs ffrees fprices fons fworths fstarts fends fgoesRound fbegin j_2 hdn hse htm (by omega) (by omega)) H.size) (cwV 1 hts (gV tw_1250 tw_1252 tw_49 tw_87 tw_1253) rfl rfl rfl (by decide +kernel) ⟨Nat.le_of_ble_eq_true rfl, Nat.le_of_ble_eq_true rfl⟩) (pV hS hAlo hlo hP hK (va_Dlo hD hAlo) hZ [0, 1, 2, 3, 4, 5, 6, 7, 8, 9, 10] (by decide) rfl (ci := 8) (q := (RX8, TX8, 44)) (q0 := 0) rfl rfl) rfl rfl hl.1 rfl (lv_room (Nat.le_of_ble_eq_true rfl)) dX8_worth_47 ⟨Nat.le_of_ble_eq_true rfl, Nat.le_of_ble_eq_true rfl⟩) hS hA hP hD [0, 1, 2, 3, 4, 5, 6, 7, 8, 9, 10] [] rfl rfl (by decide) (by decide) (fun u H locs hw_9 hP hD hS => ?_)
          obtain ⟨fons__9, fworths__9, fstarts__9, fends__9, fgoesRound__9, fbegin__9⟩ := u
          replace hP : va_P D classes [((a 0), .inr (8, (fX8 a (nI tx) fp (nI t0) wd (nI we) nu na (nI rd) ts (nI ru) (nI rw) (nI ca) df db sd))), (aI k (a 1) 3 (nF dn)), (aI k (a 4) 27 (sg se tm gs)), (aI k (a 2) 72 ffrees), (aI k (a 3) 72 fprices), (aI k (a 18) 768 fons__9), (aI k (a 19) 768 fworths__9), (aI k (a 20) 5 fstarts__9), (aI k (a 21) 4 fends__9), (aZ k (a 22) 4 fgoesRound__9), (aI k (a 23) 8 fbegin__9)] H := hP
          replace hD : va_D A [((a 0), .inr (8, (fX8 a (nI tx) fp (nI t0) wd (nI we) nu na (nI rd) ts (nI ru) (nI rw) (nI ca) df db sd))), (aI k (a 1) 3 (nF dn)), (aI k (a 4) 27 (sg se tm gs)), (aI k (a 2) 72 ffrees), (aI k (a 3) 72 fprices), (aI k (a 18) 768 fons__9), (aI k (a 19) 768 fworths__9), (aI k (a 20) 5 fstarts__9), (aI k (a 21) 4 fends__9), (aZ k (a 22) 4 fgoesRound__9), (aI k (a 23) 8 fbegin__9)] := hD
          try dsimp only at hw_9
          refine lv_aload_n hx hb dX8_worth_50 rfl (lv_at hl 0 rfl) ?_
          refine va_get (D := D) (ci := 8) (v := .ref (a 19)) (C := RX8) (T := TX8) (N := 44) hx hb hts inX8 hown hK hP 0 rfl rfl 18 (by decide) (hts _ tw_991) (fun _ h9 => h9) rfl dX8_worth_51 ?_
          refine lv_iload_n hx hb dX8_worth_54 rfl (lv_at hl 2 rfl) ?_
          refine lv_iload_n hx hb dX8_worth_55 rfl (lv_at hl 3 rfl) ?_
          refine lv_iload hx hb dX8_worth_56 (lv_at hl 4 rfl) ?_
          refine ro_i (D := D) (va_runS (As := [.int (nI j_6), .int (nI j_4), .int (nI j_8)]) (rest := [.ref (a 19)]) ⟨hx, hb, hml, hown, hts⟩ ((m_at l D k st lo j_6 j_4 j_8) H.size) (va_cwS 3 hts (gS tw_1266 tw_1267 tw_87 tw_1268) rfl rfl rfl (by decide +kernel) ⟨Nat.le_of_ble_eq_true rfl, Nat.le_of_ble_eq_true rfl⟩) (pS hS hAlo hlo hP hK (va_Dlo hD hAlo) hZ [] (by decide) rfl) rfl rfl hl.1 rfl (lv_room (Nat.le_of_ble_eq_true rfl)) dX8_worth_58 ⟨Nat.le_of_ble_eq_true rfl, Nat.le_of_ble_eq_true rfl⟩) hS hA hP (fun r_10 H locs hw_10 hP hS => ?_)
          try dsimp only at hw_10
          subst hw_10
          refine va_iald hx hb hK hP 6 1 rfl rfl (vp_in_nI (by omega) (by decide)) dX8_worth_61 ?_
          refine lv_ti (y := (fworths__9 (192 * j_6 + 8 * j_4 + j_8))) (by rw [nI_clamp (by omega)]) ?_
          have hP9 := hP.sub (ws' := [((a 0), .inr (8, (fX8 a (nI tx) fp (nI t0) wd (nI we) nu na (nI rd) ts (nI ru) (nI rw) (nI ca) df db sd))), (aI k (a 1) 3 (nF dn)), (aI k (a 4) 27 (sg se tm gs)), (aI k (a 2) 72 ffrees), (aI k (a 3) 72 fprices), (aI k (a 18) 768 fons__9), (aI k (a 19) 768 fworths__9), (aI k (a 20) 5 fstarts__9), (aI k (a 21) 4 fends__9), (aZ k (a 22) 4 fgoesRound__9), (aI k (a 23) 8 fbegin__9)]) [0, 1, 2, 3, 4, 5, 6, 7, 8, 9, 10] rfl
          have hD9 := hD.sub (ws' := [((a 0), .inr (8, (fX8 a (nI tx) fp (nI t0) wd (nI we) nu na (nI rd) ts (nI ru) (nI rw) (nI ca) df db sd))), (aI k (a 1) 3 (nF dn)), (aI k (a 4) 27 (sg se tm gs)), (aI k (a 2) 72 ffrees), (aI k (a 3) 72 fprices), (aI k (a 18) 768 fons__9), (aI k (a 19) 768 fworths__9), (aI k (a 20) 5 fstarts__9), (aI k (a 21) 4 fends__9), (aZ k (a 22) 4 fgoesRound__9), (aI k (a 23) 8 fbegin__9)]) [0, 1, 2, 3, 4, 5, 6, 7, 8, 9, 10] (by decide) rfl
          exact W.iret (v := (fworths__9 (192 * j_6 + 8 * j_4 + j_8))) hx hb hr (fun t ht hW => ⟨⟨(fworths__9 (192 * j_6 + 8 * j_4 + j_8)), (fons__9, fworths__9, fstarts__9, fends__9, fgoesRound__9, fbegin__9), rfl, trivial, by rw [ht]; exact hP9, hD9⟩, hS.F ht⟩) hS.2.2 dX8_worth_62
        · refine lv_if_ne (tgt := 45) hx hb dX8_worth_38 (by decide) (fun h => absurd (by decide) h) (fun _ => ?_)
          refine lv_sipush (v := (-1002)) hx hb dX8_worth_41 (by decide) ?_
          have hP9 := hP.sub (ws' := [((a 0), .inr (8, (fX8 a (nI tx) fp (nI t0) wd (nI we) nu na (nI rd) ts (nI ru) (nI rw) (nI ca) df db sd))), (aI k (a 1) 3 (nF dn)), (aI k (a 4) 27 (sg se tm gs)), (aI k (a 2) 72 ffrees), (aI k (a 3) 72 fprices), (aI k (a 18) 768 fons), (aI k (a 19) 768 fworths), (aI k (a 20) 5 fstarts), (aI k (a 21) 4 fends), (aZ k (a 22) 4 fgoesRound), (aI k (a 23) 8 fbegin)]) [0, 1, 2, 3, 4, 5, 6, 7, 8, 9, 10] rfl
          have hD9 := hD.sub (ws' := [((a 0), .inr (8, (fX8 a (nI tx) fp (nI t0) wd (nI we) nu na (nI rd) ts (nI ru) (nI rw) (nI ca) df db sd))), (aI k (a 1) 3 (nF dn)), (aI k (a 4) 27 (sg se tm gs)), (aI k (a 2) 72 ffrees), (aI k (a 3) 72 fprices), (aI k (a 18) 768 fons), (aI k (a 19) 768 fworths), (aI k (a 20) 5 fstarts), (aI k (a 21) 4 fends), (aZ k (a 22) 4 fgoesRound), (aI k (a 23) 8 fbegin)]) [0, 1, 2, 3, 4, 5, 6, 7, 8, 9, 10] (by decide) rfl
          exact W.iret (v := (-1002)) hx hb hr (fun t ht hW => ⟨⟨(-1002), (fons, fworths, fstarts, fends, fgoesRound, fbegin), rfl, trivial, by rw [ht]; exact hP9, hD9⟩, hS.F ht⟩) hS.2.2 dX8_worth_44
      · refine lv_if_eq (tgt := 41) hx hb dX8_worth_27 (by decide) (fun _ => ?_) (fun h => absurd (by decide) h)
        refine lv_sipush (v := (-1002)) hx hb dX8_worth_41 (by decide) ?_
        have hP9 := hP.sub (ws' := [((a 0), .inr (8, (fX8 a (nI tx) fp (nI t0) wd (nI we) nu na (nI rd) ts (nI ru) (nI rw) (nI ca) df db sd))), (aI k (a 1) 3 (nF dn)), (aI k (a 4) 27 (sg se tm gs)), (aI k (a 2) 72 ffrees), (aI k (a 3) 72 fprices), (aI k (a 18) 768 fons), (aI k (a 19) 768 fworths), (aI k (a 20) 5 fstarts), (aI k (a 21) 4 fends), (aZ k (a 22) 4 fgoesRound), (aI k (a 23) 8 fbegin)]) [0, 1, 2, 3, 4, 5, 6, 7, 8, 9, 10] rfl
        have hD9 := hD.sub (ws' := [((a 0), .inr (8, (fX8 a (nI tx) fp (nI t0) wd (nI we) nu na (nI rd) ts (nI ru) (nI rw) (nI ca) df db sd))), (aI k (a 1) 3 (nF dn)), (aI k (a 4) 27 (sg se tm gs)), (aI k (a 2) 72 ffrees), (aI k (a 3) 72 fprices), (aI k (a 18) 768 fons), (aI k (a 19) 768 fworths), (aI k (a 20) 5 fstarts), (aI k (a 21) 4 fends), (aZ k (a 22) 4 fgoesRound), (aI k (a 23) 8 fbegin)]) [0, 1, 2, 3, 4, 5, 6, 7, 8, 9, 10] (by decide) rfl
        exact W.iret (v := (-1002)) hx hb hr (fun t ht hW => ⟨⟨(-1002), (fons, fworths, fstarts, fends, fgoesRound, fbegin), rfl, trivial, by rw [ht]; exact hP9, hD9⟩, hS.F ht⟩) hS.2.2 dX8_worth_44
    · refine lv_if_ne (tgt := 21) hx hb dX8_worth_14 (by decide) (fun h => absurd (by decide) h) (fun _ => ?_)
      refine lv_sipush (v := (-1001)) hx hb dX8_worth_17 (by decide) ?_
      have hP9 := hP.sub (ws' := [((a 0), .inr (8, (fX8 a (nI tx) fp (nI t0) wd (nI we) nu na (nI rd) ts (nI ru) (nI rw) (nI ca) df db sd))), (aI k (a 1) 3 (nF dn)), (aI k (a 4) 27 (sg se tm gs)), (aI k (a 2) 72 ffrees), (aI k (a 3) 72 fprices), (aI k (a 18) 768 fons), (aI k (a 19) 768 fworths), (aI k (a 20) 5 fstarts), (aI k (a 21) 4 fends), (aZ k (a 22) 4 fgoesRound), (aI k (a 23) 8 fbegin)]) [0, 1, 2, 3, 4, 5, 6, 7, 8, 9, 10] rfl
      have hD9 := hD.sub (ws' := [((a 0), .inr (8, (fX8 a (nI tx) fp (nI t0) wd (nI we) nu na (nI rd) ts (nI ru) (nI rw) (nI ca) df db sd))), (aI k (a 1) 3 (nF dn)), (aI k (a 4) 27 (sg se tm gs)), (aI k (a 2) 72 ffrees), (aI k (a 3) 72 fprices), (aI k (a 18) 768 fons), (aI k (a 19) 768 fworths), (aI k (a 20) 5 fstarts), (aI k (a 21) 4 fends), (aZ k (a 22) 4 fgoesRound), (aI k (a 23) 8 fbegin)]) [0, 1, 2, 3, 4, 5, 6, 7, 8, 9, 10] (by decide) rfl
      exact W.iret (v := (-1001)) hx hb hr (fun t ht hW => ⟨⟨(-1001), (fons, fworths, fstarts, fends, fgoesRound, fbegin), rfl, trivial, by rw [ht]; exact hP9, hD9⟩, hS.F ht⟩) hS.2.2 dX8_worth_20
  · refine lv_if_eq (tgt := 17) hx hb dX8_worth_5 (by decide) (fun _ => ?_) (fun h => absurd (by decide) h)
    refine lv_sipush (v := (-1001)) hx hb dX8_worth_17 (by decide) ?_
    have hP9 := hP.sub (ws' := [((a 0), .inr (8, (fX8 a (nI tx) fp (nI t0) wd (nI we) nu na (nI rd) ts (nI ru) (nI rw) (nI ca) df db sd))), (aI k (a 1) 3 (nF dn)), (aI k (a 4) 27 (sg se tm gs)), (aI k (a 2) 72 ffrees), (aI k (a 3) 72 fprices), (aI k (a 18) 768 fons), (aI k (a 19) 768 fworths), (aI k (a 20) 5 fstarts), (aI k (a 21) 4 fends), (aZ k (a 22) 4 fgoesRound), (aI k (a 23) 8 fbegin)]) [0, 1, 2, 3, 4, 5, 6, 7, 8, 9, 10] rfl
    have hD9 := hD.sub (ws' := [((a 0), .inr (8, (fX8 a (nI tx) fp (nI t0) wd (nI we) nu na (nI rd) ts (nI ru) (nI rw) (nI ca) df db sd))), (aI k (a 1) 3 (nF dn)), (aI k (a 4) 27 (sg se tm gs)), (aI k (a 2) 72 ffrees), (aI k (a 3) 72 fprices), (aI k (a 18) 768 fons), (aI k (a 19) 768 fworths), (aI k (a 20) 5 fstarts), (aI k (a 21) 4 fends), (aZ k (a 22) 4 fgoesRound), (aI k (a 23) 8 fbegin)]) [0, 1, 2, 3, 4, 5, 6, 7, 8, 9, 10] (by decide) rfl
    exact W.iret (v := (-1001)) hx hb hr (fun t ht hW => ⟨⟨(-1001), (fons, fworths, fstarts, fends, fgoesRound, fbegin), rfl, trivial, by rw [ht]; exact hP9, hD9⟩, hS.F ht⟩) hS.2.2 dX8_worth_20

theorem dX8_goingOn_0 : decode cX8_goingOn 0 = .ok (.aload_n 0, 1) := by decide +kernel
theorem dX8_goingOn_1 : decode cX8_goingOn 1 = .ok (.iload_n 1, 1) := by decide +kernel
theorem dX8_goingOn_2 : decode cX8_goingOn 2 = .ok (.invokevirtual 206, 3) := by decide +kernel
theorem dX8_goingOn_5 : decode cX8_goingOn 5 = .ok (.ifCond .eq 12, 3) := by decide +kernel
theorem dX8_goingOn_8 : decode cX8_goingOn 8 = .ok (.aload_n 0, 1) := by decide +kernel
theorem dX8_goingOn_9 : decode cX8_goingOn 9 = .ok (.iload_n 1, 1) := by decide +kernel
theorem dX8_goingOn_10 : decode cX8_goingOn 10 = .ok (.iload_n 3, 1) := by decide +kernel
theorem dX8_goingOn_11 : decode cX8_goingOn 11 = .ok (.invokevirtual 215, 3) := by decide +kernel
theorem dX8_goingOn_14 : decode cX8_goingOn 14 = .ok (.ifCond .ne 7, 3) := by decide +kernel
theorem dX8_goingOn_17 : decode cX8_goingOn 17 = .ok (.sipush (-1001), 3) := by decide +kernel
theorem dX8_goingOn_20 : decode cX8_goingOn 20 = .ok (.ireturn, 1) := by decide +kernel
theorem dX8_goingOn_21 : decode cX8_goingOn 21 = .ok (.aload_n 0, 1) := by decide +kernel
theorem dX8_goingOn_22 : decode cX8_goingOn 22 = .ok (.iload_n 1, 1) := by decide +kernel
theorem dX8_goingOn_23 : decode cX8_goingOn 23 = .ok (.iload_n 2, 1) := by decide +kernel
theorem dX8_goingOn_24 : decode cX8_goingOn 24 = .ok (.invokevirtual 234, 3) := by decide +kernel
theorem dX8_goingOn_27 : decode cX8_goingOn 27 = .ok (.ifCond .eq 14, 3) := by decide +kernel
theorem dX8_goingOn_30 : decode cX8_goingOn 30 = .ok (.aload_n 0, 1) := by decide +kernel
theorem dX8_goingOn_31 : decode cX8_goingOn 31 = .ok (.iload_n 1, 1) := by decide +kernel
theorem dX8_goingOn_32 : decode cX8_goingOn 32 = .ok (.iload_n 3, 1) := by decide +kernel
theorem dX8_goingOn_33 : decode cX8_goingOn 33 = .ok (.iload 4, 2) := by decide +kernel
theorem dX8_goingOn_35 : decode cX8_goingOn 35 = .ok (.invokevirtual 264, 3) := by decide +kernel
theorem dX8_goingOn_38 : decode cX8_goingOn 38 = .ok (.ifCond .ne 7, 3) := by decide +kernel
theorem dX8_goingOn_41 : decode cX8_goingOn 41 = .ok (.sipush (-1002), 3) := by decide +kernel
theorem dX8_goingOn_44 : decode cX8_goingOn 44 = .ok (.ireturn, 1) := by decide +kernel
theorem dX8_goingOn_45 : decode cX8_goingOn 45 = .ok (.aload_n 0, 1) := by decide +kernel
theorem dX8_goingOn_46 : decode cX8_goingOn 46 = .ok (.iload_n 1, 1) := by decide +kernel
theorem dX8_goingOn_47 : decode cX8_goingOn 47 = .ok (.invokevirtual 268, 3) := by decide +kernel
theorem dX8_goingOn_50 : decode cX8_goingOn 50 = .ok (.aload_n 0, 1) := by decide +kernel
theorem dX8_goingOn_51 : decode cX8_goingOn 51 = .ok (.getfield 38, 3) := by decide +kernel
theorem dX8_goingOn_54 : decode cX8_goingOn 54 = .ok (.iload_n 2, 1) := by decide +kernel
theorem dX8_goingOn_55 : decode cX8_goingOn 55 = .ok (.iload_n 3, 1) := by decide +kernel
theorem dX8_goingOn_56 : decode cX8_goingOn 56 = .ok (.iload 4, 2) := by decide +kernel
theorem dX8_goingOn_58 : decode cX8_goingOn 58 = .ok (.invokestatic 242, 3) := by decide +kernel
theorem dX8_goingOn_61 : decode cX8_goingOn 61 = .ok (.iaload, 1) := by decide +kernel
theorem dX8_goingOn_62 : decode cX8_goingOn 62 = .ok (.ireturn, 1) := by decide +kernel
set_option maxHeartbeats 4000000 in
set_option maxRecDepth 100000 in
theorem m_goingOn (l : Launch) (D : va_G) (k : Nat → ClassId) (st : Nat → Nat) (lo : Nat) (a : Nat → Nat) (tx : Nat) (t0 : Nat) (we : Nat) (rd : Nat) (ru : Nat) (rw : Nat) (ca : Nat) (fp : Int32) (wd : Int64) (nu : Int32) (na : Int32) (ts : Int32) (df : Int32) (db : Int32) (sd : Int32) (dn : Nat → Nat) (se : Nat → Nat) (tm : Nat → Nat) (gs : Nat → Int32) (ffrees : Nat → Int32) (fprices : Nat → Int32) (fons : Nat → Int32) (fworths : Nat → Int32) (fstarts : Nat → Int32) (fends : Nat → Int32) (fgoesRound : Nat → Int32) (fbegin : Nat → Int32) (p0 : Int32) (p1 : Int32) (p2 : Int32) (p3 : Int32) (hdn : ∀ j, dn j ≤ 24) (hse : ∀ j, se j ≤ 2) (htm : ∀ j, tm j ≤ 3) : CWi l D k st lo yX8_goingOn cX8_goingOn 5 (some .int) ({ frames := 6, cells := 0, slots := 0, locals := 144 }) 0 0 [.ref (a 0), .int p0, .int p1, .int p2, .int p3] [((a 0), .inr (8, (fX8 a (nI tx) fp (nI t0) wd (nI we) nu na (nI rd) ts (nI ru) (nI rw) (nI ca) df db sd))), (aI k (a 1) 3 (nF dn)), (aI k (a 4) 27 (sg se tm gs)), (aI k (a 2) 72 ffrees), (aI k (a 3) 72 fprices), (aI k (a 18) 768 fons), (aI k (a 19) 768 fworths), (aI k (a 20) 5 fstarts), (aI k (a 21) 4 fends), (aZ k (a 22) 4 fgoesRound), (aI k (a 23) 8 fbegin)] (fun (r : Int32) (u : (Nat → Int32) × (Nat → Int32) × (Nat → Int32) × (Nat → Int32) × (Nat → Int32) × (Nat → Int32)) => match u with | (fons_, fworths_, fstarts_, fends_, fgoesRound_, fbegin_) => True) (fun (u : (Nat → Int32) × (Nat → Int32) × (Nat → Int32) × (Nat → Int32) × (Nat → Int32) × (Nat → Int32)) => match u with | (fons_, fworths_, fstarts_, fends_, fgoesRound_, fbegin_) => [((a 0), .inr (8, (fX8 a (nI tx) fp (nI t0) wd (nI we) nu na (nI rd) ts (nI ru) (nI rw) (nI ca) df db sd))), (aI k (a 1) 3 (nF dn)), (aI k (a 4) 27 (sg se tm gs)), (aI k (a 2) 72 ffrees), (aI k (a 3) 72 fprices), (aI k (a 18) 768 fons_), (aI k (a 19) 768 fworths_), (aI k (a 20) 5 fstarts_), (aI k (a 21) 4 fends_), (aZ k (a 22) 4 fgoesRound_), (aI k (a 23) 8 fbegin_)]) := by
  intro sz
  refine Met.ofW (cc := cX8_goingOn) (maxL := 5) (ret := (some .int)) (by decide) rfl ?_
  intro p e s m args below meth c s₁ B hml hv
  obtain ⟨rfl, hsz, hlo, hP, hK, hDL, hZ⟩ := hv
  have hx := B.exec
  have hb := B.bytes
  have hr := B.returns
  have hts := WS_ts B.pre
  have hown : s.vm.findClass RX8 = some m.cls := findClass_of_methodNamed B.named
  have hlocks := B.notSynchronized
  subst hsz
  have hD := hDL.self (sz := s.heap.size)
  have hAlo := A_lo hDL hlo
  generalize hAe : va_A [((a 0), .inr (8, (fX8 a (nI tx) fp (nI t0) wd (nI we) nu na (nI rd) ts (nI ru) (nI rw) (nI ca) df db sd))), (aI k (a 1) 3 (nF dn)), (aI k (a 4) 27 (sg se tm gs)), (aI k (a 2) 72 ffrees), (aI k (a 3) 72 fprices), (aI k (a 18) 768 fons), (aI k (a 19) 768 fworths), (aI k (a 20) 5 fstarts), (aI k (a 21) 4 fends), (aZ k (a 22) 4 fgoesRound), (aI k (a 23) 8 fbegin)] s.heap.size = A at hD hAlo ⊢
  have hA : ∀ q : Nat, s.heap.size ≤ q → A q := fun q h => by rw [← hAe]; exact Or.inr h
  have hS : va_S A s.heap s.heap [] := va_S.rf
  have hl := lv_entry ([.ref (a 0), .int p0, .int p1, .int p2, .int p3]) (n := 5) (Nat.le_of_ble_eq_true rfl)
  rw [lg_entry_eq]
  generalize (lg_sl ([.ref (a 0), .int p0, .int p1, .int p2, .int p3]) ++ List.replicate (5 - (lg_sl ([.ref (a 0), .int p0, .int p1, .int p2, .int p3])).length) Slot.unset).toArray = ls at hl ⊢
  have hl : lv_has ls 5 [(0, .ref (a 0)), (1, .int p0), (2, .int p1), (3, .int p2), (4, .int p3)] := hl
  refine lv_aload_n hx hb dX8_goingOn_0 rfl (lv_at hl 0 rfl) ?_
  refine lv_iload_n hx hb dX8_goingOn_1 rfl (lv_at hl 1 rfl) ?_
  refine ro_i (D := D) (va_runV (As := [.int p0]) (rest := []) ⟨hx, hb, hml, hown, hts⟩ ((m_isStreet l D k st lo a tx t0 we rd ru rw ca fp wd nu na ts df db sd dn p0 hdn) s.heap.size) (cwV 1 hts (gV tw_1189 tw_1191 tw_38 tw_87 tw_1192) rfl rfl rfl (by decide +kernel) ⟨Nat.le_of_ble_eq_true rfl, Nat.le_of_ble_eq_true rfl⟩) (pV hS hAlo hlo hP hK (va_Dlo hD hAlo) hZ [0, 1] (by decide) rfl (ci := 8) (q := (RX8, TX8, 44)) (q0 := 0) rfl rfl) rfl rfl hl.1 rfl (lv_room (Nat.le_of_ble_eq_true rfl)) dX8_goingOn_2 ⟨Nat.le_of_ble_eq_true rfl, Nat.le_of_ble_eq_true rfl⟩) hS hA hP (fun r_1 H locs hw_1 hP hS => ?_)
  try dsimp only at hw_1
  rcases hw_1 with ⟨rfl, j_2, hj_2, rfl, hw_1⟩ | rfl
  · have hdj_2 := hdn j_2
    have htj_2 := htm j_2
    refine lv_if_eq (tgt := 17) hx hb dX8_goingOn_5 (by decide) (fun h => absurd h (by decide)) (fun _ => ?_)
    refine lv_aload_n hx hb dX8_goingOn_8 rfl (lv_at hl 0 rfl) ?_
    refine lv_iload_n hx hb dX8_goingOn_9 rfl (lv_at hl 1 rfl) ?_
    refine lv_iload_n hx hb dX8_goingOn_10 rfl (lv_at hl 3 rfl) ?_
    refine ro_i (D := D) (va_runV (As := [.int (nI j_2), .int p2]) (rest := []) ⟨hx, hb, hml, hown, hts⟩ ((m_isDoor l D k st lo a tx t0 we rd ru rw ca fp wd nu na ts df db sd dn j_2 p2 hdn (by omega)) H.size) (cwV 2 hts (gV tw_1202 tw_1204 tw_40 tw_87 tw_1205) rfl rfl rfl (by decide +kernel) ⟨Nat.le_of_ble_eq_true rfl, Nat.le_of_ble_eq_true rfl⟩) (pV hS hAlo hlo hP hK (va_Dlo hD hAlo) hZ [0, 1] (by decide) rfl (ci := 8) (q := (RX8, TX8, 44)) (q0 := 0) rfl rfl) rfl rfl hl.1 rfl (lv_room (Nat.le_of_ble_eq_true rfl)) dX8_goingOn_11 ⟨Nat.le_of_ble_eq_true rfl, Nat.le_of_ble_eq_true rfl⟩) hS hA hP (fun r_3 H locs hw_3 hP hS => ?_)
    try dsimp only at hw_3
    rcases hw_3 with ⟨rfl, j_4, hj_4, rfl, hw_3⟩ | rfl
    · refine lv_if_ne (tgt := 21) hx hb dX8_goingOn_14 (by decide) (fun _ => ?_) (fun h => absurd h (by decide))
      refine lv_aload_n hx hb dX8_goingOn_21 rfl (lv_at hl 0 rfl) ?_
      refine lv_iload_n hx hb dX8_goingOn_22 rfl (lv_at hl 1 rfl) ?_
      refine lv_iload_n hx hb dX8_goingOn_23 rfl (lv_at hl 2 rfl) ?_
      refine ro_i (D := D) (va_runV (As := [.int (nI j_2), .int p1]) (rest := []) ⟨hx, hb, hml, hown, hts⟩ ((m_isRound l D k st lo a tx t0 we rd ru rw ca fp wd nu na ts df db sd se tm gs j_2 p1 htm (by omega)) H.size) (cwV 2 hts (gV tw_1218 tw_1220 tw_42 tw_87 tw_1221) rfl rfl rfl (by decide +kernel) ⟨Nat.le_of_ble_eq_true rfl, Nat.le_of_ble_eq_true rfl⟩) (pV hS hAlo hlo hP hK (va_Dlo hD hAlo) hZ [0, 2] (by decide) rfl (ci := 8) (q := (RX8, TX8, 44)) (q0 := 0) rfl rfl) rfl rfl hl.1 rfl (lv_room (Nat.le_of_ble_eq_true rfl)) dX8_goingOn_24 ⟨Nat.le_of_ble_eq_true rfl, Nat.le_of_ble_eq_true rfl⟩) hS hA hP (fun r_5 H locs hw_5 hP hS => ?_)
      try dsimp only at hw_5
      rcases hw_5 with ⟨rfl, j_6, hj_6, rfl, hw_5⟩ | rfl
      · refine lv_if_eq (tgt := 41) hx hb dX8_goingOn_27 (by decide) (fun h => absurd h (by decide)) (fun _ => ?_)
        refine lv_aload_n hx hb dX8_goingOn_30 rfl (lv_at hl 0 rfl) ?_
        refine lv_iload_n hx hb dX8_goingOn_31 rfl (lv_at hl 1 rfl) ?_
        refine lv_iload_n hx hb dX8_goingOn_32 rfl (lv_at hl 3 rfl) ?_
        refine lv_iload hx hb dX8_goingOn_33 (lv_at hl 4 rfl) ?_
        refine ro_i (D := D) (va_runV (As := [.int (nI j_2), .int (nI j_4), .int p3]) (rest := []) ⟨hx, hb, hml, hown, hts⟩ ((m_isSight l D k st lo a tx t0 we rd ru rw ca fp wd nu na ts df db sd dn se tm gs j_2 j_4 p3 hdn hse (by omega) (by omega)) H.size) (cwV 3 hts (gV tw_1242 tw_1244 tw_47 tw_87 tw_1245) rfl rfl rfl (by decide +kernel) ⟨Nat.le_of_ble_eq_true rfl, Nat.le_of_ble_eq_true rfl⟩) (pV hS hAlo hlo hP hK (va_Dlo hD hAlo) hZ [0, 1, 2] (by decide) rfl (ci := 8) (q := (RX8, TX8, 44)) (q0 := 0) rfl rfl) rfl rfl hl.1 rfl (lv_room (Nat.le_of_ble_eq_true rfl)) dX8_goingOn_35 ⟨Nat.le_of_ble_eq_true rfl, Nat.le_of_ble_eq_true rfl⟩) hS hA hP (fun r_7 H locs hw_7 hP hS => ?_)
        try dsimp only at hw_7
        rcases hw_7 with ⟨rfl, j_8, hj_8, rfl, hw_7⟩ | rfl
        · refine lv_if_ne (tgt := 45) hx hb dX8_goingOn_38 (by decide) (fun _ => ?_) (fun h => absurd h (by decide))
          refine lv_aload_n hx hb dX8_goingOn_45 rfl (lv_at hl 0 rfl) ?_
          refine lv_iload_n hx hb dX8_goingOn_46 rfl (lv_at hl 1 rfl) ?_
          refine rw_v (D := D) (wr := []) (va_runV (As := [.int (nI j_2)]) (rest := []) ⟨hx, hb, hml, hown, hts⟩ ((m_findWay l D k st lo a tx t0 we rd ru rw ca fp wd nu na ts df db sd dn se tm gs ffrees fprices fons fworths fstarts fends fgoesRound fbegin j_2 hdn hse htm (by omega) (by omega)) H.size) (cwV 1 hts (gV tw_1250 tw_1252 tw_49 tw_87 tw_1253) rfl rfl rfl (by decide +kernel) ⟨Nat.le_of_ble_eq_true rfl, Nat.le_of_ble_eq_true rfl⟩) (pV hS hAlo hlo hP hK (va_Dlo hD hAlo) hZ [0, 1, 2, 3, 4, 5, 6, 7, 8, 9, 10] (by decide) rfl (ci := 8) (q := (RX8, TX8, 44)) (q0 := 0) rfl rfl) rfl rfl hl.1 rfl (lv_room (Nat.le_of_ble_eq_true rfl)) dX8_goingOn_47 ⟨Nat.le_of_ble_eq_true rfl, Nat.le_of_ble_eq_true rfl⟩) hS hA hP hD [0, 1, 2, 3, 4, 5, 6, 7, 8, 9, 10] [] rfl rfl (by decide) (by decide) (fun u H locs hw_9 hP hD hS => ?_)
          obtain ⟨fons__9, fworths__9, fstarts__9, fends__9, fgoesRound__9, fbegin__9⟩ := u
          replace hP : va_P D classes [((a 0), .inr (8, (fX8 a (nI tx) fp (nI t0) wd (nI we) nu na (nI rd) ts (nI ru) (nI rw) (nI ca) df db sd))), (aI k (a 1) 3 (nF dn)), (aI k (a 4) 27 (sg se tm gs)), (aI k (a 2) 72 ffrees), (aI k (a 3) 72 fprices), (aI k (a 18) 768 fons__9), (aI k (a 19) 768 fworths__9), (aI k (a 20) 5 fstarts__9), (aI k (a 21) 4 fends__9), (aZ k (a 22) 4 fgoesRound__9), (aI k (a 23) 8 fbegin__9)] H := hP
          replace hD : va_D A [((a 0), .inr (8, (fX8 a (nI tx) fp (nI t0) wd (nI we) nu na (nI rd) ts (nI ru) (nI rw) (nI ca) df db sd))), (aI k (a 1) 3 (nF dn)), (aI k (a 4) 27 (sg se tm gs)), (aI k (a 2) 72 ffrees), (aI k (a 3) 72 fprices), (aI k (a 18) 768 fons__9), (aI k (a 19) 768 fworths__9), (aI k (a 20) 5 fstarts__9), (aI k (a 21) 4 fends__9), (aZ k (a 22) 4 fgoesRound__9), (aI k (a 23) 8 fbegin__9)] := hD
          try dsimp only at hw_9
          refine lv_aload_n hx hb dX8_goingOn_50 rfl (lv_at hl 0 rfl) ?_
          refine va_get (D := D) (ci := 8) (v := .ref (a 18)) (C := RX8) (T := TX8) (N := 44) hx hb hts inX8 hown hK hP 0 rfl rfl 17 (by decide) (hts _ tw_990) (fun _ h9 => h9) rfl dX8_goingOn_51 ?_
          refine lv_iload_n hx hb dX8_goingOn_54 rfl (lv_at hl 2 rfl) ?_
          refine lv_iload_n hx hb dX8_goingOn_55 rfl (lv_at hl 3 rfl) ?_
          refine lv_iload hx hb dX8_goingOn_56 (lv_at hl 4 rfl) ?_
          refine ro_i (D := D) (va_runS (As := [.int (nI j_6), .int (nI j_4), .int (nI j_8)]) (rest := [.ref (a 18)]) ⟨hx, hb, hml, hown, hts⟩ ((m_at l D k st lo j_6 j_4 j_8) H.size) (va_cwS 3 hts (gS tw_1266 tw_1267 tw_87 tw_1268) rfl rfl rfl (by decide +kernel) ⟨Nat.le_of_ble_eq_true rfl, Nat.le_of_ble_eq_true rfl⟩) (pS hS hAlo hlo hP hK (va_Dlo hD hAlo) hZ [] (by decide) rfl) rfl rfl hl.1 rfl (lv_room (Nat.le_of_ble_eq_true rfl)) dX8_goingOn_58 ⟨Nat.le_of_ble_eq_true rfl, Nat.le_of_ble_eq_true rfl⟩) hS hA hP (fun r_10 H locs hw_10 hP hS => ?_)
          try dsimp only at hw_10
          subst hw_10
          refine va_iald hx hb hK hP 5 1 rfl rfl (vp_in_nI (by omega) (by decide)) dX8_goingOn_61 ?_
          refine lv_ti (y := (fons__9 (192 * j_6 + 8 * j_4 + j_8))) (by rw [nI_clamp (by omega)]) ?_
          have hP9 := hP.sub (ws' := [((a 0), .inr (8, (fX8 a (nI tx) fp (nI t0) wd (nI we) nu na (nI rd) ts (nI ru) (nI rw) (nI ca) df db sd))), (aI k (a 1) 3 (nF dn)), (aI k (a 4) 27 (sg se tm gs)), (aI k (a 2) 72 ffrees), (aI k (a 3) 72 fprices), (aI k (a 18) 768 fons__9), (aI k (a 19) 768 fworths__9), (aI k (a 20) 5 fstarts__9), (aI k (a 21) 4 fends__9), (aZ k (a 22) 4 fgoesRound__9), (aI k (a 23) 8 fbegin__9)]) [0, 1, 2, 3, 4, 5, 6, 7, 8, 9, 10] rfl
          have hD9 := hD.sub (ws' := [((a 0), .inr (8, (fX8 a (nI tx) fp (nI t0) wd (nI we) nu na (nI rd) ts (nI ru) (nI rw) (nI ca) df db sd))), (aI k (a 1) 3 (nF dn)), (aI k (a 4) 27 (sg se tm gs)), (aI k (a 2) 72 ffrees), (aI k (a 3) 72 fprices), (aI k (a 18) 768 fons__9), (aI k (a 19) 768 fworths__9), (aI k (a 20) 5 fstarts__9), (aI k (a 21) 4 fends__9), (aZ k (a 22) 4 fgoesRound__9), (aI k (a 23) 8 fbegin__9)]) [0, 1, 2, 3, 4, 5, 6, 7, 8, 9, 10] (by decide) rfl
          exact W.iret (v := (fons__9 (192 * j_6 + 8 * j_4 + j_8))) hx hb hr (fun t ht hW => ⟨⟨(fons__9 (192 * j_6 + 8 * j_4 + j_8)), (fons__9, fworths__9, fstarts__9, fends__9, fgoesRound__9, fbegin__9), rfl, trivial, by rw [ht]; exact hP9, hD9⟩, hS.F ht⟩) hS.2.2 dX8_goingOn_62
        · refine lv_if_ne (tgt := 45) hx hb dX8_goingOn_38 (by decide) (fun h => absurd (by decide) h) (fun _ => ?_)
          refine lv_sipush (v := (-1002)) hx hb dX8_goingOn_41 (by decide) ?_
          have hP9 := hP.sub (ws' := [((a 0), .inr (8, (fX8 a (nI tx) fp (nI t0) wd (nI we) nu na (nI rd) ts (nI ru) (nI rw) (nI ca) df db sd))), (aI k (a 1) 3 (nF dn)), (aI k (a 4) 27 (sg se tm gs)), (aI k (a 2) 72 ffrees), (aI k (a 3) 72 fprices), (aI k (a 18) 768 fons), (aI k (a 19) 768 fworths), (aI k (a 20) 5 fstarts), (aI k (a 21) 4 fends), (aZ k (a 22) 4 fgoesRound), (aI k (a 23) 8 fbegin)]) [0, 1, 2, 3, 4, 5, 6, 7, 8, 9, 10] rfl
          have hD9 := hD.sub (ws' := [((a 0), .inr (8, (fX8 a (nI tx) fp (nI t0) wd (nI we) nu na (nI rd) ts (nI ru) (nI rw) (nI ca) df db sd))), (aI k (a 1) 3 (nF dn)), (aI k (a 4) 27 (sg se tm gs)), (aI k (a 2) 72 ffrees), (aI k (a 3) 72 fprices), (aI k (a 18) 768 fons), (aI k (a 19) 768 fworths), (aI k (a 20) 5 fstarts), (aI k (a 21) 4 fends), (aZ k (a 22) 4 fgoesRound), (aI k (a 23) 8 fbegin)]) [0, 1, 2, 3, 4, 5, 6, 7, 8, 9, 10] (by decide) rfl
          exact W.iret (v := (-1002)) hx hb hr (fun t ht hW => ⟨⟨(-1002), (fons, fworths, fstarts, fends, fgoesRound, fbegin), rfl, trivial, by rw [ht]; exact hP9, hD9⟩, hS.F ht⟩) hS.2.2 dX8_goingOn_44
      · refine lv_if_eq (tgt := 41) hx hb dX8_goingOn_27 (by decide) (fun _ => ?_) (fun h => absurd (by decide) h)
        refine lv_sipush (v := (-1002)) hx hb dX8_goingOn_41 (by decide) ?_
        have hP9 := hP.sub (ws' := [((a 0), .inr (8, (fX8 a (nI tx) fp (nI t0) wd (nI we) nu na (nI rd) ts (nI ru) (nI rw) (nI ca) df db sd))), (aI k (a 1) 3 (nF dn)), (aI k (a 4) 27 (sg se tm gs)), (aI k (a 2) 72 ffrees), (aI k (a 3) 72 fprices), (aI k (a 18) 768 fons), (aI k (a 19) 768 fworths), (aI k (a 20) 5 fstarts), (aI k (a 21) 4 fends), (aZ k (a 22) 4 fgoesRound), (aI k (a 23) 8 fbegin)]) [0, 1, 2, 3, 4, 5, 6, 7, 8, 9, 10] rfl
        have hD9 := hD.sub (ws' := [((a 0), .inr (8, (fX8 a (nI tx) fp (nI t0) wd (nI we) nu na (nI rd) ts (nI ru) (nI rw) (nI ca) df db sd))), (aI k (a 1) 3 (nF dn)), (aI k (a 4) 27 (sg se tm gs)), (aI k (a 2) 72 ffrees), (aI k (a 3) 72 fprices), (aI k (a 18) 768 fons), (aI k (a 19) 768 fworths), (aI k (a 20) 5 fstarts), (aI k (a 21) 4 fends), (aZ k (a 22) 4 fgoesRound), (aI k (a 23) 8 fbegin)]) [0, 1, 2, 3, 4, 5, 6, 7, 8, 9, 10] (by decide) rfl
        exact W.iret (v := (-1002)) hx hb hr (fun t ht hW => ⟨⟨(-1002), (fons, fworths, fstarts, fends, fgoesRound, fbegin), rfl, trivial, by rw [ht]; exact hP9, hD9⟩, hS.F ht⟩) hS.2.2 dX8_goingOn_44
    · refine lv_if_ne (tgt := 21) hx hb dX8_goingOn_14 (by decide) (fun h => absurd (by decide) h) (fun _ => ?_)
      refine lv_sipush (v := (-1001)) hx hb dX8_goingOn_17 (by decide) ?_
      have hP9 := hP.sub (ws' := [((a 0), .inr (8, (fX8 a (nI tx) fp (nI t0) wd (nI we) nu na (nI rd) ts (nI ru) (nI rw) (nI ca) df db sd))), (aI k (a 1) 3 (nF dn)), (aI k (a 4) 27 (sg se tm gs)), (aI k (a 2) 72 ffrees), (aI k (a 3) 72 fprices), (aI k (a 18) 768 fons), (aI k (a 19) 768 fworths), (aI k (a 20) 5 fstarts), (aI k (a 21) 4 fends), (aZ k (a 22) 4 fgoesRound), (aI k (a 23) 8 fbegin)]) [0, 1, 2, 3, 4, 5, 6, 7, 8, 9, 10] rfl
      have hD9 := hD.sub (ws' := [((a 0), .inr (8, (fX8 a (nI tx) fp (nI t0) wd (nI we) nu na (nI rd) ts (nI ru) (nI rw) (nI ca) df db sd))), (aI k (a 1) 3 (nF dn)), (aI k (a 4) 27 (sg se tm gs)), (aI k (a 2) 72 ffrees), (aI k (a 3) 72 fprices), (aI k (a 18) 768 fons), (aI k (a 19) 768 fworths), (aI k (a 20) 5 fstarts), (aI k (a 21) 4 fends), (aZ k (a 22) 4 fgoesRound), (aI k (a 23) 8 fbegin)]) [0, 1, 2, 3, 4, 5, 6, 7, 8, 9, 10] (by decide) rfl
      exact W.iret (v := (-1001)) hx hb hr (fun t ht hW => ⟨⟨(-1001), (fons, fworths, fstarts, fends, fgoesRound, fbegin), rfl, trivial, by rw [ht]; exact hP9, hD9⟩, hS.F ht⟩) hS.2.2 dX8_goingOn_20
  · refine lv_if_eq (tgt := 17) hx hb dX8_goingOn_5 (by decide) (fun _ => ?_) (fun h => absurd (by decide) h)
    refine lv_sipush (v := (-1001)) hx hb dX8_goingOn_17 (by decide) ?_
    have hP9 := hP.sub (ws' := [((a 0), .inr (8, (fX8 a (nI tx) fp (nI t0) wd (nI we) nu na (nI rd) ts (nI ru) (nI rw) (nI ca) df db sd))), (aI k (a 1) 3 (nF dn)), (aI k (a 4) 27 (sg se tm gs)), (aI k (a 2) 72 ffrees), (aI k (a 3) 72 fprices), (aI k (a 18) 768 fons), (aI k (a 19) 768 fworths), (aI k (a 20) 5 fstarts), (aI k (a 21) 4 fends), (aZ k (a 22) 4 fgoesRound), (aI k (a 23) 8 fbegin)]) [0, 1, 2, 3, 4, 5, 6, 7, 8, 9, 10] rfl
    have hD9 := hD.sub (ws' := [((a 0), .inr (8, (fX8 a (nI tx) fp (nI t0) wd (nI we) nu na (nI rd) ts (nI ru) (nI rw) (nI ca) df db sd))), (aI k (a 1) 3 (nF dn)), (aI k (a 4) 27 (sg se tm gs)), (aI k (a 2) 72 ffrees), (aI k (a 3) 72 fprices), (aI k (a 18) 768 fons), (aI k (a 19) 768 fworths), (aI k (a 20) 5 fstarts), (aI k (a 21) 4 fends), (aZ k (a 22) 4 fgoesRound), (aI k (a 23) 8 fbegin)]) [0, 1, 2, 3, 4, 5, 6, 7, 8, 9, 10] (by decide) rfl
    exact W.iret (v := (-1001)) hx hb hr (fun t ht hW => ⟨⟨(-1001), (fons, fworths, fstarts, fends, fgoesRound, fbegin), rfl, trivial, by rw [ht]; exact hP9, hD9⟩, hS.F ht⟩) hS.2.2 dX8_goingOn_20

theorem dX8_takes_0 : decode cX8_takes 0 = .ok (.aload_n 0, 1) := by decide +kernel
theorem dX8_takes_1 : decode cX8_takes 1 = .ok (.iload_n 1, 1) := by decide +kernel
theorem dX8_takes_2 : decode cX8_takes 2 = .ok (.invokevirtual 206, 3) := by decide +kernel
theorem dX8_takes_5 : decode cX8_takes 5 = .ok (.ifCond .eq 12, 3) := by decide +kernel
theorem dX8_takes_8 : decode cX8_takes 8 = .ok (.aload_n 0, 1) := by decide +kernel
theorem dX8_takes_9 : decode cX8_takes 9 = .ok (.iload_n 1, 1) := by decide +kernel
theorem dX8_takes_10 : decode cX8_takes 10 = .ok (.iload_n 3, 1) := by decide +kernel
theorem dX8_takes_11 : decode cX8_takes 11 = .ok (.invokevirtual 215, 3) := by decide +kernel
theorem dX8_takes_14 : decode cX8_takes 14 = .ok (.ifCond .ne 7, 3) := by decide +kernel
theorem dX8_takes_17 : decode cX8_takes 17 = .ok (.sipush (-1001), 3) := by decide +kernel
theorem dX8_takes_20 : decode cX8_takes 20 = .ok (.ireturn, 1) := by decide +kernel
theorem dX8_takes_21 : decode cX8_takes 21 = .ok (.aload_n 0, 1) := by decide +kernel
theorem dX8_takes_22 : decode cX8_takes 22 = .ok (.iload_n 1, 1) := by decide +kernel
theorem dX8_takes_23 : decode cX8_takes 23 = .ok (.iload_n 2, 1) := by decide +kernel
theorem dX8_takes_24 : decode cX8_takes 24 = .ok (.invokevirtual 234, 3) := by decide +kernel
theorem dX8_takes_27 : decode cX8_takes 27 = .ok (.ifCond .eq 14, 3) := by decide +kernel
theorem dX8_takes_30 : decode cX8_takes 30 = .ok (.aload_n 0, 1) := by decide +kernel
theorem dX8_takes_31 : decode cX8_takes 31 = .ok (.iload_n 1, 1) := by decide +kernel
theorem dX8_takes_32 : decode cX8_takes 32 = .ok (.iload_n 3, 1) := by decide +kernel
theorem dX8_takes_33 : decode cX8_takes 33 = .ok (.iload 4, 2) := by decide +kernel
theorem dX8_takes_35 : decode cX8_takes 35 = .ok (.invokevirtual 264, 3) := by decide +kernel
theorem dX8_takes_38 : decode cX8_takes 38 = .ok (.ifCond .ne 7, 3) := by decide +kernel
theorem dX8_takes_41 : decode cX8_takes 41 = .ok (.sipush (-1002), 3) := by decide +kernel
theorem dX8_takes_44 : decode cX8_takes 44 = .ok (.ireturn, 1) := by decide +kernel
theorem dX8_takes_45 : decode cX8_takes 45 = .ok (.iload 4, 2) := by decide +kernel
theorem dX8_takes_47 : decode cX8_takes 47 = .ok (.iconst 1, 1) := by decide +kernel
theorem dX8_takes_48 : decode cX8_takes 48 = .ok (.iand, 1) := by decide +kernel
theorem dX8_takes_49 : decode cX8_takes 49 = .ok (.ifCond .ne 7, 3) := by decide +kernel
theorem dX8_takes_52 : decode cX8_takes 52 = .ok (.sipush (-1003), 3) := by decide +kernel
theorem dX8_takes_55 : decode cX8_takes 55 = .ok (.ireturn, 1) := by decide +kernel
theorem dX8_takes_56 : decode cX8_takes 56 = .ok (.aload_n 0, 1) := by decide +kernel
theorem dX8_takes_57 : decode cX8_takes 57 = .ok (.iload_n 1, 1) := by decide +kernel
theorem dX8_takes_58 : decode cX8_takes 58 = .ok (.invokevirtual 268, 3) := by decide +kernel
theorem dX8_takes_61 : decode cX8_takes 61 = .ok (.aload_n 0, 1) := by decide +kernel
theorem dX8_takes_62 : decode cX8_takes 62 = .ok (.iload_n 1, 1) := by decide +kernel
theorem dX8_takes_63 : decode cX8_takes 63 = .ok (.iload_n 2, 1) := by decide +kernel
theorem dX8_takes_64 : decode cX8_takes 64 = .ok (.iload_n 3, 1) := by decide +kernel
theorem dX8_takes_65 : decode cX8_takes 65 = .ok (.iload 4, 2) := by decide +kernel
theorem dX8_takes_67 : decode cX8_takes 67 = .ok (.invokevirtual 272, 3) := by decide +kernel
theorem dX8_takes_70 : decode cX8_takes 70 = .ok (.ifCond .eq 7, 3) := by decide +kernel
theorem dX8_takes_73 : decode cX8_takes 73 = .ok (.iconst 1, 1) := by decide +kernel
theorem dX8_takes_74 : decode cX8_takes 74 = .ok (.goto 4, 3) := by decide +kernel
theorem dX8_takes_77 : decode cX8_takes 77 = .ok (.iconst 0, 1) := by decide +kernel
theorem dX8_takes_78 : decode cX8_takes 78 = .ok (.ireturn, 1) := by decide +kernel
set_option maxHeartbeats 4000000 in
set_option maxRecDepth 100000 in
theorem m_takes (l : Launch) (D : va_G) (k : Nat → ClassId) (st : Nat → Nat) (lo : Nat) (a : Nat → Nat) (tx : Nat) (t0 : Nat) (we : Nat) (rd : Nat) (ru : Nat) (rw : Nat) (ca : Nat) (fp : Int32) (wd : Int64) (nu : Int32) (na : Int32) (ts : Int32) (df : Int32) (db : Int32) (sd : Int32) (dn : Nat → Nat) (se : Nat → Nat) (tm : Nat → Nat) (gs : Nat → Int32) (ffrees : Nat → Int32) (fprices : Nat → Int32) (fons : Nat → Int32) (fworths : Nat → Int32) (fstarts : Nat → Int32) (fends : Nat → Int32) (fgoesRound : Nat → Int32) (fbegin : Nat → Int32) (p0 : Int32) (p1 : Int32) (p2 : Int32) (p3 : Int32) (hdn : ∀ j, dn j ≤ 24) (hse : ∀ j, se j ≤ 2) (htm : ∀ j, tm j ≤ 3) : CWi l D k st lo yX8_takes cX8_takes 5 (some .int) ({ frames := 6, cells := 0, slots := 0, locals := 144 }) 0 0 [.ref (a 0), .int p0, .int p1, .int p2, .int p3] [((a 0), .inr (8, (fX8 a (nI tx) fp (nI t0) wd (nI we) nu na (nI rd) ts (nI ru) (nI rw) (nI ca) df db sd))), (aI k (a 1) 3 (nF dn)), (aI k (a 4) 27 (sg se tm gs)), (aI k (a 2) 72 ffrees), (aI k (a 3) 72 fprices), (aI k (a 18) 768 fons), (aI k (a 19) 768 fworths), (aI k (a 20) 5 fstarts), (aI k (a 21) 4 fends), (aZ k (a 22) 4 fgoesRound), (aI k (a 23) 8 fbegin)] (fun (r : Int32) (u : (Nat → Int32) × (Nat → Int32) × (Nat → Int32) × (Nat → Int32) × (Nat → Int32) × (Nat → Int32)) => match u with | (fons_, fworths_, fstarts_, fends_, fgoesRound_, fbegin_) => True) (fun (u : (Nat → Int32) × (Nat → Int32) × (Nat → Int32) × (Nat → Int32) × (Nat → Int32) × (Nat → Int32)) => match u with | (fons_, fworths_, fstarts_, fends_, fgoesRound_, fbegin_) => [((a 0), .inr (8, (fX8 a (nI tx) fp (nI t0) wd (nI we) nu na (nI rd) ts (nI ru) (nI rw) (nI ca) df db sd))), (aI k (a 1) 3 (nF dn)), (aI k (a 4) 27 (sg se tm gs)), (aI k (a 2) 72 ffrees), (aI k (a 3) 72 fprices), (aI k (a 18) 768 fons_), (aI k (a 19) 768 fworths_), (aI k (a 20) 5 fstarts_), (aI k (a 21) 4 fends_), (aZ k (a 22) 4 fgoesRound_), (aI k (a 23) 8 fbegin_)]) := by
  intro sz
  refine Met.ofW (cc := cX8_takes) (maxL := 5) (ret := (some .int)) (by decide) rfl ?_
  intro p e s m args below meth c s₁ B hml hv
  obtain ⟨rfl, hsz, hlo, hP, hK, hDL, hZ⟩ := hv
  have hx := B.exec
  have hb := B.bytes
  have hr := B.returns
  have hts := WS_ts B.pre
  have hown : s.vm.findClass RX8 = some m.cls := findClass_of_methodNamed B.named
  have hlocks := B.notSynchronized
  subst hsz
  have hD := hDL.self (sz := s.heap.size)
  have hAlo := A_lo hDL hlo
  generalize hAe : va_A [((a 0), .inr (8, (fX8 a (nI tx) fp (nI t0) wd (nI we) nu na (nI rd) ts (nI ru) (nI rw) (nI ca) df db sd))), (aI k (a 1) 3 (nF dn)), (aI k (a 4) 27 (sg se tm gs)), (aI k (a 2) 72 ffrees), (aI k (a 3) 72 fprices), (aI k (a 18) 768 fons), (aI k (a 19) 768 fworths), (aI k (a 20) 5 fstarts), (aI k (a 21) 4 fends), (aZ k (a 22) 4 fgoesRound), (aI k (a 23) 8 fbegin)] s.heap.size = A at hD hAlo ⊢
  have hA : ∀ q : Nat, s.heap.size ≤ q → A q := fun q h => by rw [← hAe]; exact Or.inr h
  have hS : va_S A s.heap s.heap [] := va_S.rf
  have hl := lv_entry ([.ref (a 0), .int p0, .int p1, .int p2, .int p3]) (n := 5) (Nat.le_of_ble_eq_true rfl)
  rw [lg_entry_eq]
  generalize (lg_sl ([.ref (a 0), .int p0, .int p1, .int p2, .int p3]) ++ List.replicate (5 - (lg_sl ([.ref (a 0), .int p0, .int p1, .int p2, .int p3])).length) Slot.unset).toArray = ls at hl ⊢
  have hl : lv_has ls 5 [(0, .ref (a 0)), (1, .int p0), (2, .int p1), (3, .int p2), (4, .int p3)] := hl
  refine lv_aload_n hx hb dX8_takes_0 rfl (lv_at hl 0 rfl) ?_
  refine lv_iload_n hx hb dX8_takes_1 rfl (lv_at hl 1 rfl) ?_
  refine ro_i (D := D) (va_runV (As := [.int p0]) (rest := []) ⟨hx, hb, hml, hown, hts⟩ ((m_isStreet l D k st lo a tx t0 we rd ru rw ca fp wd nu na ts df db sd dn p0 hdn) s.heap.size) (cwV 1 hts (gV tw_1189 tw_1191 tw_38 tw_87 tw_1192) rfl rfl rfl (by decide +kernel) ⟨Nat.le_of_ble_eq_true rfl, Nat.le_of_ble_eq_true rfl⟩) (pV hS hAlo hlo hP hK (va_Dlo hD hAlo) hZ [0, 1] (by decide) rfl (ci := 8) (q := (RX8, TX8, 44)) (q0 := 0) rfl rfl) rfl rfl hl.1 rfl (lv_room (Nat.le_of_ble_eq_true rfl)) dX8_takes_2 ⟨Nat.le_of_ble_eq_true rfl, Nat.le_of_ble_eq_true rfl⟩) hS hA hP (fun r_1 H locs hw_1 hP hS => ?_)
  try dsimp only at hw_1
  rcases hw_1 with ⟨rfl, j_2, hj_2, rfl, hw_1⟩ | rfl
  · have hdj_2 := hdn j_2
    have htj_2 := htm j_2
    refine lv_if_eq (tgt := 17) hx hb dX8_takes_5 (by decide) (fun h => absurd h (by decide)) (fun _ => ?_)
    refine lv_aload_n hx hb dX8_takes_8 rfl (lv_at hl 0 rfl) ?_
    refine lv_iload_n hx hb dX8_takes_9 rfl (lv_at hl 1 rfl) ?_
    refine lv_iload_n hx hb dX8_takes_10 rfl (lv_at hl 3 rfl) ?_
    refine ro_i (D := D) (va_runV (As := [.int (nI j_2), .int p2]) (rest := []) ⟨hx, hb, hml, hown, hts⟩ ((m_isDoor l D k st lo a tx t0 we rd ru rw ca fp wd nu na ts df db sd dn j_2 p2 hdn (by omega)) H.size) (cwV 2 hts (gV tw_1202 tw_1204 tw_40 tw_87 tw_1205) rfl rfl rfl (by decide +kernel) ⟨Nat.le_of_ble_eq_true rfl, Nat.le_of_ble_eq_true rfl⟩) (pV hS hAlo hlo hP hK (va_Dlo hD hAlo) hZ [0, 1] (by decide) rfl (ci := 8) (q := (RX8, TX8, 44)) (q0 := 0) rfl rfl) rfl rfl hl.1 rfl (lv_room (Nat.le_of_ble_eq_true rfl)) dX8_takes_11 ⟨Nat.le_of_ble_eq_true rfl, Nat.le_of_ble_eq_true rfl⟩) hS hA hP (fun r_3 H locs hw_3 hP hS => ?_)
    try dsimp only at hw_3
    rcases hw_3 with ⟨rfl, j_4, hj_4, rfl, hw_3⟩ | rfl
    · refine lv_if_ne (tgt := 21) hx hb dX8_takes_14 (by decide) (fun _ => ?_) (fun h => absurd h (by decide))
      refine lv_aload_n hx hb dX8_takes_21 rfl (lv_at hl 0 rfl) ?_
      refine lv_iload_n hx hb dX8_takes_22 rfl (lv_at hl 1 rfl) ?_
      refine lv_iload_n hx hb dX8_takes_23 rfl (lv_at hl 2 rfl) ?_
      refine ro_i (D := D) (va_runV (As := [.int (nI j_2), .int p1]) (rest := []) ⟨hx, hb, hml, hown, hts⟩ ((m_isRound l D k st lo a tx t0 we rd ru rw ca fp wd nu na ts df db sd se tm gs j_2 p1 htm (by omega)) H.size) (cwV 2 hts (gV tw_1218 tw_1220 tw_42 tw_87 tw_1221) rfl rfl rfl (by decide +kernel) ⟨Nat.le_of_ble_eq_true rfl, Nat.le_of_ble_eq_true rfl⟩) (pV hS hAlo hlo hP hK (va_Dlo hD hAlo) hZ [0, 2] (by decide) rfl (ci := 8) (q := (RX8, TX8, 44)) (q0 := 0) rfl rfl) rfl rfl hl.1 rfl (lv_room (Nat.le_of_ble_eq_true rfl)) dX8_takes_24 ⟨Nat.le_of_ble_eq_true rfl, Nat.le_of_ble_eq_true rfl⟩) hS hA hP (fun r_5 H locs hw_5 hP hS => ?_)
      try dsimp only at hw_5
      rcases hw_5 with ⟨rfl, j_6, hj_6, rfl, hw_5⟩ | rfl
      · refine lv_if_eq (tgt := 41) hx hb dX8_takes_27 (by decide) (fun h => absurd h (by decide)) (fun _ => ?_)
        refine lv_aload_n hx hb dX8_takes_30 rfl (lv_at hl 0 rfl) ?_
        refine lv_iload_n hx hb dX8_takes_31 rfl (lv_at hl 1 rfl) ?_
        refine lv_iload_n hx hb dX8_takes_32 rfl (lv_at hl 3 rfl) ?_
        refine lv_iload hx hb dX8_takes_33 (lv_at hl 4 rfl) ?_
        refine ro_i (D := D) (va_runV (As := [.int (nI j_2), .int (nI j_4), .int p3]) (rest := []) ⟨hx, hb, hml, hown, hts⟩ ((m_isSight l D k st lo a tx t0 we rd ru rw ca fp wd nu na ts df db sd dn se tm gs j_2 j_4 p3 hdn hse (by omega) (by omega)) H.size) (cwV 3 hts (gV tw_1242 tw_1244 tw_47 tw_87 tw_1245) rfl rfl rfl (by decide +kernel) ⟨Nat.le_of_ble_eq_true rfl, Nat.le_of_ble_eq_true rfl⟩) (pV hS hAlo hlo hP hK (va_Dlo hD hAlo) hZ [0, 1, 2] (by decide) rfl (ci := 8) (q := (RX8, TX8, 44)) (q0 := 0) rfl rfl) rfl rfl hl.1 rfl (lv_room (Nat.le_of_ble_eq_true rfl)) dX8_takes_35 ⟨Nat.le_of_ble_eq_true rfl, Nat.le_of_ble_eq_true rfl⟩) hS hA hP (fun r_7 H locs hw_7 hP hS => ?_)
        try dsimp only at hw_7
        rcases hw_7 with ⟨rfl, j_8, hj_8, rfl, hw_7⟩ | rfl
        · refine lv_if_ne (tgt := 45) hx hb dX8_takes_38 (by decide) (fun _ => ?_) (fun h => absurd h (by decide))
          refine lv_iload hx hb dX8_takes_45 (lv_at hl 4 rfl) ?_
          refine lv_iconst (v := 1) hx hb dX8_takes_47 (by decide) ?_
          refine lv_iand hx hb dX8_takes_48 ?_
          refine lv_topi (fun x_9 ex_9 => ?_)
          refine lv_if_ne (tgt := 56) hx hb dX8_takes_49 (by decide) (fun c_10 => ?_) (fun c_10 => ?_)
          · refine lv_aload_n hx hb dX8_takes_56 rfl (lv_at hl 0 rfl) ?_
            refine lv_iload_n hx hb dX8_takes_57 rfl (lv_at hl 1 rfl) ?_
            refine rw_v (D := D) (wr := []) (va_runV (As := [.int (nI j_2)]) (rest := []) ⟨hx, hb, hml, hown, hts⟩ ((m_findWay l D k st lo a tx t0 we rd ru rw ca fp wd nu na ts df db sd dn se tm gs ffrees fprices fons fworths fstarts fends fgoesRound fbegin j_2 hdn hse htm (by omega) (by omega)) H.size) (cwV 1 hts (gV tw_1250 tw_1252 tw_49 tw_87 tw_1253) rfl rfl rfl (by decide +kernel) ⟨Nat.le_of_ble_eq_true rfl, Nat.le_of_ble_eq_true rfl⟩) (pV hS hAlo hlo hP hK (va_Dlo hD hAlo) hZ [0, 1, 2, 3, 4, 5, 6, 7, 8, 9, 10] (by decide) rfl (ci := 8) (q := (RX8, TX8, 44)) (q0 := 0) rfl rfl) rfl rfl hl.1 rfl (lv_room (Nat.le_of_ble_eq_true rfl)) dX8_takes_58 ⟨Nat.le_of_ble_eq_true rfl, Nat.le_of_ble_eq_true rfl⟩) hS hA hP hD [0, 1, 2, 3, 4, 5, 6, 7, 8, 9, 10] [] rfl rfl (by decide) (by decide) (fun u H locs hw_11 hP hD hS => ?_)
            obtain ⟨fons__11, fworths__11, fstarts__11, fends__11, fgoesRound__11, fbegin__11⟩ := u
            replace hP : va_P D classes [((a 0), .inr (8, (fX8 a (nI tx) fp (nI t0) wd (nI we) nu na (nI rd) ts (nI ru) (nI rw) (nI ca) df db sd))), (aI k (a 1) 3 (nF dn)), (aI k (a 4) 27 (sg se tm gs)), (aI k (a 2) 72 ffrees), (aI k (a 3) 72 fprices), (aI k (a 18) 768 fons__11), (aI k (a 19) 768 fworths__11), (aI k (a 20) 5 fstarts__11), (aI k (a 21) 4 fends__11), (aZ k (a 22) 4 fgoesRound__11), (aI k (a 23) 8 fbegin__11)] H := hP
            replace hD : va_D A [((a 0), .inr (8, (fX8 a (nI tx) fp (nI t0) wd (nI we) nu na (nI rd) ts (nI ru) (nI rw) (nI ca) df db sd))), (aI k (a 1) 3 (nF dn)), (aI k (a 4) 27 (sg se tm gs)), (aI k (a 2) 72 ffrees), (aI k (a 3) 72 fprices), (aI k (a 18) 768 fons__11), (aI k (a 19) 768 fworths__11), (aI k (a 20) 5 fstarts__11), (aI k (a 21) 4 fends__11), (aZ k (a 22) 4 fgoesRound__11), (aI k (a 23) 8 fbegin__11)] := hD
            try dsimp only at hw_11
            refine lv_aload_n hx hb dX8_takes_61 rfl (lv_at hl 0 rfl) ?_
            refine lv_iload_n hx hb dX8_takes_62 rfl (lv_at hl 1 rfl) ?_
            refine lv_iload_n hx hb dX8_takes_63 rfl (lv_at hl 2 rfl) ?_
            refine lv_iload_n hx hb dX8_takes_64 rfl (lv_at hl 3 rfl) ?_
            refine lv_iload hx hb dX8_takes_65 (lv_at hl 4 rfl) ?_
            refine ro_i (D := D) (va_runV (As := [.int (nI j_2), .int (nI j_6), .int (nI j_4), .int (nI j_8)]) (rest := []) ⟨hx, hb, hml, hown, hts⟩ ((m_isTaking l D k st lo a tx t0 we rd ru rw ca fp wd nu na ts df db sd dn se tm gs fprices fons__11 j_2 j_6 j_4 j_8 (by omega) (by omega) (by omega) (by omega)) H.size) (cwV 4 hts (gV tw_1285 tw_1287 tw_54 tw_87 tw_1288) rfl rfl rfl (by decide +kernel) ⟨Nat.le_of_ble_eq_true rfl, Nat.le_of_ble_eq_true rfl⟩) (pV hS hAlo hlo hP hK (va_Dlo hD hAlo) hZ [0, 1, 2, 4, 5] (by decide) rfl (ci := 8) (q := (RX8, TX8, 44)) (q0 := 0) rfl rfl) rfl rfl hl.1 rfl (lv_room (Nat.le_of_ble_eq_true rfl)) dX8_takes_67 ⟨Nat.le_of_ble_eq_true rfl, Nat.le_of_ble_eq_true rfl⟩) hS hA hP (fun r_12 H locs hw_12 hP hS => ?_)
            try dsimp only at hw_12
            refine lv_if_eq (tgt := 77) hx hb dX8_takes_70 (by decide) (fun c_13 => ?_) (fun c_13 => ?_)
            · refine lv_iconst (v := 0) hx hb dX8_takes_77 (by decide) ?_
              have hP9 := hP.sub (ws' := [((a 0), .inr (8, (fX8 a (nI tx) fp (nI t0) wd (nI we) nu na (nI rd) ts (nI ru) (nI rw) (nI ca) df db sd))), (aI k (a 1) 3 (nF dn)), (aI k (a 4) 27 (sg se tm gs)), (aI k (a 2) 72 ffrees), (aI k (a 3) 72 fprices), (aI k (a 18) 768 fons__11), (aI k (a 19) 768 fworths__11), (aI k (a 20) 5 fstarts__11), (aI k (a 21) 4 fends__11), (aZ k (a 22) 4 fgoesRound__11), (aI k (a 23) 8 fbegin__11)]) [0, 1, 2, 3, 4, 5, 6, 7, 8, 9, 10] rfl
              have hD9 := hD.sub (ws' := [((a 0), .inr (8, (fX8 a (nI tx) fp (nI t0) wd (nI we) nu na (nI rd) ts (nI ru) (nI rw) (nI ca) df db sd))), (aI k (a 1) 3 (nF dn)), (aI k (a 4) 27 (sg se tm gs)), (aI k (a 2) 72 ffrees), (aI k (a 3) 72 fprices), (aI k (a 18) 768 fons__11), (aI k (a 19) 768 fworths__11), (aI k (a 20) 5 fstarts__11), (aI k (a 21) 4 fends__11), (aZ k (a 22) 4 fgoesRound__11), (aI k (a 23) 8 fbegin__11)]) [0, 1, 2, 3, 4, 5, 6, 7, 8, 9, 10] (by decide) rfl
              exact W.iret (v := 0) hx hb hr (fun t ht hW => ⟨⟨0, (fons__11, fworths__11, fstarts__11, fends__11, fgoesRound__11, fbegin__11), rfl, trivial, by rw [ht]; exact hP9, hD9⟩, hS.F ht⟩) hS.2.2 dX8_takes_78
            · refine lv_iconst (v := 1) hx hb dX8_takes_73 (by decide) ?_
              refine lv_goto (tgt := 78) hx hb dX8_takes_74 (by decide) ?_
              have hP9 := hP.sub (ws' := [((a 0), .inr (8, (fX8 a (nI tx) fp (nI t0) wd (nI we) nu na (nI rd) ts (nI ru) (nI rw) (nI ca) df db sd))), (aI k (a 1) 3 (nF dn)), (aI k (a 4) 27 (sg se tm gs)), (aI k (a 2) 72 ffrees), (aI k (a 3) 72 fprices), (aI k (a 18) 768 fons__11), (aI k (a 19) 768 fworths__11), (aI k (a 20) 5 fstarts__11), (aI k (a 21) 4 fends__11), (aZ k (a 22) 4 fgoesRound__11), (aI k (a 23) 8 fbegin__11)]) [0, 1, 2, 3, 4, 5, 6, 7, 8, 9, 10] rfl
              have hD9 := hD.sub (ws' := [((a 0), .inr (8, (fX8 a (nI tx) fp (nI t0) wd (nI we) nu na (nI rd) ts (nI ru) (nI rw) (nI ca) df db sd))), (aI k (a 1) 3 (nF dn)), (aI k (a 4) 27 (sg se tm gs)), (aI k (a 2) 72 ffrees), (aI k (a 3) 72 fprices), (aI k (a 18) 768 fons__11), (aI k (a 19) 768 fworths__11), (aI k (a 20) 5 fstarts__11), (aI k (a 21) 4 fends__11), (aZ k (a 22) 4 fgoesRound__11), (aI k (a 23) 8 fbegin__11)]) [0, 1, 2, 3, 4, 5, 6, 7, 8, 9, 10] (by decide) rfl
              exact W.iret (v := 1) hx hb hr (fun t ht hW => ⟨⟨1, (fons__11, fworths__11, fstarts__11, fends__11, fgoesRound__11, fbegin__11), rfl, trivial, by rw [ht]; exact hP9, hD9⟩, hS.F ht⟩) hS.2.2 dX8_takes_78
          · refine lv_sipush (v := (-1003)) hx hb dX8_takes_52 (by decide) ?_
            have hP9 := hP.sub (ws' := [((a 0), .inr (8, (fX8 a (nI tx) fp (nI t0) wd (nI we) nu na (nI rd) ts (nI ru) (nI rw) (nI ca) df db sd))), (aI k (a 1) 3 (nF dn)), (aI k (a 4) 27 (sg se tm gs)), (aI k (a 2) 72 ffrees), (aI k (a 3) 72 fprices), (aI k (a 18) 768 fons), (aI k (a 19) 768 fworths), (aI k (a 20) 5 fstarts), (aI k (a 21) 4 fends), (aZ k (a 22) 4 fgoesRound), (aI k (a 23) 8 fbegin)]) [0, 1, 2, 3, 4, 5, 6, 7, 8, 9, 10] rfl
            have hD9 := hD.sub (ws' := [((a 0), .inr (8, (fX8 a (nI tx) fp (nI t0) wd (nI we) nu na (nI rd) ts (nI ru) (nI rw) (nI ca) df db sd))), (aI k (a 1) 3 (nF dn)), (aI k (a 4) 27 (sg se tm gs)), (aI k (a 2) 72 ffrees), (aI k (a 3) 72 fprices), (aI k (a 18) 768 fons), (aI k (a 19) 768 fworths), (aI k (a 20) 5 fstarts), (aI k (a 21) 4 fends), (aZ k (a 22) 4 fgoesRound), (aI k (a 23) 8 fbegin)]) [0, 1, 2, 3, 4, 5, 6, 7, 8, 9, 10] (by decide) rfl
            exact W.iret (v := (-1003)) hx hb hr (fun t ht hW => ⟨⟨(-1003), (fons, fworths, fstarts, fends, fgoesRound, fbegin), rfl, trivial, by rw [ht]; exact hP9, hD9⟩, hS.F ht⟩) hS.2.2 dX8_takes_55
        · refine lv_if_ne (tgt := 45) hx hb dX8_takes_38 (by decide) (fun h => absurd (by decide) h) (fun _ => ?_)
          refine lv_sipush (v := (-1002)) hx hb dX8_takes_41 (by decide) ?_
          have hP9 := hP.sub (ws' := [((a 0), .inr (8, (fX8 a (nI tx) fp (nI t0) wd (nI we) nu na (nI rd) ts (nI ru) (nI rw) (nI ca) df db sd))), (aI k (a 1) 3 (nF dn)), (aI k (a 4) 27 (sg se tm gs)), (aI k (a 2) 72 ffrees), (aI k (a 3) 72 fprices), (aI k (a 18) 768 fons), (aI k (a 19) 768 fworths), (aI k (a 20) 5 fstarts), (aI k (a 21) 4 fends), (aZ k (a 22) 4 fgoesRound), (aI k (a 23) 8 fbegin)]) [0, 1, 2, 3, 4, 5, 6, 7, 8, 9, 10] rfl
          have hD9 := hD.sub (ws' := [((a 0), .inr (8, (fX8 a (nI tx) fp (nI t0) wd (nI we) nu na (nI rd) ts (nI ru) (nI rw) (nI ca) df db sd))), (aI k (a 1) 3 (nF dn)), (aI k (a 4) 27 (sg se tm gs)), (aI k (a 2) 72 ffrees), (aI k (a 3) 72 fprices), (aI k (a 18) 768 fons), (aI k (a 19) 768 fworths), (aI k (a 20) 5 fstarts), (aI k (a 21) 4 fends), (aZ k (a 22) 4 fgoesRound), (aI k (a 23) 8 fbegin)]) [0, 1, 2, 3, 4, 5, 6, 7, 8, 9, 10] (by decide) rfl
          exact W.iret (v := (-1002)) hx hb hr (fun t ht hW => ⟨⟨(-1002), (fons, fworths, fstarts, fends, fgoesRound, fbegin), rfl, trivial, by rw [ht]; exact hP9, hD9⟩, hS.F ht⟩) hS.2.2 dX8_takes_44
      · refine lv_if_eq (tgt := 41) hx hb dX8_takes_27 (by decide) (fun _ => ?_) (fun h => absurd (by decide) h)
        refine lv_sipush (v := (-1002)) hx hb dX8_takes_41 (by decide) ?_
        have hP9 := hP.sub (ws' := [((a 0), .inr (8, (fX8 a (nI tx) fp (nI t0) wd (nI we) nu na (nI rd) ts (nI ru) (nI rw) (nI ca) df db sd))), (aI k (a 1) 3 (nF dn)), (aI k (a 4) 27 (sg se tm gs)), (aI k (a 2) 72 ffrees), (aI k (a 3) 72 fprices), (aI k (a 18) 768 fons), (aI k (a 19) 768 fworths), (aI k (a 20) 5 fstarts), (aI k (a 21) 4 fends), (aZ k (a 22) 4 fgoesRound), (aI k (a 23) 8 fbegin)]) [0, 1, 2, 3, 4, 5, 6, 7, 8, 9, 10] rfl
        have hD9 := hD.sub (ws' := [((a 0), .inr (8, (fX8 a (nI tx) fp (nI t0) wd (nI we) nu na (nI rd) ts (nI ru) (nI rw) (nI ca) df db sd))), (aI k (a 1) 3 (nF dn)), (aI k (a 4) 27 (sg se tm gs)), (aI k (a 2) 72 ffrees), (aI k (a 3) 72 fprices), (aI k (a 18) 768 fons), (aI k (a 19) 768 fworths), (aI k (a 20) 5 fstarts), (aI k (a 21) 4 fends), (aZ k (a 22) 4 fgoesRound), (aI k (a 23) 8 fbegin)]) [0, 1, 2, 3, 4, 5, 6, 7, 8, 9, 10] (by decide) rfl
        exact W.iret (v := (-1002)) hx hb hr (fun t ht hW => ⟨⟨(-1002), (fons, fworths, fstarts, fends, fgoesRound, fbegin), rfl, trivial, by rw [ht]; exact hP9, hD9⟩, hS.F ht⟩) hS.2.2 dX8_takes_44
    · refine lv_if_ne (tgt := 21) hx hb dX8_takes_14 (by decide) (fun h => absurd (by decide) h) (fun _ => ?_)
      refine lv_sipush (v := (-1001)) hx hb dX8_takes_17 (by decide) ?_
      have hP9 := hP.sub (ws' := [((a 0), .inr (8, (fX8 a (nI tx) fp (nI t0) wd (nI we) nu na (nI rd) ts (nI ru) (nI rw) (nI ca) df db sd))), (aI k (a 1) 3 (nF dn)), (aI k (a 4) 27 (sg se tm gs)), (aI k (a 2) 72 ffrees), (aI k (a 3) 72 fprices), (aI k (a 18) 768 fons), (aI k (a 19) 768 fworths), (aI k (a 20) 5 fstarts), (aI k (a 21) 4 fends), (aZ k (a 22) 4 fgoesRound), (aI k (a 23) 8 fbegin)]) [0, 1, 2, 3, 4, 5, 6, 7, 8, 9, 10] rfl
      have hD9 := hD.sub (ws' := [((a 0), .inr (8, (fX8 a (nI tx) fp (nI t0) wd (nI we) nu na (nI rd) ts (nI ru) (nI rw) (nI ca) df db sd))), (aI k (a 1) 3 (nF dn)), (aI k (a 4) 27 (sg se tm gs)), (aI k (a 2) 72 ffrees), (aI k (a 3) 72 fprices), (aI k (a 18) 768 fons), (aI k (a 19) 768 fworths), (aI k (a 20) 5 fstarts), (aI k (a 21) 4 fends), (aZ k (a 22) 4 fgoesRound), (aI k (a 23) 8 fbegin)]) [0, 1, 2, 3, 4, 5, 6, 7, 8, 9, 10] (by decide) rfl
      exact W.iret (v := (-1001)) hx hb hr (fun t ht hW => ⟨⟨(-1001), (fons, fworths, fstarts, fends, fgoesRound, fbegin), rfl, trivial, by rw [ht]; exact hP9, hD9⟩, hS.F ht⟩) hS.2.2 dX8_takes_20
  · refine lv_if_eq (tgt := 17) hx hb dX8_takes_5 (by decide) (fun _ => ?_) (fun h => absurd (by decide) h)
    refine lv_sipush (v := (-1001)) hx hb dX8_takes_17 (by decide) ?_
    have hP9 := hP.sub (ws' := [((a 0), .inr (8, (fX8 a (nI tx) fp (nI t0) wd (nI we) nu na (nI rd) ts (nI ru) (nI rw) (nI ca) df db sd))), (aI k (a 1) 3 (nF dn)), (aI k (a 4) 27 (sg se tm gs)), (aI k (a 2) 72 ffrees), (aI k (a 3) 72 fprices), (aI k (a 18) 768 fons), (aI k (a 19) 768 fworths), (aI k (a 20) 5 fstarts), (aI k (a 21) 4 fends), (aZ k (a 22) 4 fgoesRound), (aI k (a 23) 8 fbegin)]) [0, 1, 2, 3, 4, 5, 6, 7, 8, 9, 10] rfl
    have hD9 := hD.sub (ws' := [((a 0), .inr (8, (fX8 a (nI tx) fp (nI t0) wd (nI we) nu na (nI rd) ts (nI ru) (nI rw) (nI ca) df db sd))), (aI k (a 1) 3 (nF dn)), (aI k (a 4) 27 (sg se tm gs)), (aI k (a 2) 72 ffrees), (aI k (a 3) 72 fprices), (aI k (a 18) 768 fons), (aI k (a 19) 768 fworths), (aI k (a 20) 5 fstarts), (aI k (a 21) 4 fends), (aZ k (a 22) 4 fgoesRound), (aI k (a 23) 8 fbegin)]) [0, 1, 2, 3, 4, 5, 6, 7, 8, 9, 10] (by decide) rfl
    exact W.iret (v := (-1001)) hx hb hr (fun t ht hW => ⟨⟨(-1001), (fons, fworths, fstarts, fends, fgoesRound, fbegin), rfl, trivial, by rw [ht]; exact hP9, hD9⟩, hS.F ht⟩) hS.2.2 dX8_takes_20

theorem dX8_start_0 : decode cX8_start 0 = .ok (.aload_n 0, 1) := by decide +kernel
theorem dX8_start_1 : decode cX8_start 1 = .ok (.iload_n 1, 1) := by decide +kernel
theorem dX8_start_2 : decode cX8_start 2 = .ok (.invokevirtual 206, 3) := by decide +kernel
theorem dX8_start_5 : decode cX8_start 5 = .ok (.ifCond .ne 7, 3) := by decide +kernel
theorem dX8_start_8 : decode cX8_start 8 = .ok (.sipush (-1001), 3) := by decide +kernel
theorem dX8_start_11 : decode cX8_start 11 = .ok (.ireturn, 1) := by decide +kernel
theorem dX8_start_12 : decode cX8_start 12 = .ok (.aload_n 0, 1) := by decide +kernel
theorem dX8_start_13 : decode cX8_start 13 = .ok (.iload_n 1, 1) := by decide +kernel
theorem dX8_start_14 : decode cX8_start 14 = .ok (.iload_n 2, 1) := by decide +kernel
theorem dX8_start_15 : decode cX8_start 15 = .ok (.invokevirtual 234, 3) := by decide +kernel
theorem dX8_start_18 : decode cX8_start 18 = .ok (.ifCond .ne 7, 3) := by decide +kernel
theorem dX8_start_21 : decode cX8_start 21 = .ok (.sipush (-1002), 3) := by decide +kernel
theorem dX8_start_24 : decode cX8_start 24 = .ok (.ireturn, 1) := by decide +kernel
theorem dX8_start_25 : decode cX8_start 25 = .ok (.aload_n 0, 1) := by decide +kernel
theorem dX8_start_26 : decode cX8_start 26 = .ok (.iload_n 1, 1) := by decide +kernel
theorem dX8_start_27 : decode cX8_start 27 = .ok (.invokevirtual 268, 3) := by decide +kernel
theorem dX8_start_30 : decode cX8_start 30 = .ok (.aload_n 0, 1) := by decide +kernel
theorem dX8_start_31 : decode cX8_start 31 = .ok (.getfield 44, 3) := by decide +kernel
theorem dX8_start_34 : decode cX8_start 34 = .ok (.iload_n 2, 1) := by decide +kernel
theorem dX8_start_35 : decode cX8_start 35 = .ok (.iaload, 1) := by decide +kernel
theorem dX8_start_36 : decode cX8_start 36 = .ok (.ireturn, 1) := by decide +kernel
set_option maxHeartbeats 4000000 in
set_option maxRecDepth 100000 in
theorem m_start (l : Launch) (D : va_G) (k : Nat → ClassId) (st : Nat → Nat) (lo : Nat) (a : Nat → Nat) (tx : Nat) (t0 : Nat) (we : Nat) (rd : Nat) (ru : Nat) (rw : Nat) (ca : Nat) (fp : Int32) (wd : Int64) (nu : Int32) (na : Int32) (ts : Int32) (df : Int32) (db : Int32) (sd : Int32) (dn : Nat → Nat) (se : Nat → Nat) (tm : Nat → Nat) (gs : Nat → Int32) (ffrees : Nat → Int32) (fprices : Nat → Int32) (fons : Nat → Int32) (fworths : Nat → Int32) (fstarts : Nat → Int32) (fends : Nat → Int32) (fgoesRound : Nat → Int32) (fbegin : Nat → Int32) (p0 : Int32) (p1 : Int32) (hdn : ∀ j, dn j ≤ 24) (hse : ∀ j, se j ≤ 2) (htm : ∀ j, tm j ≤ 3) : CWi l D k st lo yX8_start cX8_start 3 (some .int) ({ frames := 6, cells := 0, slots := 0, locals := 144 }) 0 0 [.ref (a 0), .int p0, .int p1] [((a 0), .inr (8, (fX8 a (nI tx) fp (nI t0) wd (nI we) nu na (nI rd) ts (nI ru) (nI rw) (nI ca) df db sd))), (aI k (a 1) 3 (nF dn)), (aI k (a 4) 27 (sg se tm gs)), (aI k (a 2) 72 ffrees), (aI k (a 3) 72 fprices), (aI k (a 18) 768 fons), (aI k (a 19) 768 fworths), (aI k (a 20) 5 fstarts), (aI k (a 21) 4 fends), (aZ k (a 22) 4 fgoesRound), (aI k (a 23) 8 fbegin)] (fun (r : Int32) (u : (Nat → Int32) × (Nat → Int32) × (Nat → Int32) × (Nat → Int32) × (Nat → Int32) × (Nat → Int32)) => match u with | (fons_, fworths_, fstarts_, fends_, fgoesRound_, fbegin_) => True) (fun (u : (Nat → Int32) × (Nat → Int32) × (Nat → Int32) × (Nat → Int32) × (Nat → Int32) × (Nat → Int32)) => match u with | (fons_, fworths_, fstarts_, fends_, fgoesRound_, fbegin_) => [((a 0), .inr (8, (fX8 a (nI tx) fp (nI t0) wd (nI we) nu na (nI rd) ts (nI ru) (nI rw) (nI ca) df db sd))), (aI k (a 1) 3 (nF dn)), (aI k (a 4) 27 (sg se tm gs)), (aI k (a 2) 72 ffrees), (aI k (a 3) 72 fprices), (aI k (a 18) 768 fons_), (aI k (a 19) 768 fworths_), (aI k (a 20) 5 fstarts_), (aI k (a 21) 4 fends_), (aZ k (a 22) 4 fgoesRound_), (aI k (a 23) 8 fbegin_)]) := by
  intro sz
  refine Met.ofW (cc := cX8_start) (maxL := 3) (ret := (some .int)) (by decide) rfl ?_
  intro p e s m args below meth c s₁ B hml hv
  obtain ⟨rfl, hsz, hlo, hP, hK, hDL, hZ⟩ := hv
  have hx := B.exec
  have hb := B.bytes
  have hr := B.returns
  have hts := WS_ts B.pre
  have hown : s.vm.findClass RX8 = some m.cls := findClass_of_methodNamed B.named
  have hlocks := B.notSynchronized
  subst hsz
  have hD := hDL.self (sz := s.heap.size)
  have hAlo := A_lo hDL hlo
  generalize hAe : va_A [((a 0), .inr (8, (fX8 a (nI tx) fp (nI t0) wd (nI we) nu na (nI rd) ts (nI ru) (nI rw) (nI ca) df db sd))), (aI k (a 1) 3 (nF dn)), (aI k (a 4) 27 (sg se tm gs)), (aI k (a 2) 72 ffrees), (aI k (a 3) 72 fprices), (aI k (a 18) 768 fons), (aI k (a 19) 768 fworths), (aI k (a 20) 5 fstarts), (aI k (a 21) 4 fends), (aZ k (a 22) 4 fgoesRound), (aI k (a 23) 8 fbegin)] s.heap.size = A at hD hAlo ⊢
  have hA : ∀ q : Nat, s.heap.size ≤ q → A q := fun q h => by rw [← hAe]; exact Or.inr h
  have hS : va_S A s.heap s.heap [] := va_S.rf
  have hl := lv_entry ([.ref (a 0), .int p0, .int p1]) (n := 3) (Nat.le_of_ble_eq_true rfl)
  rw [lg_entry_eq]
  generalize (lg_sl ([.ref (a 0), .int p0, .int p1]) ++ List.replicate (3 - (lg_sl ([.ref (a 0), .int p0, .int p1])).length) Slot.unset).toArray = ls at hl ⊢
  have hl : lv_has ls 3 [(0, .ref (a 0)), (1, .int p0), (2, .int p1)] := hl
  refine lv_aload_n hx hb dX8_start_0 rfl (lv_at hl 0 rfl) ?_
  refine lv_iload_n hx hb dX8_start_1 rfl (lv_at hl 1 rfl) ?_
  refine ro_i (D := D) (va_runV (As := [.int p0]) (rest := []) ⟨hx, hb, hml, hown, hts⟩ ((m_isStreet l D k st lo a tx t0 we rd ru rw ca fp wd nu na ts df db sd dn p0 hdn) s.heap.size) (cwV 1 hts (gV tw_1189 tw_1191 tw_38 tw_87 tw_1192) rfl rfl rfl (by decide +kernel) ⟨Nat.le_of_ble_eq_true rfl, Nat.le_of_ble_eq_true rfl⟩) (pV hS hAlo hlo hP hK (va_Dlo hD hAlo) hZ [0, 1] (by decide) rfl (ci := 8) (q := (RX8, TX8, 44)) (q0 := 0) rfl rfl) rfl rfl hl.1 rfl (lv_room (Nat.le_of_ble_eq_true rfl)) dX8_start_2 ⟨Nat.le_of_ble_eq_true rfl, Nat.le_of_ble_eq_true rfl⟩) hS hA hP (fun r_1 H locs hw_1 hP hS => ?_)
  try dsimp only at hw_1
  rcases hw_1 with ⟨rfl, j_2, hj_2, rfl, hw_1⟩ | rfl
  · have hdj_2 := hdn j_2
    have htj_2 := htm j_2
    refine lv_if_ne (tgt := 12) hx hb dX8_start_5 (by decide) (fun _ => ?_) (fun h => absurd h (by decide))
    refine lv_aload_n hx hb dX8_start_12 rfl (lv_at hl 0 rfl) ?_
    refine lv_iload_n hx hb dX8_start_13 rfl (lv_at hl 1 rfl) ?_
    refine lv_iload_n hx hb dX8_start_14 rfl (lv_at hl 2 rfl) ?_
    refine ro_i (D := D) (va_runV (As := [.int (nI j_2), .int p1]) (rest := []) ⟨hx, hb, hml, hown, hts⟩ ((m_isRound l D k st lo a tx t0 we rd ru rw ca fp wd nu na ts df db sd se tm gs j_2 p1 htm (by omega)) H.size) (cwV 2 hts (gV tw_1218 tw_1220 tw_42 tw_87 tw_1221) rfl rfl rfl (by decide +kernel) ⟨Nat.le_of_ble_eq_true rfl, Nat.le_of_ble_eq_true rfl⟩) (pV hS hAlo hlo hP hK (va_Dlo hD hAlo) hZ [0, 2] (by decide) rfl (ci := 8) (q := (RX8, TX8, 44)) (q0 := 0) rfl rfl) rfl rfl hl.1 rfl (lv_room (Nat.le_of_ble_eq_true rfl)) dX8_start_15 ⟨Nat.le_of_ble_eq_true rfl, Nat.le_of_ble_eq_true rfl⟩) hS hA hP (fun r_3 H locs hw_3 hP hS => ?_)
    try dsimp only at hw_3
    rcases hw_3 with ⟨rfl, j_4, hj_4, rfl, hw_3⟩ | rfl
    · refine lv_if_ne (tgt := 25) hx hb dX8_start_18 (by decide) (fun _ => ?_) (fun h => absurd h (by decide))
      refine lv_aload_n hx hb dX8_start_25 rfl (lv_at hl 0 rfl) ?_
      refine lv_iload_n hx hb dX8_start_26 rfl (lv_at hl 1 rfl) ?_
      refine rw_v (D := D) (wr := []) (va_runV (As := [.int (nI j_2)]) (rest := []) ⟨hx, hb, hml, hown, hts⟩ ((m_findWay l D k st lo a tx t0 we rd ru rw ca fp wd nu na ts df db sd dn se tm gs ffrees fprices fons fworths fstarts fends fgoesRound fbegin j_2 hdn hse htm (by omega) (by omega)) H.size) (cwV 1 hts (gV tw_1250 tw_1252 tw_49 tw_87 tw_1253) rfl rfl rfl (by decide +kernel) ⟨Nat.le_of_ble_eq_true rfl, Nat.le_of_ble_eq_true rfl⟩) (pV hS hAlo hlo hP hK (va_Dlo hD hAlo) hZ [0, 1, 2, 3, 4, 5, 6, 7, 8, 9, 10] (by decide) rfl (ci := 8) (q := (RX8, TX8, 44)) (q0 := 0) rfl rfl) rfl rfl hl.1 rfl (lv_room (Nat.le_of_ble_eq_true rfl)) dX8_start_27 ⟨Nat.le_of_ble_eq_true rfl, Nat.le_of_ble_eq_true rfl⟩) hS hA hP hD [0, 1, 2, 3, 4, 5, 6, 7, 8, 9, 10] [] rfl rfl (by decide) (by decide) (fun u H locs hw_5 hP hD hS => ?_)
      obtain ⟨fons__5, fworths__5, fstarts__5, fends__5, fgoesRound__5, fbegin__5⟩ := u
      replace hP : va_P D classes [((a 0), .inr (8, (fX8 a (nI tx) fp (nI t0) wd (nI we) nu na (nI rd) ts (nI ru) (nI rw) (nI ca) df db sd))), (aI k (a 1) 3 (nF dn)), (aI k (a 4) 27 (sg se tm gs)), (aI k (a 2) 72 ffrees), (aI k (a 3) 72 fprices), (aI k (a 18) 768 fons__5), (aI k (a 19) 768 fworths__5), (aI k (a 20) 5 fstarts__5), (aI k (a 21) 4 fends__5), (aZ k (a 22) 4 fgoesRound__5), (aI k (a 23) 8 fbegin__5)] H := hP
      replace hD : va_D A [((a 0), .inr (8, (fX8 a (nI tx) fp (nI t0) wd (nI we) nu na (nI rd) ts (nI ru) (nI rw) (nI ca) df db sd))), (aI k (a 1) 3 (nF dn)), (aI k (a 4) 27 (sg se tm gs)), (aI k (a 2) 72 ffrees), (aI k (a 3) 72 fprices), (aI k (a 18) 768 fons__5), (aI k (a 19) 768 fworths__5), (aI k (a 20) 5 fstarts__5), (aI k (a 21) 4 fends__5), (aZ k (a 22) 4 fgoesRound__5), (aI k (a 23) 8 fbegin__5)] := hD
      try dsimp only at hw_5
      refine lv_aload_n hx hb dX8_start_30 rfl (lv_at hl 0 rfl) ?_
      refine va_get (D := D) (ci := 8) (v := .ref (a 20)) (C := RX8) (T := TX8) (N := 44) hx hb hts inX8 hown hK hP 0 rfl rfl 19 (by decide) (hts _ tw_992) (fun _ h9 => h9) rfl dX8_start_31 ?_
      refine lv_iload_n hx hb dX8_start_34 rfl (lv_at hl 2 rfl) ?_
      refine va_iald hx hb hK hP 7 1 rfl rfl (vp_in_nI (by omega) (by decide)) dX8_start_35 ?_
      refine lv_ti (y := (fstarts__5 j_4)) (by rw [nI_clamp (by omega)]) ?_
      have hP9 := hP.sub (ws' := [((a 0), .inr (8, (fX8 a (nI tx) fp (nI t0) wd (nI we) nu na (nI rd) ts (nI ru) (nI rw) (nI ca) df db sd))), (aI k (a 1) 3 (nF dn)), (aI k (a 4) 27 (sg se tm gs)), (aI k (a 2) 72 ffrees), (aI k (a 3) 72 fprices), (aI k (a 18) 768 fons__5), (aI k (a 19) 768 fworths__5), (aI k (a 20) 5 fstarts__5), (aI k (a 21) 4 fends__5), (aZ k (a 22) 4 fgoesRound__5), (aI k (a 23) 8 fbegin__5)]) [0, 1, 2, 3, 4, 5, 6, 7, 8, 9, 10] rfl
      have hD9 := hD.sub (ws' := [((a 0), .inr (8, (fX8 a (nI tx) fp (nI t0) wd (nI we) nu na (nI rd) ts (nI ru) (nI rw) (nI ca) df db sd))), (aI k (a 1) 3 (nF dn)), (aI k (a 4) 27 (sg se tm gs)), (aI k (a 2) 72 ffrees), (aI k (a 3) 72 fprices), (aI k (a 18) 768 fons__5), (aI k (a 19) 768 fworths__5), (aI k (a 20) 5 fstarts__5), (aI k (a 21) 4 fends__5), (aZ k (a 22) 4 fgoesRound__5), (aI k (a 23) 8 fbegin__5)]) [0, 1, 2, 3, 4, 5, 6, 7, 8, 9, 10] (by decide) rfl
      exact W.iret (v := (fstarts__5 j_4)) hx hb hr (fun t ht hW => ⟨⟨(fstarts__5 j_4), (fons__5, fworths__5, fstarts__5, fends__5, fgoesRound__5, fbegin__5), rfl, trivial, by rw [ht]; exact hP9, hD9⟩, hS.F ht⟩) hS.2.2 dX8_start_36
    · refine lv_if_ne (tgt := 25) hx hb dX8_start_18 (by decide) (fun h => absurd (by decide) h) (fun _ => ?_)
      refine lv_sipush (v := (-1002)) hx hb dX8_start_21 (by decide) ?_
      have hP9 := hP.sub (ws' := [((a 0), .inr (8, (fX8 a (nI tx) fp (nI t0) wd (nI we) nu na (nI rd) ts (nI ru) (nI rw) (nI ca) df db sd))), (aI k (a 1) 3 (nF dn)), (aI k (a 4) 27 (sg se tm gs)), (aI k (a 2) 72 ffrees), (aI k (a 3) 72 fprices), (aI k (a 18) 768 fons), (aI k (a 19) 768 fworths), (aI k (a 20) 5 fstarts), (aI k (a 21) 4 fends), (aZ k (a 22) 4 fgoesRound), (aI k (a 23) 8 fbegin)]) [0, 1, 2, 3, 4, 5, 6, 7, 8, 9, 10] rfl
      have hD9 := hD.sub (ws' := [((a 0), .inr (8, (fX8 a (nI tx) fp (nI t0) wd (nI we) nu na (nI rd) ts (nI ru) (nI rw) (nI ca) df db sd))), (aI k (a 1) 3 (nF dn)), (aI k (a 4) 27 (sg se tm gs)), (aI k (a 2) 72 ffrees), (aI k (a 3) 72 fprices), (aI k (a 18) 768 fons), (aI k (a 19) 768 fworths), (aI k (a 20) 5 fstarts), (aI k (a 21) 4 fends), (aZ k (a 22) 4 fgoesRound), (aI k (a 23) 8 fbegin)]) [0, 1, 2, 3, 4, 5, 6, 7, 8, 9, 10] (by decide) rfl
      exact W.iret (v := (-1002)) hx hb hr (fun t ht hW => ⟨⟨(-1002), (fons, fworths, fstarts, fends, fgoesRound, fbegin), rfl, trivial, by rw [ht]; exact hP9, hD9⟩, hS.F ht⟩) hS.2.2 dX8_start_24
  · refine lv_if_ne (tgt := 12) hx hb dX8_start_5 (by decide) (fun h => absurd (by decide) h) (fun _ => ?_)
    refine lv_sipush (v := (-1001)) hx hb dX8_start_8 (by decide) ?_
    have hP9 := hP.sub (ws' := [((a 0), .inr (8, (fX8 a (nI tx) fp (nI t0) wd (nI we) nu na (nI rd) ts (nI ru) (nI rw) (nI ca) df db sd))), (aI k (a 1) 3 (nF dn)), (aI k (a 4) 27 (sg se tm gs)), (aI k (a 2) 72 ffrees), (aI k (a 3) 72 fprices), (aI k (a 18) 768 fons), (aI k (a 19) 768 fworths), (aI k (a 20) 5 fstarts), (aI k (a 21) 4 fends), (aZ k (a 22) 4 fgoesRound), (aI k (a 23) 8 fbegin)]) [0, 1, 2, 3, 4, 5, 6, 7, 8, 9, 10] rfl
    have hD9 := hD.sub (ws' := [((a 0), .inr (8, (fX8 a (nI tx) fp (nI t0) wd (nI we) nu na (nI rd) ts (nI ru) (nI rw) (nI ca) df db sd))), (aI k (a 1) 3 (nF dn)), (aI k (a 4) 27 (sg se tm gs)), (aI k (a 2) 72 ffrees), (aI k (a 3) 72 fprices), (aI k (a 18) 768 fons), (aI k (a 19) 768 fworths), (aI k (a 20) 5 fstarts), (aI k (a 21) 4 fends), (aZ k (a 22) 4 fgoesRound), (aI k (a 23) 8 fbegin)]) [0, 1, 2, 3, 4, 5, 6, 7, 8, 9, 10] (by decide) rfl
    exact W.iret (v := (-1001)) hx hb hr (fun t ht hW => ⟨⟨(-1001), (fons, fworths, fstarts, fends, fgoesRound, fbegin), rfl, trivial, by rw [ht]; exact hP9, hD9⟩, hS.F ht⟩) hS.2.2 dX8_start_11

theorem dX8_end_0 : decode cX8_end 0 = .ok (.aload_n 0, 1) := by decide +kernel
theorem dX8_end_1 : decode cX8_end 1 = .ok (.iload_n 1, 1) := by decide +kernel
theorem dX8_end_2 : decode cX8_end 2 = .ok (.invokevirtual 206, 3) := by decide +kernel
theorem dX8_end_5 : decode cX8_end 5 = .ok (.ifCond .ne 7, 3) := by decide +kernel
theorem dX8_end_8 : decode cX8_end 8 = .ok (.sipush (-1001), 3) := by decide +kernel
theorem dX8_end_11 : decode cX8_end 11 = .ok (.ireturn, 1) := by decide +kernel
theorem dX8_end_12 : decode cX8_end 12 = .ok (.aload_n 0, 1) := by decide +kernel
theorem dX8_end_13 : decode cX8_end 13 = .ok (.iload_n 1, 1) := by decide +kernel
theorem dX8_end_14 : decode cX8_end 14 = .ok (.iload_n 2, 1) := by decide +kernel
theorem dX8_end_15 : decode cX8_end 15 = .ok (.invokevirtual 234, 3) := by decide +kernel
theorem dX8_end_18 : decode cX8_end 18 = .ok (.ifCond .eq 13, 3) := by decide +kernel
theorem dX8_end_21 : decode cX8_end 21 = .ok (.iload_n 3, 1) := by decide +kernel
theorem dX8_end_22 : decode cX8_end 22 = .ok (.i2l, 1) := by decide +kernel
theorem dX8_end_23 : decode cX8_end 23 = .ok (.lconst 0, 1) := by decide +kernel
theorem dX8_end_24 : decode cX8_end 24 = .ok (.lconst 1, 1) := by decide +kernel
theorem dX8_end_25 : decode cX8_end 25 = .ok (.invokestatic 107, 3) := by decide +kernel
theorem dX8_end_28 : decode cX8_end 28 = .ok (.ifCond .ne 7, 3) := by decide +kernel
theorem dX8_end_31 : decode cX8_end 31 = .ok (.sipush (-1002), 3) := by decide +kernel
theorem dX8_end_34 : decode cX8_end 34 = .ok (.ireturn, 1) := by decide +kernel
theorem dX8_end_35 : decode cX8_end 35 = .ok (.aload_n 0, 1) := by decide +kernel
theorem dX8_end_36 : decode cX8_end 36 = .ok (.iload_n 1, 1) := by decide +kernel
theorem dX8_end_37 : decode cX8_end 37 = .ok (.invokevirtual 268, 3) := by decide +kernel
theorem dX8_end_40 : decode cX8_end 40 = .ok (.iload_n 3, 1) := by decide +kernel
theorem dX8_end_41 : decode cX8_end 41 = .ok (.ifCond .ne 12, 3) := by decide +kernel
theorem dX8_end_44 : decode cX8_end 44 = .ok (.aload_n 0, 1) := by decide +kernel
theorem dX8_end_45 : decode cX8_end 45 = .ok (.getfield 47, 3) := by decide +kernel
theorem dX8_end_48 : decode cX8_end 48 = .ok (.iload_n 2, 1) := by decide +kernel
theorem dX8_end_49 : decode cX8_end 49 = .ok (.iaload, 1) := by decide +kernel
theorem dX8_end_50 : decode cX8_end 50 = .ok (.goto 17, 3) := by decide +kernel
theorem dX8_end_53 : decode cX8_end 53 = .ok (.aload_n 0, 1) := by decide +kernel
theorem dX8_end_54 : decode cX8_end 54 = .ok (.getfield 50, 3) := by decide +kernel
theorem dX8_end_57 : decode cX8_end 57 = .ok (.iload_n 2, 1) := by decide +kernel
theorem dX8_end_58 : decode cX8_end 58 = .ok (.baload, 1) := by decide +kernel
theorem dX8_end_59 : decode cX8_end 59 = .ok (.ifCond .eq 7, 3) := by decide +kernel
theorem dX8_end_62 : decode cX8_end 62 = .ok (.iconst 1, 1) := by decide +kernel
theorem dX8_end_63 : decode cX8_end 63 = .ok (.goto 4, 3) := by decide +kernel
theorem dX8_end_66 : decode cX8_end 66 = .ok (.iconst 0, 1) := by decide +kernel
theorem dX8_end_67 : decode cX8_end 67 = .ok (.ireturn, 1) := by decide +kernel
set_option maxHeartbeats 4000000 in
set_option maxRecDepth 100000 in
theorem m_end (l : Launch) (D : va_G) (k : Nat → ClassId) (st : Nat → Nat) (lo : Nat) (a : Nat → Nat) (tx : Nat) (t0 : Nat) (we : Nat) (rd : Nat) (ru : Nat) (rw : Nat) (ca : Nat) (fp : Int32) (wd : Int64) (nu : Int32) (na : Int32) (ts : Int32) (df : Int32) (db : Int32) (sd : Int32) (dn : Nat → Nat) (se : Nat → Nat) (tm : Nat → Nat) (gs : Nat → Int32) (ffrees : Nat → Int32) (fprices : Nat → Int32) (fons : Nat → Int32) (fworths : Nat → Int32) (fstarts : Nat → Int32) (fends : Nat → Int32) (fgoesRound : Nat → Int32) (fbegin : Nat → Int32) (p0 : Int32) (p1 : Int32) (p2 : Int32) (hdn : ∀ j, dn j ≤ 24) (hse : ∀ j, se j ≤ 2) (htm : ∀ j, tm j ≤ 3) : CWi l D k st lo yX8_end cX8_end 4 (some .int) ({ frames := 6, cells := 0, slots := 0, locals := 144 }) 0 0 [.ref (a 0), .int p0, .int p1, .int p2] [((a 0), .inr (8, (fX8 a (nI tx) fp (nI t0) wd (nI we) nu na (nI rd) ts (nI ru) (nI rw) (nI ca) df db sd))), (aI k (a 1) 3 (nF dn)), (aI k (a 4) 27 (sg se tm gs)), (aI k (a 2) 72 ffrees), (aI k (a 3) 72 fprices), (aI k (a 18) 768 fons), (aI k (a 19) 768 fworths), (aI k (a 20) 5 fstarts), (aI k (a 21) 4 fends), (aZ k (a 22) 4 fgoesRound), (aI k (a 23) 8 fbegin)] (fun (r : Int32) (u : (Nat → Int32) × (Nat → Int32) × (Nat → Int32) × (Nat → Int32) × (Nat → Int32) × (Nat → Int32)) => match u with | (fons_, fworths_, fstarts_, fends_, fgoesRound_, fbegin_) => True) (fun (u : (Nat → Int32) × (Nat → Int32) × (Nat → Int32) × (Nat → Int32) × (Nat → Int32) × (Nat → Int32)) => match u with | (fons_, fworths_, fstarts_, fends_, fgoesRound_, fbegin_) => [((a 0), .inr (8, (fX8 a (nI tx) fp (nI t0) wd (nI we) nu na (nI rd) ts (nI ru) (nI rw) (nI ca) df db sd))), (aI k (a 1) 3 (nF dn)), (aI k (a 4) 27 (sg se tm gs)), (aI k (a 2) 72 ffrees), (aI k (a 3) 72 fprices), (aI k (a 18) 768 fons_), (aI k (a 19) 768 fworths_), (aI k (a 20) 5 fstarts_), (aI k (a 21) 4 fends_), (aZ k (a 22) 4 fgoesRound_), (aI k (a 23) 8 fbegin_)]) := by
  intro sz
  refine Met.ofW (cc := cX8_end) (maxL := 4) (ret := (some .int)) (by decide) rfl ?_
  intro p e s m args below meth c s₁ B hml hv
  obtain ⟨rfl, hsz, hlo, hP, hK, hDL, hZ⟩ := hv
  have hx := B.exec
  have hb := B.bytes
  have hr := B.returns
  have hts := WS_ts B.pre
  have hown : s.vm.findClass RX8 = some m.cls := findClass_of_methodNamed B.named
  have hlocks := B.notSynchronized
  subst hsz
  have hD := hDL.self (sz := s.heap.size)
  have hAlo := A_lo hDL hlo
  generalize hAe : va_A [((a 0), .inr (8, (fX8 a (nI tx) fp (nI t0) wd (nI we) nu na (nI rd) ts (nI ru) (nI rw) (nI ca) df db sd))), (aI k (a 1) 3 (nF dn)), (aI k (a 4) 27 (sg se tm gs)), (aI k (a 2) 72 ffrees), (aI k (a 3) 72 fprices), (aI k (a 18) 768 fons), (aI k (a 19) 768 fworths), (aI k (a 20) 5 fstarts), (aI k (a 21) 4 fends), (aZ k (a 22) 4 fgoesRound), (aI k (a 23) 8 fbegin)] s.heap.size = A at hD hAlo ⊢
  have hA : ∀ q : Nat, s.heap.size ≤ q → A q := fun q h => by rw [← hAe]; exact Or.inr h
  have hS : va_S A s.heap s.heap [] := va_S.rf
  have hl := lv_entry ([.ref (a 0), .int p0, .int p1, .int p2]) (n := 4) (Nat.le_of_ble_eq_true rfl)
  rw [lg_entry_eq]
  generalize (lg_sl ([.ref (a 0), .int p0, .int p1, .int p2]) ++ List.replicate (4 - (lg_sl ([.ref (a 0), .int p0, .int p1, .int p2])).length) Slot.unset).toArray = ls at hl ⊢
  have hl : lv_has ls 4 [(0, .ref (a 0)), (1, .int p0), (2, .int p1), (3, .int p2)] := hl
  refine lv_aload_n hx hb dX8_end_0 rfl (lv_at hl 0 rfl) ?_
  refine lv_iload_n hx hb dX8_end_1 rfl (lv_at hl 1 rfl) ?_
  refine ro_i (D := D) (va_runV (As := [.int p0]) (rest := []) ⟨hx, hb, hml, hown, hts⟩ ((m_isStreet l D k st lo a tx t0 we rd ru rw ca fp wd nu na ts df db sd dn p0 hdn) s.heap.size) (cwV 1 hts (gV tw_1189 tw_1191 tw_38 tw_87 tw_1192) rfl rfl rfl (by decide +kernel) ⟨Nat.le_of_ble_eq_true rfl, Nat.le_of_ble_eq_true rfl⟩) (pV hS hAlo hlo hP hK (va_Dlo hD hAlo) hZ [0, 1] (by decide) rfl (ci := 8) (q := (RX8, TX8, 44)) (q0 := 0) rfl rfl) rfl rfl hl.1 rfl (lv_room (Nat.le_of_ble_eq_true rfl)) dX8_end_2 ⟨Nat.le_of_ble_eq_true rfl, Nat.le_of_ble_eq_true rfl⟩) hS hA hP (fun r_1 H locs hw_1 hP hS => ?_)
  try dsimp only at hw_1
  rcases hw_1 with ⟨rfl, j_2, hj_2, rfl, hw_1⟩ | rfl
  · have hdj_2 := hdn j_2
    have htj_2 := htm j_2
    refine lv_if_ne (tgt := 12) hx hb dX8_end_5 (by decide) (fun _ => ?_) (fun h => absurd h (by decide))
    refine lv_aload_n hx hb dX8_end_12 rfl (lv_at hl 0 rfl) ?_
    refine lv_iload_n hx hb dX8_end_13 rfl (lv_at hl 1 rfl) ?_
    refine lv_iload_n hx hb dX8_end_14 rfl (lv_at hl 2 rfl) ?_
    refine ro_i (D := D) (va_runV (As := [.int (nI j_2), .int p1]) (rest := []) ⟨hx, hb, hml, hown, hts⟩ ((m_isRound l D k st lo a tx t0 we rd ru rw ca fp wd nu na ts df db sd se tm gs j_2 p1 htm (by omega)) H.size) (cwV 2 hts (gV tw_1218 tw_1220 tw_42 tw_87 tw_1221) rfl rfl rfl (by decide +kernel) ⟨Nat.le_of_ble_eq_true rfl, Nat.le_of_ble_eq_true rfl⟩) (pV hS hAlo hlo hP hK (va_Dlo hD hAlo) hZ [0, 2] (by decide) rfl (ci := 8) (q := (RX8, TX8, 44)) (q0 := 0) rfl rfl) rfl rfl hl.1 rfl (lv_room (Nat.le_of_ble_eq_true rfl)) dX8_end_15 ⟨Nat.le_of_ble_eq_true rfl, Nat.le_of_ble_eq_true rfl⟩) hS hA hP (fun r_3 H locs hw_3 hP hS => ?_)
    try dsimp only at hw_3
    rcases hw_3 with ⟨rfl, j_4, hj_4, rfl, hw_3⟩ | rfl
    · refine lv_if_eq (tgt := 31) hx hb dX8_end_18 (by decide) (fun h => absurd h (by decide)) (fun _ => ?_)
      refine lv_iload_n hx hb dX8_end_21 rfl (lv_at hl 3 rfl) ?_
      refine lv_i2l (v := p2.toInt64) hx hb dX8_end_22 rfl ?_
      refine lv_lconst (v := (0 : Int32).toInt64) hx hb dX8_end_23 (by decide) ?_
      refine lv_lconst (v := (1 : Int32).toInt64) hx hb dX8_end_24 (by decide) ?_
      refine ro_i (D := D) (va_runS (As := [.long (p2.toInt64), .long ((0 : Int32).toInt64), .long ((1 : Int32).toInt64)]) (rest := []) ⟨hx, hb, hml, hown, hts⟩ ((k_in l D k st lo p2 (0 : Int32) (1 : Int32)) H.size) (va_cwS 3 hts (gS tw_1111 tw_1112 tw_87 tw_1113) rfl rfl rfl (by decide +kernel) ⟨Nat.le_of_ble_eq_true rfl, Nat.le_of_ble_eq_true rfl⟩) (pS hS hAlo hlo hP hK (va_Dlo hD hAlo) hZ [] (by decide) rfl) rfl rfl hl.1 rfl (lv_room (Nat.le_of_ble_eq_true rfl)) dX8_end_25 ⟨Nat.le_of_ble_eq_true rfl, Nat.le_of_ble_eq_true rfl⟩) hS hA hP (fun r_5 H locs hw_5 hP hS => ?_)
      try dsimp only at hw_5
      rcases hw_5 with ⟨rfl, hw_5⟩ | ⟨rfl, hw_5⟩
      · refine lv_if_ne (tgt := 35) hx hb dX8_end_28 (by decide) (fun _ => ?_) (fun h => absurd h (by decide))
        refine lv_aload_n hx hb dX8_end_35 rfl (lv_at hl 0 rfl) ?_
        refine lv_iload_n hx hb dX8_end_36 rfl (lv_at hl 1 rfl) ?_
        refine rw_v (D := D) (wr := []) (va_runV (As := [.int (nI j_2)]) (rest := []) ⟨hx, hb, hml, hown, hts⟩ ((m_findWay l D k st lo a tx t0 we rd ru rw ca fp wd nu na ts df db sd dn se tm gs ffrees fprices fons fworths fstarts fends fgoesRound fbegin j_2 hdn hse htm (by omega) (by omega)) H.size) (cwV 1 hts (gV tw_1250 tw_1252 tw_49 tw_87 tw_1253) rfl rfl rfl (by decide +kernel) ⟨Nat.le_of_ble_eq_true rfl, Nat.le_of_ble_eq_true rfl⟩) (pV hS hAlo hlo hP hK (va_Dlo hD hAlo) hZ [0, 1, 2, 3, 4, 5, 6, 7, 8, 9, 10] (by decide) rfl (ci := 8) (q := (RX8, TX8, 44)) (q0 := 0) rfl rfl) rfl rfl hl.1 rfl (lv_room (Nat.le_of_ble_eq_true rfl)) dX8_end_37 ⟨Nat.le_of_ble_eq_true rfl, Nat.le_of_ble_eq_true rfl⟩) hS hA hP hD [0, 1, 2, 3, 4, 5, 6, 7, 8, 9, 10] [] rfl rfl (by decide) (by decide) (fun u H locs hw_6 hP hD hS => ?_)
        obtain ⟨fons__6, fworths__6, fstarts__6, fends__6, fgoesRound__6, fbegin__6⟩ := u
        replace hP : va_P D classes [((a 0), .inr (8, (fX8 a (nI tx) fp (nI t0) wd (nI we) nu na (nI rd) ts (nI ru) (nI rw) (nI ca) df db sd))), (aI k (a 1) 3 (nF dn)), (aI k (a 4) 27 (sg se tm gs)), (aI k (a 2) 72 ffrees), (aI k (a 3) 72 fprices), (aI k (a 18) 768 fons__6), (aI k (a 19) 768 fworths__6), (aI k (a 20) 5 fstarts__6), (aI k (a 21) 4 fends__6), (aZ k (a 22) 4 fgoesRound__6), (aI k (a 23) 8 fbegin__6)] H := hP
        replace hD : va_D A [((a 0), .inr (8, (fX8 a (nI tx) fp (nI t0) wd (nI we) nu na (nI rd) ts (nI ru) (nI rw) (nI ca) df db sd))), (aI k (a 1) 3 (nF dn)), (aI k (a 4) 27 (sg se tm gs)), (aI k (a 2) 72 ffrees), (aI k (a 3) 72 fprices), (aI k (a 18) 768 fons__6), (aI k (a 19) 768 fworths__6), (aI k (a 20) 5 fstarts__6), (aI k (a 21) 4 fends__6), (aZ k (a 22) 4 fgoesRound__6), (aI k (a 23) 8 fbegin__6)] := hD
        try dsimp only at hw_6
        refine lv_iload_n hx hb dX8_end_40 rfl (lv_at hl 3 rfl) ?_
        refine lv_if_ne (tgt := 53) hx hb dX8_end_41 (by decide) (fun c_7 => ?_) (fun c_7 => ?_)
        · refine lv_aload_n hx hb dX8_end_53 rfl (lv_at hl 0 rfl) ?_
          refine va_get (D := D) (ci := 8) (v := .ref (a 22)) (C := RX8) (T := TX8) (N := 44) hx hb hts inX8 hown hK hP 0 rfl rfl 21 (by decide) (hts _ tw_994) (fun _ h9 => h9) rfl dX8_end_54 ?_
          refine lv_iload_n hx hb dX8_end_57 rfl (lv_at hl 2 rfl) ?_
          refine va_zald hx hb hK hP 9 2 rfl rfl (vp_in_nI (by omega) (by decide)) dX8_end_58 ?_
          refine lv_ti (y := (fgoesRound__6 j_4)) (by rw [nI_clamp (by omega)]) ?_
          refine lv_if_eq (tgt := 66) hx hb dX8_end_59 (by decide) (fun c_8 => ?_) (fun c_8 => ?_)
          · refine lv_iconst (v := 0) hx hb dX8_end_66 (by decide) ?_
            have hP9 := hP.sub (ws' := [((a 0), .inr (8, (fX8 a (nI tx) fp (nI t0) wd (nI we) nu na (nI rd) ts (nI ru) (nI rw) (nI ca) df db sd))), (aI k (a 1) 3 (nF dn)), (aI k (a 4) 27 (sg se tm gs)), (aI k (a 2) 72 ffrees), (aI k (a 3) 72 fprices), (aI k (a 18) 768 fons__6), (aI k (a 19) 768 fworths__6), (aI k (a 20) 5 fstarts__6), (aI k (a 21) 4 fends__6), (aZ k (a 22) 4 fgoesRound__6), (aI k (a 23) 8 fbegin__6)]) [0, 1, 2, 3, 4, 5, 6, 7, 8, 9, 10] rfl
            have hD9 := hD.sub (ws' := [((a 0), .inr (8, (fX8 a (nI tx) fp (nI t0) wd (nI we) nu na (nI rd) ts (nI ru) (nI rw) (nI ca) df db sd))), (aI k (a 1) 3 (nF dn)), (aI k (a 4) 27 (sg se tm gs)), (aI k (a 2) 72 ffrees), (aI k (a 3) 72 fprices), (aI k (a 18) 768 fons__6), (aI k (a 19) 768 fworths__6), (aI k (a 20) 5 fstarts__6), (aI k (a 21) 4 fends__6), (aZ k (a 22) 4 fgoesRound__6), (aI k (a 23) 8 fbegin__6)]) [0, 1, 2, 3, 4, 5, 6, 7, 8, 9, 10] (by decide) rfl
            exact W.iret (v := 0) hx hb hr (fun t ht hW => ⟨⟨0, (fons__6, fworths__6, fstarts__6, fends__6, fgoesRound__6, fbegin__6), rfl, trivial, by rw [ht]; exact hP9, hD9⟩, hS.F ht⟩) hS.2.2 dX8_end_67
          · refine lv_iconst (v := 1) hx hb dX8_end_62 (by decide) ?_
            refine lv_goto (tgt := 67) hx hb dX8_end_63 (by decide) ?_
            have hP9 := hP.sub (ws' := [((a 0), .inr (8, (fX8 a (nI tx) fp (nI t0) wd (nI we) nu na (nI rd) ts (nI ru) (nI rw) (nI ca) df db sd))), (aI k (a 1) 3 (nF dn)), (aI k (a 4) 27 (sg se tm gs)), (aI k (a 2) 72 ffrees), (aI k (a 3) 72 fprices), (aI k (a 18) 768 fons__6), (aI k (a 19) 768 fworths__6), (aI k (a 20) 5 fstarts__6), (aI k (a 21) 4 fends__6), (aZ k (a 22) 4 fgoesRound__6), (aI k (a 23) 8 fbegin__6)]) [0, 1, 2, 3, 4, 5, 6, 7, 8, 9, 10] rfl
            have hD9 := hD.sub (ws' := [((a 0), .inr (8, (fX8 a (nI tx) fp (nI t0) wd (nI we) nu na (nI rd) ts (nI ru) (nI rw) (nI ca) df db sd))), (aI k (a 1) 3 (nF dn)), (aI k (a 4) 27 (sg se tm gs)), (aI k (a 2) 72 ffrees), (aI k (a 3) 72 fprices), (aI k (a 18) 768 fons__6), (aI k (a 19) 768 fworths__6), (aI k (a 20) 5 fstarts__6), (aI k (a 21) 4 fends__6), (aZ k (a 22) 4 fgoesRound__6), (aI k (a 23) 8 fbegin__6)]) [0, 1, 2, 3, 4, 5, 6, 7, 8, 9, 10] (by decide) rfl
            exact W.iret (v := 1) hx hb hr (fun t ht hW => ⟨⟨1, (fons__6, fworths__6, fstarts__6, fends__6, fgoesRound__6, fbegin__6), rfl, trivial, by rw [ht]; exact hP9, hD9⟩, hS.F ht⟩) hS.2.2 dX8_end_67
        · refine lv_aload_n hx hb dX8_end_44 rfl (lv_at hl 0 rfl) ?_
          refine va_get (D := D) (ci := 8) (v := .ref (a 21)) (C := RX8) (T := TX8) (N := 44) hx hb hts inX8 hown hK hP 0 rfl rfl 20 (by decide) (hts _ tw_993) (fun _ h9 => h9) rfl dX8_end_45 ?_
          refine lv_iload_n hx hb dX8_end_48 rfl (lv_at hl 2 rfl) ?_
          refine va_iald hx hb hK hP 8 1 rfl rfl (vp_in_nI (by omega) (by decide)) dX8_end_49 ?_
          refine lv_ti (y := (fends__6 j_4)) (by rw [nI_clamp (by omega)]) ?_
          refine lv_goto (tgt := 67) hx hb dX8_end_50 (by decide) ?_
          have hP9 := hP.sub (ws' := [((a 0), .inr (8, (fX8 a (nI tx) fp (nI t0) wd (nI we) nu na (nI rd) ts (nI ru) (nI rw) (nI ca) df db sd))), (aI k (a 1) 3 (nF dn)), (aI k (a 4) 27 (sg se tm gs)), (aI k (a 2) 72 ffrees), (aI k (a 3) 72 fprices), (aI k (a 18) 768 fons__6), (aI k (a 19) 768 fworths__6), (aI k (a 20) 5 fstarts__6), (aI k (a 21) 4 fends__6), (aZ k (a 22) 4 fgoesRound__6), (aI k (a 23) 8 fbegin__6)]) [0, 1, 2, 3, 4, 5, 6, 7, 8, 9, 10] rfl
          have hD9 := hD.sub (ws' := [((a 0), .inr (8, (fX8 a (nI tx) fp (nI t0) wd (nI we) nu na (nI rd) ts (nI ru) (nI rw) (nI ca) df db sd))), (aI k (a 1) 3 (nF dn)), (aI k (a 4) 27 (sg se tm gs)), (aI k (a 2) 72 ffrees), (aI k (a 3) 72 fprices), (aI k (a 18) 768 fons__6), (aI k (a 19) 768 fworths__6), (aI k (a 20) 5 fstarts__6), (aI k (a 21) 4 fends__6), (aZ k (a 22) 4 fgoesRound__6), (aI k (a 23) 8 fbegin__6)]) [0, 1, 2, 3, 4, 5, 6, 7, 8, 9, 10] (by decide) rfl
          exact W.iret (v := (fends__6 j_4)) hx hb hr (fun t ht hW => ⟨⟨(fends__6 j_4), (fons__6, fworths__6, fstarts__6, fends__6, fgoesRound__6, fbegin__6), rfl, trivial, by rw [ht]; exact hP9, hD9⟩, hS.F ht⟩) hS.2.2 dX8_end_67
      · refine lv_if_ne (tgt := 35) hx hb dX8_end_28 (by decide) (fun h => absurd (by decide) h) (fun _ => ?_)
        refine lv_sipush (v := (-1002)) hx hb dX8_end_31 (by decide) ?_
        have hP9 := hP.sub (ws' := [((a 0), .inr (8, (fX8 a (nI tx) fp (nI t0) wd (nI we) nu na (nI rd) ts (nI ru) (nI rw) (nI ca) df db sd))), (aI k (a 1) 3 (nF dn)), (aI k (a 4) 27 (sg se tm gs)), (aI k (a 2) 72 ffrees), (aI k (a 3) 72 fprices), (aI k (a 18) 768 fons), (aI k (a 19) 768 fworths), (aI k (a 20) 5 fstarts), (aI k (a 21) 4 fends), (aZ k (a 22) 4 fgoesRound), (aI k (a 23) 8 fbegin)]) [0, 1, 2, 3, 4, 5, 6, 7, 8, 9, 10] rfl
        have hD9 := hD.sub (ws' := [((a 0), .inr (8, (fX8 a (nI tx) fp (nI t0) wd (nI we) nu na (nI rd) ts (nI ru) (nI rw) (nI ca) df db sd))), (aI k (a 1) 3 (nF dn)), (aI k (a 4) 27 (sg se tm gs)), (aI k (a 2) 72 ffrees), (aI k (a 3) 72 fprices), (aI k (a 18) 768 fons), (aI k (a 19) 768 fworths), (aI k (a 20) 5 fstarts), (aI k (a 21) 4 fends), (aZ k (a 22) 4 fgoesRound), (aI k (a 23) 8 fbegin)]) [0, 1, 2, 3, 4, 5, 6, 7, 8, 9, 10] (by decide) rfl
        exact W.iret (v := (-1002)) hx hb hr (fun t ht hW => ⟨⟨(-1002), (fons, fworths, fstarts, fends, fgoesRound, fbegin), rfl, trivial, by rw [ht]; exact hP9, hD9⟩, hS.F ht⟩) hS.2.2 dX8_end_34
    · refine lv_if_eq (tgt := 31) hx hb dX8_end_18 (by decide) (fun _ => ?_) (fun h => absurd (by decide) h)
      refine lv_sipush (v := (-1002)) hx hb dX8_end_31 (by decide) ?_
      have hP9 := hP.sub (ws' := [((a 0), .inr (8, (fX8 a (nI tx) fp (nI t0) wd (nI we) nu na (nI rd) ts (nI ru) (nI rw) (nI ca) df db sd))), (aI k (a 1) 3 (nF dn)), (aI k (a 4) 27 (sg se tm gs)), (aI k (a 2) 72 ffrees), (aI k (a 3) 72 fprices), (aI k (a 18) 768 fons), (aI k (a 19) 768 fworths), (aI k (a 20) 5 fstarts), (aI k (a 21) 4 fends), (aZ k (a 22) 4 fgoesRound), (aI k (a 23) 8 fbegin)]) [0, 1, 2, 3, 4, 5, 6, 7, 8, 9, 10] rfl
      have hD9 := hD.sub (ws' := [((a 0), .inr (8, (fX8 a (nI tx) fp (nI t0) wd (nI we) nu na (nI rd) ts (nI ru) (nI rw) (nI ca) df db sd))), (aI k (a 1) 3 (nF dn)), (aI k (a 4) 27 (sg se tm gs)), (aI k (a 2) 72 ffrees), (aI k (a 3) 72 fprices), (aI k (a 18) 768 fons), (aI k (a 19) 768 fworths), (aI k (a 20) 5 fstarts), (aI k (a 21) 4 fends), (aZ k (a 22) 4 fgoesRound), (aI k (a 23) 8 fbegin)]) [0, 1, 2, 3, 4, 5, 6, 7, 8, 9, 10] (by decide) rfl
      exact W.iret (v := (-1002)) hx hb hr (fun t ht hW => ⟨⟨(-1002), (fons, fworths, fstarts, fends, fgoesRound, fbegin), rfl, trivial, by rw [ht]; exact hP9, hD9⟩, hS.F ht⟩) hS.2.2 dX8_end_34
  · refine lv_if_ne (tgt := 12) hx hb dX8_end_5 (by decide) (fun h => absurd (by decide) h) (fun _ => ?_)
    refine lv_sipush (v := (-1001)) hx hb dX8_end_8 (by decide) ?_
    have hP9 := hP.sub (ws' := [((a 0), .inr (8, (fX8 a (nI tx) fp (nI t0) wd (nI we) nu na (nI rd) ts (nI ru) (nI rw) (nI ca) df db sd))), (aI k (a 1) 3 (nF dn)), (aI k (a 4) 27 (sg se tm gs)), (aI k (a 2) 72 ffrees), (aI k (a 3) 72 fprices), (aI k (a 18) 768 fons), (aI k (a 19) 768 fworths), (aI k (a 20) 5 fstarts), (aI k (a 21) 4 fends), (aZ k (a 22) 4 fgoesRound), (aI k (a 23) 8 fbegin)]) [0, 1, 2, 3, 4, 5, 6, 7, 8, 9, 10] rfl
    have hD9 := hD.sub (ws' := [((a 0), .inr (8, (fX8 a (nI tx) fp (nI t0) wd (nI we) nu na (nI rd) ts (nI ru) (nI rw) (nI ca) df db sd))), (aI k (a 1) 3 (nF dn)), (aI k (a 4) 27 (sg se tm gs)), (aI k (a 2) 72 ffrees), (aI k (a 3) 72 fprices), (aI k (a 18) 768 fons), (aI k (a 19) 768 fworths), (aI k (a 20) 5 fstarts), (aI k (a 21) 4 fends), (aZ k (a 22) 4 fgoesRound), (aI k (a 23) 8 fbegin)]) [0, 1, 2, 3, 4, 5, 6, 7, 8, 9, 10] (by decide) rfl
    exact W.iret (v := (-1001)) hx hb hr (fun t ht hW => ⟨⟨(-1001), (fons, fworths, fstarts, fends, fgoesRound, fbegin), rfl, trivial, by rw [ht]; exact hP9, hD9⟩, hS.F ht⟩) hS.2.2 dX8_end_11

theorem dX8_which_0 : decode cX8_which 0 = .ok (.aload_n 0, 1) := by decide +kernel
theorem dX8_which_1 : decode cX8_which 1 = .ok (.iload_n 1, 1) := by decide +kernel
theorem dX8_which_2 : decode cX8_which 2 = .ok (.invokevirtual 206, 3) := by decide +kernel
theorem dX8_which_5 : decode cX8_which 5 = .ok (.ifCond .eq 11, 3) := by decide +kernel
theorem dX8_which_8 : decode cX8_which 8 = .ok (.aload_n 0, 1) := by decide +kernel
theorem dX8_which_9 : decode cX8_which 9 = .ok (.iload_n 2, 1) := by decide +kernel
theorem dX8_which_10 : decode cX8_which 10 = .ok (.invokevirtual 206, 3) := by decide +kernel
theorem dX8_which_13 : decode cX8_which 13 = .ok (.ifCond .ne 7, 3) := by decide +kernel
theorem dX8_which_16 : decode cX8_which 16 = .ok (.sipush (-1001), 3) := by decide +kernel
theorem dX8_which_19 : decode cX8_which 19 = .ok (.ireturn, 1) := by decide +kernel
theorem dX8_which_20 : decode cX8_which 20 = .ok (.aload_n 0, 1) := by decide +kernel
theorem dX8_which_21 : decode cX8_which 21 = .ok (.iload_n 1, 1) := by decide +kernel
theorem dX8_which_22 : decode cX8_which 22 = .ok (.invokevirtual 268, 3) := by decide +kernel
theorem dX8_which_25 : decode cX8_which 25 = .ok (.aload_n 0, 1) := by decide +kernel
theorem dX8_which_26 : decode cX8_which 26 = .ok (.getfield 44, 3) := by decide +kernel
theorem dX8_which_29 : decode cX8_which 29 = .ok (.iconst 0, 1) := by decide +kernel
theorem dX8_which_30 : decode cX8_which 30 = .ok (.iaload, 1) := by decide +kernel
theorem dX8_which_31 : decode cX8_which 31 = .ok (.istore_n 3, 1) := by decide +kernel
theorem dX8_which_32 : decode cX8_which 32 = .ok (.aload_n 0, 1) := by decide +kernel
theorem dX8_which_33 : decode cX8_which 33 = .ok (.iload_n 2, 1) := by decide +kernel
theorem dX8_which_34 : decode cX8_which 34 = .ok (.invokevirtual 268, 3) := by decide +kernel
theorem dX8_which_37 : decode cX8_which 37 = .ok (.aload_n 0, 1) := by decide +kernel
theorem dX8_which_38 : decode cX8_which 38 = .ok (.getfield 44, 3) := by decide +kernel
theorem dX8_which_41 : decode cX8_which 41 = .ok (.iconst 0, 1) := by decide +kernel
theorem dX8_which_42 : decode cX8_which 42 = .ok (.iaload, 1) := by decide +kernel
theorem dX8_which_43 : decode cX8_which 43 = .ok (.iload_n 3, 1) := by decide +kernel
theorem dX8_which_44 : decode cX8_which 44 = .ok (.if_icmp .ge 7, 3) := by decide +kernel
theorem dX8_which_47 : decode cX8_which 47 = .ok (.iload_n 2, 1) := by decide +kernel
theorem dX8_which_48 : decode cX8_which 48 = .ok (.goto 4, 3) := by decide +kernel
theorem dX8_which_51 : decode cX8_which 51 = .ok (.iload_n 1, 1) := by decide +kernel
theorem dX8_which_52 : decode cX8_which 52 = .ok (.ireturn, 1) := by decide +kernel
set_option maxHeartbeats 4000000 in
set_option maxRecDepth 100000 in
theorem m_which (l : Launch) (D : va_G) (k : Nat → ClassId) (st : Nat → Nat) (lo : Nat) (a : Nat → Nat) (tx : Nat) (t0 : Nat) (we : Nat) (rd : Nat) (ru : Nat) (rw : Nat) (ca : Nat) (fp : Int32) (wd : Int64) (nu : Int32) (na : Int32) (ts : Int32) (df : Int32) (db : Int32) (sd : Int32) (dn : Nat → Nat) (se : Nat → Nat) (tm : Nat → Nat) (gs : Nat → Int32) (ffrees : Nat → Int32) (fprices : Nat → Int32) (fons : Nat → Int32) (fworths : Nat → Int32) (fstarts : Nat → Int32) (fends : Nat → Int32) (fgoesRound : Nat → Int32) (fbegin : Nat → Int32) (p0 : Int32) (p1 : Int32) (hdn : ∀ j, dn j ≤ 24) (hse : ∀ j, se j ≤ 2) (htm : ∀ j, tm j ≤ 3) : CWi l D k st lo yX8_which cX8_which 4 (some .int) ({ frames := 6, cells := 0, slots := 0, locals := 144 }) 0 0 [.ref (a 0), .int p0, .int p1] [((a 0), .inr (8, (fX8 a (nI tx) fp (nI t0) wd (nI we) nu na (nI rd) ts (nI ru) (nI rw) (nI ca) df db sd))), (aI k (a 1) 3 (nF dn)), (aI k (a 4) 27 (sg se tm gs)), (aI k (a 2) 72 ffrees), (aI k (a 3) 72 fprices), (aI k (a 18) 768 fons), (aI k (a 19) 768 fworths), (aI k (a 20) 5 fstarts), (aI k (a 21) 4 fends), (aZ k (a 22) 4 fgoesRound), (aI k (a 23) 8 fbegin)] (fun (r : Int32) (u : (Nat → Int32) × (Nat → Int32) × (Nat → Int32) × (Nat → Int32) × (Nat → Int32) × (Nat → Int32)) => match u with | (fons_, fworths_, fstarts_, fends_, fgoesRound_, fbegin_) => True) (fun (u : (Nat → Int32) × (Nat → Int32) × (Nat → Int32) × (Nat → Int32) × (Nat → Int32) × (Nat → Int32)) => match u with | (fons_, fworths_, fstarts_, fends_, fgoesRound_, fbegin_) => [((a 0), .inr (8, (fX8 a (nI tx) fp (nI t0) wd (nI we) nu na (nI rd) ts (nI ru) (nI rw) (nI ca) df db sd))), (aI k (a 1) 3 (nF dn)), (aI k (a 4) 27 (sg se tm gs)), (aI k (a 2) 72 ffrees), (aI k (a 3) 72 fprices), (aI k (a 18) 768 fons_), (aI k (a 19) 768 fworths_), (aI k (a 20) 5 fstarts_), (aI k (a 21) 4 fends_), (aZ k (a 22) 4 fgoesRound_), (aI k (a 23) 8 fbegin_)]) := by
  intro sz
  refine Met.ofW (cc := cX8_which) (maxL := 4) (ret := (some .int)) (by decide) rfl ?_
  intro p e s m args below meth c s₁ B hml hv
  obtain ⟨rfl, hsz, hlo, hP, hK, hDL, hZ⟩ := hv
  have hx := B.exec
  have hb := B.bytes
  have hr := B.returns
  have hts := WS_ts B.pre
  have hown : s.vm.findClass RX8 = some m.cls := findClass_of_methodNamed B.named
  have hlocks := B.notSynchronized
  subst hsz
  have hD := hDL.self (sz := s.heap.size)
  have hAlo := A_lo hDL hlo
  generalize hAe : va_A [((a 0), .inr (8, (fX8 a (nI tx) fp (nI t0) wd (nI we) nu na (nI rd) ts (nI ru) (nI rw) (nI ca) df db sd))), (aI k (a 1) 3 (nF dn)), (aI k (a 4) 27 (sg se tm gs)), (aI k (a 2) 72 ffrees), (aI k (a 3) 72 fprices), (aI k (a 18) 768 fons), (aI k (a 19) 768 fworths), (aI k (a 20) 5 fstarts), (aI k (a 21) 4 fends), (aZ k (a 22) 4 fgoesRound), (aI k (a 23) 8 fbegin)] s.heap.size = A at hD hAlo ⊢
  have hA : ∀ q : Nat, s.heap.size ≤ q → A q := fun q h => by rw [← hAe]; exact Or.inr h
  have hS : va_S A s.heap s.heap [] := va_S.rf
  have hl := lv_entry ([.ref (a 0), .int p0, .int p1]) (n := 4) (Nat.le_of_ble_eq_true rfl)
  rw [lg_entry_eq]
  generalize (lg_sl ([.ref (a 0), .int p0, .int p1]) ++ List.replicate (4 - (lg_sl ([.ref (a 0), .int p0, .int p1])).length) Slot.unset).toArray = ls at hl ⊢
  have hl : lv_has ls 4 [(0, .ref (a 0)), (1, .int p0), (2, .int p1)] := hl
  refine lv_aload_n hx hb dX8_which_0 rfl (lv_at hl 0 rfl) ?_
  refine lv_iload_n hx hb dX8_which_1 rfl (lv_at hl 1 rfl) ?_
  refine ro_i (D := D) (va_runV (As := [.int p0]) (rest := []) ⟨hx, hb, hml, hown, hts⟩ ((m_isStreet l D k st lo a tx t0 we rd ru rw ca fp wd nu na ts df db sd dn p0 hdn) s.heap.size) (cwV 1 hts (gV tw_1189 tw_1191 tw_38 tw_87 tw_1192) rfl rfl rfl (by decide +kernel) ⟨Nat.le_of_ble_eq_true rfl, Nat.le_of_ble_eq_true rfl⟩) (pV hS hAlo hlo hP hK (va_Dlo hD hAlo) hZ [0, 1] (by decide) rfl (ci := 8) (q := (RX8, TX8, 44)) (q0 := 0) rfl rfl) rfl rfl hl.1 rfl (lv_room (Nat.le_of_ble_eq_true rfl)) dX8_which_2 ⟨Nat.le_of_ble_eq_true rfl, Nat.le_of_ble_eq_true rfl⟩) hS hA hP (fun r_1 H locs hw_1 hP hS => ?_)
  try dsimp only at hw_1
  rcases hw_1 with ⟨rfl, j_2, hj_2, rfl, hw_1⟩ | rfl
  · have hdj_2 := hdn j_2
    have htj_2 := htm j_2
    refine lv_if_eq (tgt := 16) hx hb dX8_which_5 (by decide) (fun h => absurd h (by decide)) (fun _ => ?_)
    refine lv_aload_n hx hb dX8_which_8 rfl (lv_at hl 0 rfl) ?_
    refine lv_iload_n hx hb dX8_which_9 rfl (lv_at hl 2 rfl) ?_
    refine ro_i (D := D) (va_runV (As := [.int p1]) (rest := []) ⟨hx, hb, hml, hown, hts⟩ ((m_isStreet l D k st lo a tx t0 we rd ru rw ca fp wd nu na ts df db sd dn p1 hdn) H.size) (cwV 1 hts (gV tw_1189 tw_1191 tw_38 tw_87 tw_1192) rfl rfl rfl (by decide +kernel) ⟨Nat.le_of_ble_eq_true rfl, Nat.le_of_ble_eq_true rfl⟩) (pV hS hAlo hlo hP hK (va_Dlo hD hAlo) hZ [0, 1] (by decide) rfl (ci := 8) (q := (RX8, TX8, 44)) (q0 := 0) rfl rfl) rfl rfl hl.1 rfl (lv_room (Nat.le_of_ble_eq_true rfl)) dX8_which_10 ⟨Nat.le_of_ble_eq_true rfl, Nat.le_of_ble_eq_true rfl⟩) hS hA hP (fun r_3 H locs hw_3 hP hS => ?_)
    try dsimp only at hw_3
    rcases hw_3 with ⟨rfl, j_4, hj_4, rfl, hw_3⟩ | rfl
    · have hdj_4 := hdn j_4
      have htj_4 := htm j_4
      refine lv_if_ne (tgt := 20) hx hb dX8_which_13 (by decide) (fun _ => ?_) (fun h => absurd h (by decide))
      refine lv_aload_n hx hb dX8_which_20 rfl (lv_at hl 0 rfl) ?_
      refine lv_iload_n hx hb dX8_which_21 rfl (lv_at hl 1 rfl) ?_
      refine rw_v (D := D) (wr := []) (va_runV (As := [.int (nI j_2)]) (rest := []) ⟨hx, hb, hml, hown, hts⟩ ((m_findWay l D k st lo a tx t0 we rd ru rw ca fp wd nu na ts df db sd dn se tm gs ffrees fprices fons fworths fstarts fends fgoesRound fbegin j_2 hdn hse htm (by omega) (by omega)) H.size) (cwV 1 hts (gV tw_1250 tw_1252 tw_49 tw_87 tw_1253) rfl rfl rfl (by decide +kernel) ⟨Nat.le_of_ble_eq_true rfl, Nat.le_of_ble_eq_true rfl⟩) (pV hS hAlo hlo hP hK (va_Dlo hD hAlo) hZ [0, 1, 2, 3, 4, 5, 6, 7, 8, 9, 10] (by decide) rfl (ci := 8) (q := (RX8, TX8, 44)) (q0 := 0) rfl rfl) rfl rfl hl.1 rfl (lv_room (Nat.le_of_ble_eq_true rfl)) dX8_which_22 ⟨Nat.le_of_ble_eq_true rfl, Nat.le_of_ble_eq_true rfl⟩) hS hA hP hD [0, 1, 2, 3, 4, 5, 6, 7, 8, 9, 10] [] rfl rfl (by decide) (by decide) (fun u H locs hw_5 hP hD hS => ?_)
      obtain ⟨fons__5, fworths__5, fstarts__5, fends__5, fgoesRound__5, fbegin__5⟩ := u
      replace hP : va_P D classes [((a 0), .inr (8, (fX8 a (nI tx) fp (nI t0) wd (nI we) nu na (nI rd) ts (nI ru) (nI rw) (nI ca) df db sd))), (aI k (a 1) 3 (nF dn)), (aI k (a 4) 27 (sg se tm gs)), (aI k (a 2) 72 ffrees), (aI k (a 3) 72 fprices), (aI k (a 18) 768 fons__5), (aI k (a 19) 768 fworths__5), (aI k (a 20) 5 fstarts__5), (aI k (a 21) 4 fends__5), (aZ k (a 22) 4 fgoesRound__5), (aI k (a 23) 8 fbegin__5)] H := hP
      replace hD : va_D A [((a 0), .inr (8, (fX8 a (nI tx) fp (nI t0) wd (nI we) nu na (nI rd) ts (nI ru) (nI rw) (nI ca) df db sd))), (aI k (a 1) 3 (nF dn)), (aI k (a 4) 27 (sg se tm gs)), (aI k (a 2) 72 ffrees), (aI k (a 3) 72 fprices), (aI k (a 18) 768 fons__5), (aI k (a 19) 768 fworths__5), (aI k (a 20) 5 fstarts__5), (aI k (a 21) 4 fends__5), (aZ k (a 22) 4 fgoesRound__5), (aI k (a 23) 8 fbegin__5)] := hD
      try dsimp only at hw_5
      refine lv_aload_n hx hb dX8_which_25 rfl (lv_at hl 0 rfl) ?_
      refine va_get (D := D) (ci := 8) (v := .ref (a 20)) (C := RX8) (T := TX8) (N := 44) hx hb hts inX8 hown hK hP 0 rfl rfl 19 (by decide) (hts _ tw_992) (fun _ h9 => h9) rfl dX8_which_26 ?_
      refine lv_iconst (v := 0) hx hb dX8_which_29 (by decide) ?_
      refine va_iald hx hb hK hP 7 1 rfl rfl (by unfold vp_in; decide) dX8_which_30 ?_
      refine lv_ti (y := (fstarts__5 0)) (by rfl) ?_
      refine lv_istore_n (lv' := [(3, .int (fstarts__5 0)), (0, .ref (a 0)), (1, .int (nI j_2)), (2, .int (nI j_4))]) hx hb dX8_which_31 rfl hl (by decide) rfl (fun ls hl => ?_)
      refine lv_aload_n hx hb dX8_which_32 rfl (lv_at hl 1 rfl) ?_
      refine lv_iload_n hx hb dX8_which_33 rfl (lv_at hl 3 rfl) ?_
      refine rw_v (D := D) (wr := []) (va_runV (As := [.int (nI j_4)]) (rest := []) ⟨hx, hb, hml, hown, hts⟩ ((m_findWay l D k st lo a tx t0 we rd ru rw ca fp wd nu na ts df db sd dn se tm gs ffrees fprices fons__5 fworths__5 fstarts__5 fends__5 fgoesRound__5 fbegin__5 j_4 hdn hse htm (by omega) (by omega)) H.size) (cwV 1 hts (gV tw_1250 tw_1252 tw_49 tw_87 tw_1253) rfl rfl rfl (by decide +kernel) ⟨Nat.le_of_ble_eq_true rfl, Nat.le_of_ble_eq_true rfl⟩) (pV hS hAlo hlo hP hK (va_Dlo hD hAlo) hZ [0, 1, 2, 3, 4, 5, 6, 7, 8, 9, 10] (by decide) rfl (ci := 8) (q := (RX8, TX8, 44)) (q0 := 0) rfl rfl) rfl rfl hl.1 rfl (lv_room (Nat.le_of_ble_eq_true rfl)) dX8_which_34 ⟨Nat.le_of_ble_eq_true rfl, Nat.le_of_ble_eq_true rfl⟩) hS hA hP hD [0, 1, 2, 3, 4, 5, 6, 7, 8, 9, 10] [] rfl rfl (by decide) (by decide) (fun u H locs hw_6 hP hD hS => ?_)
      obtain ⟨fons__6, fworths__6, fstarts__6, fends__6, fgoesRound__6, fbegin__6⟩ := u
      replace hP : va_P D classes [((a 0), .inr (8, (fX8 a (nI tx) fp (nI t0) wd (nI we) nu na (nI rd) ts (nI ru) (nI rw) (nI ca) df db sd))), (aI k (a 1) 3 (nF dn)), (aI k (a 4) 27 (sg se tm gs)), (aI k (a 2) 72 ffrees), (aI k (a 3) 72 fprices), (aI k (a 18) 768 fons__6), (aI k (a 19) 768 fworths__6), (aI k (a 20) 5 fstarts__6), (aI k (a 21) 4 fends__6), (aZ k (a 22) 4 fgoesRound__6), (aI k (a 23) 8 fbegin__6)] H := hP
      replace hD : va_D A [((a 0), .inr (8, (fX8 a (nI tx) fp (nI t0) wd (nI we) nu na (nI rd) ts (nI ru) (nI rw) (nI ca) df db sd))), (aI k (a 1) 3 (nF dn)), (aI k (a 4) 27 (sg se tm gs)), (aI k (a 2) 72 ffrees), (aI k (a 3) 72 fprices), (aI k (a 18) 768 fons__6), (aI k (a 19) 768 fworths__6), (aI k (a 20) 5 fstarts__6), (aI k (a 21) 4 fends__6), (aZ k (a 22) 4 fgoesRound__6), (aI k (a 23) 8 fbegin__6)] := hD
      try dsimp only at hw_6
      refine lv_aload_n hx hb dX8_which_37 rfl (lv_at hl 1 rfl) ?_
      refine va_get (D := D) (ci := 8) (v := .ref (a 20)) (C := RX8) (T := TX8) (N := 44) hx hb hts inX8 hown hK hP 0 rfl rfl 19 (by decide) (hts _ tw_992) (fun _ h9 => h9) rfl dX8_which_38 ?_
      refine lv_iconst (v := 0) hx hb dX8_which_41 (by decide) ?_
      refine va_iald hx hb hK hP 7 1 rfl rfl (by unfold vp_in; decide) dX8_which_42 ?_
      refine lv_ti (y := (fstarts__6 0)) (by rfl) ?_
      refine lv_iload_n hx hb dX8_which_43 rfl (lv_at hl 0 rfl) ?_
      refine lv_icmp_ge (tgt := 51) hx hb dX8_which_44 (by decide) (fun c_7 => ?_) (fun c_7 => ?_)
      · refine lv_iload_n hx hb dX8_which_51 rfl (lv_at hl 2 rfl) ?_
        have hP9 := hP.sub (ws' := [((a 0), .inr (8, (fX8 a (nI tx) fp (nI t0) wd (nI we) nu na (nI rd) ts (nI ru) (nI rw) (nI ca) df db sd))), (aI k (a 1) 3 (nF dn)), (aI k (a 4) 27 (sg se tm gs)), (aI k (a 2) 72 ffrees), (aI k (a 3) 72 fprices), (aI k (a 18) 768 fons__6), (aI k (a 19) 768 fworths__6), (aI k (a 20) 5 fstarts__6), (aI k (a 21) 4 fends__6), (aZ k (a 22) 4 fgoesRound__6), (aI k (a 23) 8 fbegin__6)]) [0, 1, 2, 3, 4, 5, 6, 7, 8, 9, 10] rfl
        have hD9 := hD.sub (ws' := [((a 0), .inr (8, (fX8 a (nI tx) fp (nI t0) wd (nI we) nu na (nI rd) ts (nI ru) (nI rw) (nI ca) df db sd))), (aI k (a 1) 3 (nF dn)), (aI k (a 4) 27 (sg se tm gs)), (aI k (a 2) 72 ffrees), (aI k (a 3) 72 fprices), (aI k (a 18) 768 fons__6), (aI k (a 19) 768 fworths__6), (aI k (a 20) 5 fstarts__6), (aI k (a 21) 4 fends__6), (aZ k (a 22) 4 fgoesRound__6), (aI k (a 23) 8 fbegin__6)]) [0, 1, 2, 3, 4, 5, 6, 7, 8, 9, 10] (by decide) rfl
        exact W.iret (v := (nI j_2)) hx hb hr (fun t ht hW => ⟨⟨(nI j_2), (fons__6, fworths__6, fstarts__6, fends__6, fgoesRound__6, fbegin__6), rfl, trivial, by rw [ht]; exact hP9, hD9⟩, hS.F ht⟩) hS.2.2 dX8_which_52
      · refine lv_iload_n hx hb dX8_which_47 rfl (lv_at hl 3 rfl) ?_
        refine lv_goto (tgt := 52) hx hb dX8_which_48 (by decide) ?_
        have hP9 := hP.sub (ws' := [((a 0), .inr (8, (fX8 a (nI tx) fp (nI t0) wd (nI we) nu na (nI rd) ts (nI ru) (nI rw) (nI ca) df db sd))), (aI k (a 1) 3 (nF dn)), (aI k (a 4) 27 (sg se tm gs)), (aI k (a 2) 72 ffrees), (aI k (a 3) 72 fprices), (aI k (a 18) 768 fons__6), (aI k (a 19) 768 fworths__6), (aI k (a 20) 5 fstarts__6), (aI k (a 21) 4 fends__6), (aZ k (a 22) 4 fgoesRound__6), (aI k (a 23) 8 fbegin__6)]) [0, 1, 2, 3, 4, 5, 6, 7, 8, 9, 10] rfl
        have hD9 := hD.sub (ws' := [((a 0), .inr (8, (fX8 a (nI tx) fp (nI t0) wd (nI we) nu na (nI rd) ts (nI ru) (nI rw) (nI ca) df db sd))), (aI k (a 1) 3 (nF dn)), (aI k (a 4) 27 (sg se tm gs)), (aI k (a 2) 72 ffrees), (aI k (a 3) 72 fprices), (aI k (a 18) 768 fons__6), (aI k (a 19) 768 fworths__6), (aI k (a 20) 5 fstarts__6), (aI k (a 21) 4 fends__6), (aZ k (a 22) 4 fgoesRound__6), (aI k (a 23) 8 fbegin__6)]) [0, 1, 2, 3, 4, 5, 6, 7, 8, 9, 10] (by decide) rfl
        exact W.iret (v := (nI j_4)) hx hb hr (fun t ht hW => ⟨⟨(nI j_4), (fons__6, fworths__6, fstarts__6, fends__6, fgoesRound__6, fbegin__6), rfl, trivial, by rw [ht]; exact hP9, hD9⟩, hS.F ht⟩) hS.2.2 dX8_which_52
    · refine lv_if_ne (tgt := 20) hx hb dX8_which_13 (by decide) (fun h => absurd (by decide) h) (fun _ => ?_)
      refine lv_sipush (v := (-1001)) hx hb dX8_which_16 (by decide) ?_
      have hP9 := hP.sub (ws' := [((a 0), .inr (8, (fX8 a (nI tx) fp (nI t0) wd (nI we) nu na (nI rd) ts (nI ru) (nI rw) (nI ca) df db sd))), (aI k (a 1) 3 (nF dn)), (aI k (a 4) 27 (sg se tm gs)), (aI k (a 2) 72 ffrees), (aI k (a 3) 72 fprices), (aI k (a 18) 768 fons), (aI k (a 19) 768 fworths), (aI k (a 20) 5 fstarts), (aI k (a 21) 4 fends), (aZ k (a 22) 4 fgoesRound), (aI k (a 23) 8 fbegin)]) [0, 1, 2, 3, 4, 5, 6, 7, 8, 9, 10] rfl
      have hD9 := hD.sub (ws' := [((a 0), .inr (8, (fX8 a (nI tx) fp (nI t0) wd (nI we) nu na (nI rd) ts (nI ru) (nI rw) (nI ca) df db sd))), (aI k (a 1) 3 (nF dn)), (aI k (a 4) 27 (sg se tm gs)), (aI k (a 2) 72 ffrees), (aI k (a 3) 72 fprices), (aI k (a 18) 768 fons), (aI k (a 19) 768 fworths), (aI k (a 20) 5 fstarts), (aI k (a 21) 4 fends), (aZ k (a 22) 4 fgoesRound), (aI k (a 23) 8 fbegin)]) [0, 1, 2, 3, 4, 5, 6, 7, 8, 9, 10] (by decide) rfl
      exact W.iret (v := (-1001)) hx hb hr (fun t ht hW => ⟨⟨(-1001), (fons, fworths, fstarts, fends, fgoesRound, fbegin), rfl, trivial, by rw [ht]; exact hP9, hD9⟩, hS.F ht⟩) hS.2.2 dX8_which_19
  · refine lv_if_eq (tgt := 16) hx hb dX8_which_5 (by decide) (fun _ => ?_) (fun h => absurd (by decide) h)
    refine lv_sipush (v := (-1001)) hx hb dX8_which_16 (by decide) ?_
    have hP9 := hP.sub (ws' := [((a 0), .inr (8, (fX8 a (nI tx) fp (nI t0) wd (nI we) nu na (nI rd) ts (nI ru) (nI rw) (nI ca) df db sd))), (aI k (a 1) 3 (nF dn)), (aI k (a 4) 27 (sg se tm gs)), (aI k (a 2) 72 ffrees), (aI k (a 3) 72 fprices), (aI k (a 18) 768 fons), (aI k (a 19) 768 fworths), (aI k (a 20) 5 fstarts), (aI k (a 21) 4 fends), (aZ k (a 22) 4 fgoesRound), (aI k (a 23) 8 fbegin)]) [0, 1, 2, 3, 4, 5, 6, 7, 8, 9, 10] rfl
    have hD9 := hD.sub (ws' := [((a 0), .inr (8, (fX8 a (nI tx) fp (nI t0) wd (nI we) nu na (nI rd) ts (nI ru) (nI rw) (nI ca) df db sd))), (aI k (a 1) 3 (nF dn)), (aI k (a 4) 27 (sg se tm gs)), (aI k (a 2) 72 ffrees), (aI k (a 3) 72 fprices), (aI k (a 18) 768 fons), (aI k (a 19) 768 fworths), (aI k (a 20) 5 fstarts), (aI k (a 21) 4 fends), (aZ k (a 22) 4 fgoesRound), (aI k (a 23) 8 fbegin)]) [0, 1, 2, 3, 4, 5, 6, 7, 8, 9, 10] (by decide) rfl
    exact W.iret (v := (-1001)) hx hb hr (fun t ht hW => ⟨⟨(-1001), (fons, fworths, fstarts, fends, fgoesRound, fbegin), rfl, trivial, by rw [ht]; exact hP9, hD9⟩, hS.F ht⟩) hS.2.2 dX8_which_19

theorem f_m_clear_rows : True := trivial
theorem dX8_clear_0 : decode cX8_clear 0 = .ok (.aload_n 0, 1) := by decide +kernel
theorem dX8_clear_1 : decode cX8_clear 1 = .ok (.getfield 304, 3) := by decide +kernel
theorem dX8_clear_4 : decode cX8_clear 4 = .ok (.istore_n 1, 1) := by decide +kernel
theorem dX8_clear_5 : decode cX8_clear 5 = .ok (.aload_n 0, 1) := by decide +kernel
theorem dX8_clear_6 : decode cX8_clear 6 = .ok (.iconst 0, 1) := by decide +kernel
theorem dX8_clear_7 : decode cX8_clear 7 = .ok (.putfield 304, 3) := by decide +kernel
theorem dX8_clear_10 : decode cX8_clear 10 = .ok (.iload_n 1, 1) := by decide +kernel
theorem dX8_clear_11 : decode cX8_clear 11 = .ok (.ireturn, 1) := by decide +kernel
theorem dX8_seed_0 : decode cX8_seed 0 = .ok (.iload_n 1, 1) := by decide +kernel
theorem dX8_seed_1 : decode cX8_seed 1 = .ok (.ifCond .ge 7, 3) := by decide +kernel
theorem dX8_seed_4 : decode cX8_seed 4 = .ok (.sipush (-1002), 3) := by decide +kernel
theorem dX8_seed_7 : decode cX8_seed 7 = .ok (.ireturn, 1) := by decide +kernel
theorem dX8_seed_8 : decode cX8_seed 8 = .ok (.aload_n 0, 1) := by decide +kernel
theorem dX8_seed_9 : decode cX8_seed 9 = .ok (.getfield 374, 3) := by decide +kernel
theorem dX8_seed_12 : decode cX8_seed 12 = .ok (.istore_n 2, 1) := by decide +kernel
theorem dX8_seed_13 : decode cX8_seed 13 = .ok (.aload_n 0, 1) := by decide +kernel
theorem dX8_seed_14 : decode cX8_seed 14 = .ok (.iload_n 1, 1) := by decide +kernel
theorem dX8_seed_15 : decode cX8_seed 15 = .ok (.putfield 374, 3) := by decide +kernel
theorem dX8_seed_18 : decode cX8_seed 18 = .ok (.iload_n 2, 1) := by decide +kernel
theorem dX8_seed_19 : decode cX8_seed 19 = .ok (.ireturn, 1) := by decide +kernel
set_option maxHeartbeats 4000000 in
set_option maxRecDepth 100000 in
theorem m_seed (l : Launch) (D : va_G) (k : Nat → ClassId) (st : Nat → Nat) (lo : Nat) (a : Nat → Nat) (tx : Nat) (t0 : Nat) (we : Nat) (rd : Nat) (ru : Nat) (rw : Nat) (ca : Nat) (fp : Int32) (wd : Int64) (nu : Int32) (na : Int32) (ts : Int32) (df : Int32) (db : Int32) (sd : Int32) (p0 : Int32)  : CWi l D k st lo yX8_seed cX8_seed 3 (some .int) ({ frames := 0, cells := 0, slots := 0, locals := 0 }) 0 0 [.ref (a 0), .int p0] [((a 0), .inr (8, (fX8 a (nI tx) fp (nI t0) wd (nI we) nu na (nI rd) ts (nI ru) (nI rw) (nI ca) df db sd)))] (fun (r : Int32) (sd_ : Int32) => True) (fun (sd_ : Int32) => [((a 0), .inr (8, (fX8 a (nI tx) fp (nI t0) wd (nI we) nu na (nI rd) ts (nI ru) (nI rw) (nI ca) df db sd_)))]) := by
  intro sz
  refine Met.ofW (cc := cX8_seed) (maxL := 3) (ret := (some .int)) (by decide) rfl ?_
  intro p e s m args below meth c s₁ B hml hv
  obtain ⟨rfl, hsz, hlo, hP, hK, hDL, hZ⟩ := hv
  have hx := B.exec
  have hb := B.bytes
  have hr := B.returns
  have hts := WS_ts B.pre
  have hown : s.vm.findClass RX8 = some m.cls := findClass_of_methodNamed B.named
  have hlocks := B.notSynchronized
  subst hsz
  have hD := hDL.self (sz := s.heap.size)
  have hAlo := A_lo hDL hlo
  generalize hAe : va_A [((a 0), .inr (8, (fX8 a (nI tx) fp (nI t0) wd (nI we) nu na (nI rd) ts (nI ru) (nI rw) (nI ca) df db sd)))] s.heap.size = A at hD hAlo ⊢
  have hA : ∀ q : Nat, s.heap.size ≤ q → A q := fun q h => by rw [← hAe]; exact Or.inr h
  have hS : va_S A s.heap s.heap [] := va_S.rf
  have hl := lv_entry ([.ref (a 0), .int p0]) (n := 3) (Nat.le_of_ble_eq_true rfl)
  rw [lg_entry_eq]
  generalize (lg_sl ([.ref (a 0), .int p0]) ++ List.replicate (3 - (lg_sl ([.ref (a 0), .int p0])).length) Slot.unset).toArray = ls at hl ⊢
  have hl : lv_has ls 3 [(0, .ref (a 0)), (1, .int p0)] := hl
  refine lv_iload_n hx hb dX8_seed_0 rfl (lv_at hl 1 rfl) ?_
  refine lv_if_ge (tgt := 8) hx hb dX8_seed_1 (by decide) (fun c_1 => ?_) (fun c_1 => ?_)
  · refine lv_aload_n hx hb dX8_seed_8 rfl (lv_at hl 0 rfl) ?_
    refine va_get (D := D) (ci := 8) (v := .int sd) (C := RX8) (T := TX8) (N := 44) hx hb hts inX8 hown hK hP 0 rfl rfl 41 (by decide) (hts _ tw_1014) (fun _ h9 => h9) rfl dX8_seed_9 ?_
    refine lv_istore_n (lv' := [(2, .int sd), (0, .ref (a 0)), (1, .int p0)]) hx hb dX8_seed_12 rfl hl (by decide) rfl (fun ls hl => ?_)
    refine lv_aload_n hx hb dX8_seed_13 rfl (lv_at hl 1 rfl) ?_
    refine lv_iload_n hx hb dX8_seed_14 rfl (lv_at hl 2 rfl) ?_
    refine va_put (D := D) (ci := 8) (v := .int p0) (ty := .int) (C := RX8) (T := TX8) (N := 44) hx hb hts inX8 tyX8 tyX8_ok nmX8 hown hK hP hD hS 0 rfl rfl 41 (by decide) (hts _ tw_1014) (fun _ h9 => h9) rfl (by decide +kernel) rfl rfl (Nat.le_of_ble_eq_true rfl) dX8_seed_15 (fun H locs hP hD hS => ?_)
    replace hP : va_P D classes [((a 0), .inr (8, (fX8 a (nI tx) fp (nI t0) wd (nI we) nu na (nI rd) ts (nI ru) (nI rw) (nI ca) df db p0)))] H := hP
    replace hD : va_D A [((a 0), .inr (8, (fX8 a (nI tx) fp (nI t0) wd (nI we) nu na (nI rd) ts (nI ru) (nI rw) (nI ca) df db p0)))] := hD
    refine lv_iload_n hx hb dX8_seed_18 rfl (lv_at hl 0 rfl) ?_
    have hP9 := hP.sub (ws' := [((a 0), .inr (8, (fX8 a (nI tx) fp (nI t0) wd (nI we) nu na (nI rd) ts (nI ru) (nI rw) (nI ca) df db p0)))]) [0] rfl
    have hD9 := hD.sub (ws' := [((a 0), .inr (8, (fX8 a (nI tx) fp (nI t0) wd (nI we) nu na (nI rd) ts (nI ru) (nI rw) (nI ca) df db p0)))]) [0] (by decide) rfl
    exact W.iret (v := sd) hx hb hr (fun t ht hW => ⟨⟨sd, p0, rfl, trivial, by rw [ht]; exact hP9, hD9⟩, hS.F ht⟩) hS.2.2 dX8_seed_19
  · refine lv_sipush (v := (-1002)) hx hb dX8_seed_4 (by decide) ?_
    have hP9 := hP.sub (ws' := [((a 0), .inr (8, (fX8 a (nI tx) fp (nI t0) wd (nI we) nu na (nI rd) ts (nI ru) (nI rw) (nI ca) df db sd)))]) [0] rfl
    have hD9 := hD.sub (ws' := [((a 0), .inr (8, (fX8 a (nI tx) fp (nI t0) wd (nI we) nu na (nI rd) ts (nI ru) (nI rw) (nI ca) df db sd)))]) [0] (by decide) rfl
    exact W.iret (v := (-1002)) hx hb hr (fun t ht hW => ⟨⟨(-1002), sd, rfl, trivial, by rw [ht]; exact hP9, hD9⟩, hS.F ht⟩) hS.2.2 dX8_seed_7

theorem f_m_saw_rows : True := trivial
theorem dX8_saw_0 : decode cX8_saw 0 = .ok (.aload_n 0, 1) := by decide +kernel
theorem dX8_saw_1 : decode cX8_saw 1 = .ok (.getfield 304, 3) := by decide +kernel
theorem dX8_saw_4 : decode cX8_saw 4 = .ok (.bipush 24, 2) := by decide +kernel
theorem dX8_saw_6 : decode cX8_saw 6 = .ok (.if_icmp .ne 7, 3) := by decide +kernel
theorem dX8_saw_9 : decode cX8_saw 9 = .ok (.sipush (-1004), 3) := by decide +kernel
theorem dX8_saw_12 : decode cX8_saw 12 = .ok (.ireturn, 1) := by decide +kernel
theorem dX8_saw_13 : decode cX8_saw 13 = .ok (.aload_n 0, 1) := by decide +kernel
theorem dX8_saw_14 : decode cX8_saw 14 = .ok (.getfield 75, 3) := by decide +kernel
theorem dX8_saw_17 : decode cX8_saw 17 = .ok (.aload_n 0, 1) := by decide +kernel
theorem dX8_saw_18 : decode cX8_saw 18 = .ok (.getfield 304, 3) := by decide +kernel
theorem dX8_saw_21 : decode cX8_saw 21 = .ok (.iload_n 1, 1) := by decide +kernel
theorem dX8_saw_22 : decode cX8_saw 22 = .ok (.bastore, 1) := by decide +kernel
theorem dX8_saw_23 : decode cX8_saw 23 = .ok (.aload_n 0, 1) := by decide +kernel
theorem dX8_saw_24 : decode cX8_saw 24 = .ok (.dup, 1) := by decide +kernel
theorem dX8_saw_25 : decode cX8_saw 25 = .ok (.getfield 304, 3) := by decide +kernel
theorem dX8_saw_28 : decode cX8_saw 28 = .ok (.iconst 1, 1) := by decide +kernel
theorem dX8_saw_29 : decode cX8_saw 29 = .ok (.iadd, 1) := by decide +kernel
theorem dX8_saw_30 : decode cX8_saw 30 = .ok (.putfield 304, 3) := by decide +kernel
theorem dX8_saw_33 : decode cX8_saw 33 = .ok (.aload_n 0, 1) := by decide +kernel
theorem dX8_saw_34 : decode cX8_saw 34 = .ok (.getfield 304, 3) := by decide +kernel
theorem dX8_saw_37 : decode cX8_saw 37 = .ok (.ireturn, 1) := by decide +kernel

theorem dX7_taking_0 : decode cX7_taking 0 = .ok (.aload_n 0, 1) := by decide +kernel
theorem dX7_taking_1 : decode cX7_taking 1 = .ok (.iload_n 1, 1) := by decide +kernel
theorem dX7_taking_2 : decode cX7_taking 2 = .ok (.iload_n 3, 1) := by decide +kernel
theorem dX7_taking_3 : decode cX7_taking 3 = .ok (.invokevirtual 120, 3) := by decide +kernel
theorem dX7_taking_6 : decode cX7_taking 6 = .ok (.ifCond .ne 7, 3) := by decide +kernel
theorem dX7_taking_9 : decode cX7_taking 9 = .ok (.sipush (-1001), 3) := by decide +kernel
theorem dX7_taking_12 : decode cX7_taking 12 = .ok (.ireturn, 1) := by decide +kernel
theorem dX7_taking_13 : decode cX7_taking 13 = .ok (.aload_n 0, 1) := by decide +kernel
theorem dX7_taking_14 : decode cX7_taking 14 = .ok (.iload_n 1, 1) := by decide +kernel
theorem dX7_taking_15 : decode cX7_taking 15 = .ok (.iload_n 2, 1) := by decide +kernel
theorem dX7_taking_16 : decode cX7_taking 16 = .ok (.invokevirtual 134, 3) := by decide +kernel
theorem dX7_taking_19 : decode cX7_taking 19 = .ok (.ifCond .eq 17, 3) := by decide +kernel
theorem dX7_taking_22 : decode cX7_taking 22 = .ok (.aload_n 0, 1) := by decide +kernel
theorem dX7_taking_23 : decode cX7_taking 23 = .ok (.getfield 18, 3) := by decide +kernel
theorem dX7_taking_26 : decode cX7_taking 26 = .ok (.iload_n 1, 1) := by decide +kernel
theorem dX7_taking_27 : decode cX7_taking 27 = .ok (.aaload, 1) := by decide +kernel
theorem dX7_taking_28 : decode cX7_taking 28 = .ok (.iload_n 2, 1) := by decide +kernel
theorem dX7_taking_29 : decode cX7_taking 29 = .ok (.iload_n 3, 1) := by decide +kernel
theorem dX7_taking_30 : decode cX7_taking 30 = .ok (.invokevirtual 137, 3) := by decide +kernel
theorem dX7_taking_33 : decode cX7_taking 33 = .ok (.goto 6, 3) := by decide +kernel
theorem dX7_taking_36 : decode cX7_taking 36 = .ok (.sipush (-1002), 3) := by decide +kernel
theorem dX7_taking_39 : decode cX7_taking 39 = .ok (.ireturn, 1) := by decide +kernel
set_option maxHeartbeats 4000000 in
set_option maxRecDepth 100000 in
theorem x_taking (l : Launch) (D : va_G) (k : Nat → ClassId) (st : Nat → Nat) (lo : Nat) (a : Nat → Nat) (rk : Nat) (lfa : Int32) (n0 : Nat) (see0 : Nat) (tm0 : Nat) (g0 : Nat → Int32) (fp0 : Nat → Int32) (fl0 : Nat → Int32) (n1 : Nat) (see1 : Nat) (tm1 : Nat) (g1 : Nat → Int32) (fp1 : Nat → Int32) (fl1 : Nat → Int32) (n2 : Nat) (see2 : Nat) (tm2 : Nat) (g2 : Nat → Int32) (fp2 : Nat → Int32) (fl2 : Nat → Int32) (p0 : Int32) (p1 : Int32) (p2 : Int32) (hn0 : n0 ≤ 24) (hse0 : see0 ≤ 2) (htm0 : tm0 ≤ 3) (hn1 : n1 ≤ 24) (hse1 : see1 ≤ 2) (htm1 : tm1 ≤ 3) (hn2 : n2 ≤ 24) (hse2 : see2 ≤ 2) (htm2 : tm2 ≤ 3) : CRi l D k st lo yX7_taking cX7_taking 4 (some .int) ({ frames := 3, cells := 0, slots := 0, locals := 63 }) [.ref (a 0), .int p0, .int p1, .int p2] [((a 0), .inr (7, [.ref (a 1), .ref (a 3), .ref (a 19), .ref (a 35), .ref (a 40), .int (nI rk), .int lfa, .ref (a 53), .ref (a 56), .ref (a 63), .ref (a 64), .ref (a 68)])), ((a 3), .inl (k 3, 3, .inr (.inr (.inr (.inr (a3 (a 4) (a 9) (a 14))))))), ((a 4), .inr (5, [.ref (a 5), .ref (a 6), .ref (a 7), .ref (a 8)])), ((a 5), .inl (k 1, 10, .inl (vv n0 see0 tm0 g0))), ((a 7), .inl (k 1, 24, .inl fp0)), ((a 8), .inl (k 1, 4, .inl fl0)), ((a 9), .inr (5, [.ref (a 10), .ref (a 11), .ref (a 12), .ref (a 13)])), ((a 10), .inl (k 1, 10, .inl (vv n1 see1 tm1 g1))), ((a 12), .inl (k 1, 24, .inl fp1)), ((a 13), .inl (k 1, 4, .inl fl1)), ((a 14), .inr (5, [.ref (a 15), .ref (a 16), .ref (a 17), .ref (a 18)])), ((a 15), .inl (k 1, 10, .inl (vv n2 see2 tm2 g2))), ((a 17), .inl (k 1, 24, .inl fp2)), ((a 18), .inl (k 1, 4, .inl fl2))] (fun _ => True) := by
  intro sz
  refine Met.ofW (cc := cX7_taking) (maxL := 4) (ret := (some .int)) (by decide) rfl ?_
  intro p e s m args below meth c s₁ B hml hv
  obtain ⟨rfl, hsz, hlo, hP, hK, hDL, hZ⟩ := hv
  have hx := B.exec
  have hb := B.bytes
  have hr := B.returns
  have hts := WS_ts B.pre
  have hown : s.vm.findClass RX7 = some m.cls := findClass_of_methodNamed B.named
  have hlocks := B.notSynchronized
  subst hsz
  have hA : ∀ q : Nat, s.heap.size ≤ q → (fun q : Nat => s.heap.size ≤ q) q := fun _ h => h
  have hAlo : ∀ q : Nat, (fun q : Nat => s.heap.size ≤ q) q → lo ≤ q := fun q h => Nat.le_trans hlo h
  have hS : va_S (fun q : Nat => s.heap.size ≤ q) s.heap s.heap [] := va_S.rf
  have hl := lv_entry ([.ref (a 0), .int p0, .int p1, .int p2]) (n := 4) (Nat.le_of_ble_eq_true rfl)
  rw [lg_entry_eq]
  generalize (lg_sl ([.ref (a 0), .int p0, .int p1, .int p2]) ++ List.replicate (4 - (lg_sl ([.ref (a 0), .int p0, .int p1, .int p2])).length) Slot.unset).toArray = ls at hl ⊢
  have hl : lv_has ls 4 [(0, .ref (a 0)), (1, .int p0), (2, .int p1), (3, .int p2)] := hl
  refine lv_aload_n hx hb dX7_taking_0 rfl (lv_at hl 0 rfl) ?_
  refine lv_iload_n hx hb dX7_taking_1 rfl (lv_at hl 1 rfl) ?_
  refine lv_iload_n hx hb dX7_taking_2 rfl (lv_at hl 3 rfl) ?_
  refine ro_i (D := D) (va_runV (As := [.int p0, .int p2]) (rest := []) ⟨hx, hb, hml, hown, hts⟩ ((x_isDoor l D k st lo a rk lfa n0 see0 tm0 g0 n1 see1 tm1 g1 n2 see2 tm2 g2 p0 p2 (by omega) (by omega) (by omega)) s.heap.size) (cwV 2 hts (gV tw_600 tw_602 tw_9 tw_79 tw_603) rfl rfl rfl (by decide +kernel) ⟨Nat.le_of_ble_eq_true rfl, Nat.le_of_ble_eq_true rfl⟩) (pV hS hAlo hlo hP hK hDL hZ [0, 1, 2, 3, 6, 7, 10, 11] (by decide) rfl (ci := 7) (q0 := 0) rfl rfl) rfl rfl hl.1 rfl (lv_room (Nat.le_of_ble_eq_true rfl)) dX7_taking_3 ⟨Nat.le_of_ble_eq_true rfl, Nat.le_of_ble_eq_true rfl⟩) hS hA hP (fun r_1 H locs hw_1 hP hS => ?_)
  try dsimp only at hw_1
  rcases hw_1 with ⟨rfl, ⟨rfl, id_2, hid_2, rfl⟩ | ⟨rfl, id_2, hid_2, rfl⟩ | ⟨rfl, id_2, hid_2, rfl⟩⟩ | rfl
  · refine lv_if_ne (tgt := 13) hx hb dX7_taking_6 (by decide) (fun _ => ?_) (fun h => absurd h (by decide))
    refine lv_aload_n hx hb dX7_taking_13 rfl (lv_at hl 0 rfl) ?_
    refine lv_iload_n hx hb dX7_taking_14 rfl (lv_at hl 1 rfl) ?_
    refine lv_iload_n hx hb dX7_taking_15 rfl (lv_at hl 2 rfl) ?_
    refine ro_i (D := D) (va_runV (As := [.int 0, .int p1]) (rest := []) ⟨hx, hb, hml, hown, hts⟩ ((x_isRound_0 l D k st lo a rk lfa n0 see0 tm0 g0 p1 (by omega)) H.size) (cwV 2 hts (gV tw_613 tw_615 tw_10 tw_79 tw_616) rfl rfl rfl (by decide +kernel) ⟨Nat.le_of_ble_eq_true rfl, Nat.le_of_ble_eq_true rfl⟩) (pV hS hAlo hlo hP hK hDL hZ [0, 1, 2, 3] (by decide) rfl (ci := 7) (q0 := 0) rfl rfl) rfl rfl hl.1 rfl (lv_room (Nat.le_of_ble_eq_true rfl)) dX7_taking_16 ⟨Nat.le_of_ble_eq_true rfl, Nat.le_of_ble_eq_true rfl⟩) hS hA hP (fun r_3 H locs hw_3 hP hS => ?_)
    try dsimp only at hw_3
    rcases hw_3 with ⟨rfl, ir_4, hir_4, rfl⟩ | rfl
    · refine lv_if_eq (tgt := 36) hx hb dX7_taking_19 (by decide) (fun h => absurd h (by decide)) (fun _ => ?_)
      refine lv_aload_n hx hb dX7_taking_22 rfl (lv_at hl 0 rfl) ?_
      refine va_get (D := D) (ci := 7) (v := .ref (a 3)) (C := RX7) (T := TX7) (N := 12) hx hb hts inX7 hown hK hP 0 rfl rfl 1 (by decide) (hts _ tw_306) (fun _ h9 => h9) rfl dX7_taking_23 ?_
      refine lv_iload_n hx hb dX7_taking_26 rfl (lv_at hl 1 rfl) ?_
      refine va_aldq hx hb hK hP 1 3 rfl rfl (by unfold vp_in; decide) dX7_taking_27 ?_
      refine lv_tr (y := .ref (a 4)) rfl ?_
      refine lv_iload_n hx hb dX7_taking_28 rfl (lv_at hl 2 rfl) ?_
      refine lv_iload_n hx hb dX7_taking_29 rfl (lv_at hl 3 rfl) ?_
      refine ro_i (D := D) (va_runV (As := [.int (nI ir_4), .int (nI id_2)]) (rest := []) ⟨hx, hb, hml, hown, hts⟩ ((x_takingOf l D k st lo (a 4) (a 5) (a 6) (a 7) (a 8) n0 see0 tm0 g0 fp0 fl0 ir_4 id_2 (by omega) (by omega)) H.size) (cwV 2 hts (gV tw_617 tw_557 tw_558 tw_81 tw_559) rfl rfl rfl (by decide +kernel) ⟨Nat.le_of_ble_eq_true rfl, Nat.le_of_ble_eq_true rfl⟩) (pV hS hAlo hlo hP hK hDL hZ [2, 3, 4, 5] (by decide) rfl (ci := 5) (q0 := 0) rfl rfl) rfl rfl hl.1 rfl (lv_room (Nat.le_of_ble_eq_true rfl)) dX7_taking_30 ⟨Nat.le_of_ble_eq_true rfl, Nat.le_of_ble_eq_true rfl⟩) hS hA hP (fun r_5 H locs hw_5 hP hS => ?_)
      try dsimp only at hw_5
      refine lv_goto (tgt := 39) hx hb dX7_taking_33 (by decide) ?_
      exact W.iret (v := r_5) hx hb hr (fun t ht hW => ⟨⟨r_5, (), rfl, trivial, trivial⟩, hS.F ht⟩) hS.2.2 dX7_taking_39
    · refine lv_if_eq (tgt := 36) hx hb dX7_taking_19 (by decide) (fun _ => ?_) (fun h => absurd (by decide) h)
      refine lv_sipush (v := (-1002)) hx hb dX7_taking_36 (by decide) ?_
      exact W.iret (v := (-1002)) hx hb hr (fun t ht hW => ⟨⟨(-1002), (), rfl, trivial, trivial⟩, hS.F ht⟩) hS.2.2 dX7_taking_39
  · refine lv_if_ne (tgt := 13) hx hb dX7_taking_6 (by decide) (fun _ => ?_) (fun h => absurd h (by decide))
    refine lv_aload_n hx hb dX7_taking_13 rfl (lv_at hl 0 rfl) ?_
    refine lv_iload_n hx hb dX7_taking_14 rfl (lv_at hl 1 rfl) ?_
    refine lv_iload_n hx hb dX7_taking_15 rfl (lv_at hl 2 rfl) ?_
    refine ro_i (D := D) (va_runV (As := [.int 1, .int p1]) (rest := []) ⟨hx, hb, hml, hown, hts⟩ ((x_isRound_1 l D k st lo a rk lfa n1 see1 tm1 g1 p1 (by omega)) H.size) (cwV 2 hts (gV tw_613 tw_615 tw_10 tw_79 tw_616) rfl rfl rfl (by decide +kernel) ⟨Nat.le_of_ble_eq_true rfl, Nat.le_of_ble_eq_true rfl⟩) (pV hS hAlo hlo hP hK hDL hZ [0, 1, 6, 7] (by decide) rfl (ci := 7) (q0 := 0) rfl rfl) rfl rfl hl.1 rfl (lv_room (Nat.le_of_ble_eq_true rfl)) dX7_taking_16 ⟨Nat.le_of_ble_eq_true rfl, Nat.le_of_ble_eq_true rfl⟩) hS hA hP (fun r_6 H locs hw_6 hP hS => ?_)
    try dsimp only at hw_6
    rcases hw_6 with ⟨rfl, ir_7, hir_7, rfl⟩ | rfl
    · refine lv_if_eq (tgt := 36) hx hb dX7_taking_19 (by decide) (fun h => absurd h (by decide)) (fun _ => ?_)
      refine lv_aload_n hx hb dX7_taking_22 rfl (lv_at hl 0 rfl) ?_
      refine va_get (D := D) (ci := 7) (v := .ref (a 3)) (C := RX7) (T := TX7) (N := 12) hx hb hts inX7 hown hK hP 0 rfl rfl 1 (by decide) (hts _ tw_306) (fun _ h9 => h9) rfl dX7_taking_23 ?_
      refine lv_iload_n hx hb dX7_taking_26 rfl (lv_at hl 1 rfl) ?_
      refine va_aldq hx hb hK hP 1 3 rfl rfl (by unfold vp_in; decide) dX7_taking_27 ?_
      refine lv_tr (y := .ref (a 9)) rfl ?_
      refine lv_iload_n hx hb dX7_taking_28 rfl (lv_at hl 2 rfl) ?_
      refine lv_iload_n hx hb dX7_taking_29 rfl (lv_at hl 3 rfl) ?_
      refine ro_i (D := D) (va_runV (As := [.int (nI ir_7), .int (nI id_2)]) (rest := []) ⟨hx, hb, hml, hown, hts⟩ ((x_takingOf l D k st lo (a 9) (a 10) (a 11) (a 12) (a 13) n1 see1 tm1 g1 fp1 fl1 ir_7 id_2 (by omega) (by omega)) H.size) (cwV 2 hts (gV tw_617 tw_557 tw_558 tw_81 tw_559) rfl rfl rfl (by decide +kernel) ⟨Nat.le_of_ble_eq_true rfl, Nat.le_of_ble_eq_true rfl⟩) (pV hS hAlo hlo hP hK hDL hZ [6, 7, 8, 9] (by decide) rfl (ci := 5) (q0 := 0) rfl rfl) rfl rfl hl.1 rfl (lv_room (Nat.le_of_ble_eq_true rfl)) dX7_taking_30 ⟨Nat.le_of_ble_eq_true rfl, Nat.le_of_ble_eq_true rfl⟩) hS hA hP (fun r_8 H locs hw_8 hP hS => ?_)
      try dsimp only at hw_8
      refine lv_goto (tgt := 39) hx hb dX7_taking_33 (by decide) ?_
      exact W.iret (v := r_8) hx hb hr (fun t ht hW => ⟨⟨r_8, (), rfl, trivial, trivial⟩, hS.F ht⟩) hS.2.2 dX7_taking_39
    · refine lv_if_eq (tgt := 36) hx hb dX7_taking_19 (by decide) (fun _ => ?_) (fun h => absurd (by decide) h)
      refine lv_sipush (v := (-1002)) hx hb dX7_taking_36 (by decide) ?_
      exact W.iret (v := (-1002)) hx hb hr (fun t ht hW => ⟨⟨(-1002), (), rfl, trivial, trivial⟩, hS.F ht⟩) hS.2.2 dX7_taking_39
  · refine lv_if_ne (tgt := 13) hx hb dX7_taking_6 (by decide) (fun _ => ?_) (fun h => absurd h (by decide))
    refine lv_aload_n hx hb dX7_taking_13 rfl (lv_at hl 0 rfl) ?_
    refine lv_iload_n hx hb dX7_taking_14 rfl (lv_at hl 1 rfl) ?_
    refine lv_iload_n hx hb dX7_taking_15 rfl (lv_at hl 2 rfl) ?_
    refine ro_i (D := D) (va_runV (As := [.int 2, .int p1]) (rest := []) ⟨hx, hb, hml, hown, hts⟩ ((x_isRound_2 l D k st lo a rk lfa n2 see2 tm2 g2 p1 (by omega)) H.size) (cwV 2 hts (gV tw_613 tw_615 tw_10 tw_79 tw_616) rfl rfl rfl (by decide +kernel) ⟨Nat.le_of_ble_eq_true rfl, Nat.le_of_ble_eq_true rfl⟩) (pV hS hAlo hlo hP hK hDL hZ [0, 1, 10, 11] (by decide) rfl (ci := 7) (q0 := 0) rfl rfl) rfl rfl hl.1 rfl (lv_room (Nat.le_of_ble_eq_true rfl)) dX7_taking_16 ⟨Nat.le_of_ble_eq_true rfl, Nat.le_of_ble_eq_true rfl⟩) hS hA hP (fun r_9 H locs hw_9 hP hS => ?_)
    try dsimp only at hw_9
    rcases hw_9 with ⟨rfl, ir_10, hir_10, rfl⟩ | rfl
    · refine lv_if_eq (tgt := 36) hx hb dX7_taking_19 (by decide) (fun h => absurd h (by decide)) (fun _ => ?_)
      refine lv_aload_n hx hb dX7_taking_22 rfl (lv_at hl 0 rfl) ?_
      refine va_get (D := D) (ci := 7) (v := .ref (a 3)) (C := RX7) (T := TX7) (N := 12) hx hb hts inX7 hown hK hP 0 rfl rfl 1 (by decide) (hts _ tw_306) (fun _ h9 => h9) rfl dX7_taking_23 ?_
      refine lv_iload_n hx hb dX7_taking_26 rfl (lv_at hl 1 rfl) ?_
      refine va_aldq hx hb hK hP 1 3 rfl rfl (by unfold vp_in; decide) dX7_taking_27 ?_
      refine lv_tr (y := .ref (a 14)) rfl ?_
      refine lv_iload_n hx hb dX7_taking_28 rfl (lv_at hl 2 rfl) ?_
      refine lv_iload_n hx hb dX7_taking_29 rfl (lv_at hl 3 rfl) ?_
      refine ro_i (D := D) (va_runV (As := [.int (nI ir_10), .int (nI id_2)]) (rest := []) ⟨hx, hb, hml, hown, hts⟩ ((x_takingOf l D k st lo (a 14) (a 15) (a 16) (a 17) (a 18) n2 see2 tm2 g2 fp2 fl2 ir_10 id_2 (by omega) (by omega)) H.size) (cwV 2 hts (gV tw_617 tw_557 tw_558 tw_81 tw_559) rfl rfl rfl (by decide +kernel) ⟨Nat.le_of_ble_eq_true rfl, Nat.le_of_ble_eq_true rfl⟩) (pV hS hAlo hlo hP hK hDL hZ [10, 11, 12, 13] (by decide) rfl (ci := 5) (q0 := 0) rfl rfl) rfl rfl hl.1 rfl (lv_room (Nat.le_of_ble_eq_true rfl)) dX7_taking_30 ⟨Nat.le_of_ble_eq_true rfl, Nat.le_of_ble_eq_true rfl⟩) hS hA hP (fun r_11 H locs hw_11 hP hS => ?_)
      try dsimp only at hw_11
      refine lv_goto (tgt := 39) hx hb dX7_taking_33 (by decide) ?_
      exact W.iret (v := r_11) hx hb hr (fun t ht hW => ⟨⟨r_11, (), rfl, trivial, trivial⟩, hS.F ht⟩) hS.2.2 dX7_taking_39
    · refine lv_if_eq (tgt := 36) hx hb dX7_taking_19 (by decide) (fun _ => ?_) (fun h => absurd (by decide) h)
      refine lv_sipush (v := (-1002)) hx hb dX7_taking_36 (by decide) ?_
      exact W.iret (v := (-1002)) hx hb hr (fun t ht hW => ⟨⟨(-1002), (), rfl, trivial, trivial⟩, hS.F ht⟩) hS.2.2 dX7_taking_39
  · refine lv_if_ne (tgt := 13) hx hb dX7_taking_6 (by decide) (fun h => absurd (by decide) h) (fun _ => ?_)
    refine lv_sipush (v := (-1001)) hx hb dX7_taking_9 (by decide) ?_
    exact W.iret (v := (-1001)) hx hb hr (fun t ht hW => ⟨⟨(-1001), (), rfl, trivial, trivial⟩, hS.F ht⟩) hS.2.2 dX7_taking_12


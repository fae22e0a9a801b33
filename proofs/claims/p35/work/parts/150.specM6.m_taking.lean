theorem dX8_taking_0 : decode cX8_taking 0 = .ok (.aload_n 0, 1) := by decide +kernel
theorem dX8_taking_1 : decode cX8_taking 1 = .ok (.iload_n 1, 1) := by decide +kernel
theorem dX8_taking_2 : decode cX8_taking 2 = .ok (.invokevirtual 206, 3) := by decide +kernel
theorem dX8_taking_5 : decode cX8_taking 5 = .ok (.ifCond .eq 12, 3) := by decide +kernel
theorem dX8_taking_8 : decode cX8_taking 8 = .ok (.aload_n 0, 1) := by decide +kernel
theorem dX8_taking_9 : decode cX8_taking 9 = .ok (.iload_n 1, 1) := by decide +kernel
theorem dX8_taking_10 : decode cX8_taking 10 = .ok (.iload_n 3, 1) := by decide +kernel
theorem dX8_taking_11 : decode cX8_taking 11 = .ok (.invokevirtual 215, 3) := by decide +kernel
theorem dX8_taking_14 : decode cX8_taking 14 = .ok (.ifCond .ne 7, 3) := by decide +kernel
theorem dX8_taking_17 : decode cX8_taking 17 = .ok (.sipush (-1001), 3) := by decide +kernel
theorem dX8_taking_20 : decode cX8_taking 20 = .ok (.ireturn, 1) := by decide +kernel
theorem dX8_taking_21 : decode cX8_taking 21 = .ok (.aload_n 0, 1) := by decide +kernel
theorem dX8_taking_22 : decode cX8_taking 22 = .ok (.iload_n 1, 1) := by decide +kernel
theorem dX8_taking_23 : decode cX8_taking 23 = .ok (.iload_n 2, 1) := by decide +kernel
theorem dX8_taking_24 : decode cX8_taking 24 = .ok (.invokevirtual 234, 3) := by decide +kernel
theorem dX8_taking_27 : decode cX8_taking 27 = .ok (.ifCond .eq 13, 3) := by decide +kernel
theorem dX8_taking_30 : decode cX8_taking 30 = .ok (.aload_n 0, 1) := by decide +kernel
theorem dX8_taking_31 : decode cX8_taking 31 = .ok (.iload_n 1, 1) := by decide +kernel
theorem dX8_taking_32 : decode cX8_taking 32 = .ok (.iload_n 2, 1) := by decide +kernel
theorem dX8_taking_33 : decode cX8_taking 33 = .ok (.iload_n 3, 1) := by decide +kernel
theorem dX8_taking_34 : decode cX8_taking 34 = .ok (.invokevirtual 237, 3) := by decide +kernel
theorem dX8_taking_37 : decode cX8_taking 37 = .ok (.goto 6, 3) := by decide +kernel
theorem dX8_taking_40 : decode cX8_taking 40 = .ok (.sipush (-1002), 3) := by decide +kernel
theorem dX8_taking_43 : decode cX8_taking 43 = .ok (.ireturn, 1) := by decide +kernel
set_option maxHeartbeats 4000000 in
set_option maxRecDepth 100000 in
theorem m_taking (l : Launch) (D : va_G) (k : Nat → ClassId) (st : Nat → Nat) (lo : Nat) (a : Nat → Nat) (tx : Nat) (t0 : Nat) (we : Nat) (rd : Nat) (ru : Nat) (rw : Nat) (ca : Nat) (fp : Int32) (wd : Int64) (nu : Int32) (na : Int32) (ts : Int32) (df : Int32) (db : Int32) (sd : Int32) (dn : Nat → Nat) (se : Nat → Nat) (tm : Nat → Nat) (gs : Nat → Int32) (ffrees : Nat → Int32) (fprices : Nat → Int32) (p0 : Int32) (p1 : Int32) (p2 : Int32) (hdn : ∀ j, dn j ≤ 24) (hse : ∀ j, se j ≤ 2) (htm : ∀ j, tm j ≤ 3) : CRi l D k st lo yX8_taking cX8_taking 4 (some .int) ({ frames := 4, cells := 0, slots := 0, locals := 93 }) [.ref (a 0), .int p0, .int p1, .int p2] [((a 0), .inr (8, [.ref (a 1), .ref (a 2), .ref (a 3), .ref (a 4), .ref (a 5), .int (nI tx), .int fp, .int (nI t0), .long wd, .int (nI we), .int nu, .int na, .int (nI rd), .ref (a 14), .ref (a 15), .ref (a 16), .int ts, .ref (a 18), .ref (a 19), .ref (a 20), .ref (a 21), .ref (a 22), .ref (a 23), .int (nI ru), .ref (a 25), .ref (a 26), .ref (a 27), .ref (a 28), .ref (a 29), .ref (a 30), .int (nI rw), .ref (a 32), .ref (a 33), .ref (a 34), .int (nI ca), .ref (a 36), .ref (a 37), .int df, .int db, .ref (a 40), .ref (a 41), .int sd, .ref (a 43), .ref (a 44)])), ((a 1), .inl (k 1, 3, .inl (nF dn))), ((a 4), .inl (k 1, 27, .inl (sg se tm gs))), ((a 2), .inl (k 1, 72, .inl ffrees)), ((a 3), .inl (k 1, 72, .inl fprices))] (fun r => True) := by
  intro sz
  refine Met.ofW (cc := cX8_taking) (maxL := 4) (ret := (some .int)) (by decide) rfl ?_
  intro p e s m args below meth c s₁ B hml hv
  obtain ⟨rfl, hsz, hlo, hP, hK, hDL, hZ⟩ := hv
  have hx := B.exec
  have hb := B.bytes
  have hr := B.returns
  have hts := WS_ts B.pre
  have hown : s.vm.findClass RX8 = some m.cls := findClass_of_methodNamed B.named
  have hlocks := B.notSynchronized
  subst hsz
  have hA : ∀ q : Nat, s.heap.size ≤ q → (fun q : Nat => s.heap.size ≤ q) q := fun _ h => h
  have hAlo : ∀ q : Nat, (fun q : Nat => s.heap.size ≤ q) q → lo ≤ q := fun q h => Nat.le_trans hlo h
  have hS : va_S (fun q : Nat => s.heap.size ≤ q) s.heap s.heap [] := va_S.rf
  have hl := lv_entry ([.ref (a 0), .int p0, .int p1, .int p2]) (n := 4) (Nat.le_of_ble_eq_true rfl)
  rw [lg_entry_eq]
  generalize (lg_sl ([.ref (a 0), .int p0, .int p1, .int p2]) ++ List.replicate (4 - (lg_sl ([.ref (a 0), .int p0, .int p1, .int p2])).length) Slot.unset).toArray = ls at hl ⊢
  have hl : lv_has ls 4 [(0, .ref (a 0)), (1, .int p0), (2, .int p1), (3, .int p2)] := hl
  refine lv_aload_n hx hb dX8_taking_0 rfl (lv_at hl 0 rfl) ?_
  refine lv_iload_n hx hb dX8_taking_1 rfl (lv_at hl 1 rfl) ?_
  refine ro_i (D := D) (va_runV (As := [.int p0]) (rest := []) ⟨hx, hb, hml, hown, hts⟩ ((m_isStreet l D k st lo a tx t0 we rd ru rw ca fp wd nu na ts df db sd dn p0 hdn) s.heap.size) (cwV 1 hts (gV tw_1189 tw_1191 tw_38 tw_87 tw_1192) rfl rfl rfl (by decide +kernel) ⟨Nat.le_of_ble_eq_true rfl, Nat.le_of_ble_eq_true rfl⟩) (pV hS hAlo hlo hP hK hDL hZ [0, 1] (by decide) rfl (ci := 8) (q0 := 0) rfl rfl) rfl rfl hl.1 rfl (lv_room (Nat.le_of_ble_eq_true rfl)) dX8_taking_2 ⟨Nat.le_of_ble_eq_true rfl, Nat.le_of_ble_eq_true rfl⟩) hS hA hP (fun r_1 H locs hw_1 hP hS => ?_)
  try dsimp only at hw_1
  rcases hw_1 with ⟨rfl, j_2, hj_2, rfl, hw_1⟩ | rfl
  · have hdj_2 := hdn j_2
    have htj_2 := htm j_2
    refine lv_if_eq (tgt := 17) hx hb dX8_taking_5 (by decide) (fun h => absurd h (by decide)) (fun _ => ?_)
    refine lv_aload_n hx hb dX8_taking_8 rfl (lv_at hl 0 rfl) ?_
    refine lv_iload_n hx hb dX8_taking_9 rfl (lv_at hl 1 rfl) ?_
    refine lv_iload_n hx hb dX8_taking_10 rfl (lv_at hl 3 rfl) ?_
    refine ro_i (D := D) (va_runV (As := [.int (nI j_2), .int p2]) (rest := []) ⟨hx, hb, hml, hown, hts⟩ ((m_isDoor l D k st lo a tx t0 we rd ru rw ca fp wd nu na ts df db sd dn j_2 p2 hdn (by omega)) H.size) (cwV 2 hts (gV tw_1202 tw_1204 tw_40 tw_87 tw_1205) rfl rfl rfl (by decide +kernel) ⟨Nat.le_of_ble_eq_true rfl, Nat.le_of_ble_eq_true rfl⟩) (pV hS hAlo hlo hP hK hDL hZ [0, 1] (by decide) rfl (ci := 8) (q0 := 0) rfl rfl) rfl rfl hl.1 rfl (lv_room (Nat.le_of_ble_eq_true rfl)) dX8_taking_11 ⟨Nat.le_of_ble_eq_true rfl, Nat.le_of_ble_eq_true rfl⟩) hS hA hP (fun r_3 H locs hw_3 hP hS => ?_)
    try dsimp only at hw_3
    rcases hw_3 with ⟨rfl, j_4, hj_4, rfl, hw_3⟩ | rfl
    · refine lv_if_ne (tgt := 21) hx hb dX8_taking_14 (by decide) (fun _ => ?_) (fun h => absurd h (by decide))
      refine lv_aload_n hx hb dX8_taking_21 rfl (lv_at hl 0 rfl) ?_
      refine lv_iload_n hx hb dX8_taking_22 rfl (lv_at hl 1 rfl) ?_
      refine lv_iload_n hx hb dX8_taking_23 rfl (lv_at hl 2 rfl) ?_
      refine ro_i (D := D) (va_runV (As := [.int (nI j_2), .int p1]) (rest := []) ⟨hx, hb, hml, hown, hts⟩ ((m_isRound l D k st lo a tx t0 we rd ru rw ca fp wd nu na ts df db sd se tm gs j_2 p1 htm (by omega)) H.size) (cwV 2 hts (gV tw_1218 tw_1220 tw_42 tw_87 tw_1221) rfl rfl rfl (by decide +kernel) ⟨Nat.le_of_ble_eq_true rfl, Nat.le_of_ble_eq_true rfl⟩) (pV hS hAlo hlo hP hK hDL hZ [0, 2] (by decide) rfl (ci := 8) (q0 := 0) rfl rfl) rfl rfl hl.1 rfl (lv_room (Nat.le_of_ble_eq_true rfl)) dX8_taking_24 ⟨Nat.le_of_ble_eq_true rfl, Nat.le_of_ble_eq_true rfl⟩) hS hA hP (fun r_5 H locs hw_5 hP hS => ?_)
      try dsimp only at hw_5
      rcases hw_5 with ⟨rfl, j_6, hj_6, rfl, hw_5⟩ | rfl
      · refine lv_if_eq (tgt := 40) hx hb dX8_taking_27 (by decide) (fun h => absurd h (by decide)) (fun _ => ?_)
        refine lv_aload_n hx hb dX8_taking_30 rfl (lv_at hl 0 rfl) ?_
        refine lv_iload_n hx hb dX8_taking_31 rfl (lv_at hl 1 rfl) ?_
        refine lv_iload_n hx hb dX8_taking_32 rfl (lv_at hl 2 rfl) ?_
        refine lv_iload_n hx hb dX8_taking_33 rfl (lv_at hl 3 rfl) ?_
        refine ro_i (D := D) (va_runV (As := [.int (nI j_2), .int (nI j_6), .int (nI j_4)]) (rest := []) ⟨hx, hb, hml, hown, hts⟩ ((m_takingOf l D k st lo a tx t0 we rd ru rw ca fp wd nu na ts df db sd dn se tm gs fprices j_2 j_4 (nI j_6) (by omega) (by omega)) H.size) (cwV 3 hts (gV tw_1222 tw_1224 tw_43 tw_87 tw_1225) rfl rfl rfl (by decide +kernel) ⟨Nat.le_of_ble_eq_true rfl, Nat.le_of_ble_eq_true rfl⟩) (pV hS hAlo hlo hP hK hDL hZ [0, 1, 2, 4] (by decide) rfl (ci := 8) (q0 := 0) rfl rfl) rfl rfl hl.1 rfl (lv_room (Nat.le_of_ble_eq_true rfl)) dX8_taking_34 ⟨Nat.le_of_ble_eq_true rfl, Nat.le_of_ble_eq_true rfl⟩) hS hA hP (fun r_7 H locs hw_7 hP hS => ?_)
        try dsimp only at hw_7
        refine lv_goto (tgt := 43) hx hb dX8_taking_37 (by decide) ?_
        exact W.iret (v := r_7) hx hb hr (fun t ht hW => ⟨⟨r_7, (), rfl, trivial, trivial⟩, hS.F ht⟩) hS.2.2 dX8_taking_43
      · refine lv_if_eq (tgt := 40) hx hb dX8_taking_27 (by decide) (fun _ => ?_) (fun h => absurd (by decide) h)
        refine lv_sipush (v := (-1002)) hx hb dX8_taking_40 (by decide) ?_
        exact W.iret (v := (-1002)) hx hb hr (fun t ht hW => ⟨⟨(-1002), (), rfl, trivial, trivial⟩, hS.F ht⟩) hS.2.2 dX8_taking_43
    · refine lv_if_ne (tgt := 21) hx hb dX8_taking_14 (by decide) (fun h => absurd (by decide) h) (fun _ => ?_)
      refine lv_sipush (v := (-1001)) hx hb dX8_taking_17 (by decide) ?_
      exact W.iret (v := (-1001)) hx hb hr (fun t ht hW => ⟨⟨(-1001), (), rfl, trivial, trivial⟩, hS.F ht⟩) hS.2.2 dX8_taking_20
  · refine lv_if_eq (tgt := 17) hx hb dX8_taking_5 (by decide) (fun _ => ?_) (fun h => absurd (by decide) h)
    refine lv_sipush (v := (-1001)) hx hb dX8_taking_17 (by decide) ?_
    exact W.iret (v := (-1001)) hx hb hr (fun t ht hW => ⟨⟨(-1001), (), rfl, trivial, trivial⟩, hS.F ht⟩) hS.2.2 dX8_taking_20


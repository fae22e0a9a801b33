theorem dX8_lost_0 : decode cX8_lost 0 = .ok (.aload_n 0, 1) := by decide +kernel
theorem dX8_lost_1 : decode cX8_lost 1 = .ok (.iload_n 1, 1) := by decide +kernel
theorem dX8_lost_2 : decode cX8_lost 2 = .ok (.invokevirtual 206, 3) := by decide +kernel
theorem dX8_lost_5 : decode cX8_lost 5 = .ok (.ifCond .ne 7, 3) := by decide +kernel
theorem dX8_lost_8 : decode cX8_lost 8 = .ok (.sipush (-1001), 3) := by decide +kernel
theorem dX8_lost_11 : decode cX8_lost 11 = .ok (.ireturn, 1) := by decide +kernel
theorem dX8_lost_12 : decode cX8_lost 12 = .ok (.aload_n 0, 1) := by decide +kernel
theorem dX8_lost_13 : decode cX8_lost 13 = .ok (.iload_n 1, 1) := by decide +kernel
theorem dX8_lost_14 : decode cX8_lost 14 = .ok (.iload_n 2, 1) := by decide +kernel
theorem dX8_lost_15 : decode cX8_lost 15 = .ok (.invokevirtual 333, 3) := by decide +kernel
theorem dX8_lost_18 : decode cX8_lost 18 = .ok (.ifCond .eq 19, 3) := by decide +kernel
theorem dX8_lost_21 : decode cX8_lost 21 = .ok (.aload_n 0, 1) := by decide +kernel
theorem dX8_lost_22 : decode cX8_lost 22 = .ok (.iload_n 1, 1) := by decide +kernel
theorem dX8_lost_23 : decode cX8_lost 23 = .ok (.iload_n 2, 1) := by decide +kernel
theorem dX8_lost_24 : decode cX8_lost 24 = .ok (.invokevirtual 368, 3) := by decide +kernel
theorem dX8_lost_27 : decode cX8_lost 27 = .ok (.aload_n 0, 1) := by decide +kernel
theorem dX8_lost_28 : decode cX8_lost 28 = .ok (.iload_n 1, 1) := by decide +kernel
theorem dX8_lost_29 : decode cX8_lost 29 = .ok (.iload_n 2, 1) := by decide +kernel
theorem dX8_lost_30 : decode cX8_lost 30 = .ok (.invokevirtual 371, 3) := by decide +kernel
theorem dX8_lost_33 : decode cX8_lost 33 = .ok (.isub, 1) := by decide +kernel
theorem dX8_lost_34 : decode cX8_lost 34 = .ok (.goto 6, 3) := by decide +kernel
theorem dX8_lost_37 : decode cX8_lost 37 = .ok (.sipush (-1002), 3) := by decide +kernel
theorem dX8_lost_40 : decode cX8_lost 40 = .ok (.ireturn, 1) := by decide +kernel
set_option maxHeartbeats 4000000 in
set_option maxRecDepth 100000 in
theorem m_lost (l : Launch) (D : va_G) (k : Nat → ClassId) (st : Nat → Nat) (lo : Nat) (a : Nat → Nat) (tx : Nat) (t0 : Nat) (we : Nat) (rd : Nat) (ru : Nat) (rw : Nat) (ca : Nat) (fp : Int32) (wd : Int64) (nu : Int32) (na : Int32) (ts : Int32) (df : Int32) (db : Int32) (sd : Int32) (dn : Nat → Nat) (se : Nat → Nat) (tm : Nat → Nat) (gs : Nat → Int32) (fprices : Nat → Int32) (fwalks : Nat → Int32) (br : Nat → Nat) (fdoorsOf : Nat → Int32) (p0 : Int32) (p1 : Int32) (hdn : ∀ j, dn j ≤ 24) (hca : ca ≤ 4) (hbr : ∀ j, br j ≤ 24) (hdv : dvOK fdoorsOf) : CWi l D k st lo yX8_lost cX8_lost 3 (some .int) ({ frames := 6, cells := 0, slots := 0, locals := 149 }) 0 0 [.ref (a 0), .int p0, .int p1] [((a 0), .inr (8, (fX8 a (nI tx) fp (nI t0) wd (nI we) nu na (nI rd) ts (nI ru) (nI rw) (nI ca) df db sd))), (aI k (a 1) 3 (nF dn)), (aI k (a 4) 27 (sg se tm gs)), (aI k (a 3) 72 fprices), (aI k (a 36) 4 fwalks), (aI k (a 37) 4 (nF br)), (aI k (a 40) 4 fdoorsOf)] (fun (r : Int32) (fdoorsOf_ : (Nat → Int32)) => dvOK fdoorsOf_) (fun (fdoorsOf_ : (Nat → Int32)) => [((a 0), .inr (8, (fX8 a (nI tx) fp (nI t0) wd (nI we) nu na (nI rd) ts (nI ru) (nI rw) (nI ca) df db sd))), (aI k (a 1) 3 (nF dn)), (aI k (a 4) 27 (sg se tm gs)), (aI k (a 3) 72 fprices), (aI k (a 36) 4 fwalks), (aI k (a 37) 4 (nF br)), (aI k (a 40) 4 fdoorsOf_)]) := by
  intro sz
  refine Met.ofW (cc := cX8_lost) (maxL := 3) (ret := (some .int)) (by decide) rfl ?_
  intro p e s m args below meth c s₁ B hml hv
  obtain ⟨rfl, hsz, hlo, hP, hK, hDL, hZ⟩ := hv
  have hx := B.exec
  have hb := B.bytes
  have hr := B.returns
  have hts := WS_ts B.pre
  have hown : s.vm.findClass RX8 = some m.cls := findClass_of_methodNamed B.named
  have hlocks := B.notSynchronized
  subst hsz
  have hD := hDL.self (sz := s.heap.size)
  have hAlo := A_lo hDL hlo
  generalize hAe : va_A [((a 0), .inr (8, (fX8 a (nI tx) fp (nI t0) wd (nI we) nu na (nI rd) ts (nI ru) (nI rw) (nI ca) df db sd))), (aI k (a 1) 3 (nF dn)), (aI k (a 4) 27 (sg se tm gs)), (aI k (a 3) 72 fprices), (aI k (a 36) 4 fwalks), (aI k (a 37) 4 (nF br)), (aI k (a 40) 4 fdoorsOf)] s.heap.size = A at hD hAlo ⊢
  have hA : ∀ q : Nat, s.heap.size ≤ q → A q := fun q h => by rw [← hAe]; exact Or.inr h
  have hS : va_S A s.heap s.heap [] := va_S.rf
  have hl := lv_entry ([.ref (a 0), .int p0, .int p1]) (n := 3) (Nat.le_of_ble_eq_true rfl)
  rw [lg_entry_eq]
  generalize (lg_sl ([.ref (a 0), .int p0, .int p1]) ++ List.replicate (3 - (lg_sl ([.ref (a 0), .int p0, .int p1])).length) Slot.unset).toArray = ls at hl ⊢
  have hl : lv_has ls 3 [(0, .ref (a 0)), (1, .int p0), (2, .int p1)] := hl
  refine lv_aload_n hx hb dX8_lost_0 rfl (lv_at hl 0 rfl) ?_
  refine lv_iload_n hx hb dX8_lost_1 rfl (lv_at hl 1 rfl) ?_
  refine ro_i (D := D) (va_runV (As := [.int p0]) (rest := []) ⟨hx, hb, hml, hown, hts⟩ ((m_isStreet l D k st lo a tx t0 we rd ru rw ca fp wd nu na ts df db sd dn p0 hdn) s.heap.size) (cwV 1 hts (gV tw_1189 tw_1191 tw_38 tw_87 tw_1192) rfl rfl rfl (by decide +kernel) ⟨Nat.le_of_ble_eq_true rfl, Nat.le_of_ble_eq_true rfl⟩) (pV hS hAlo hlo hP hK (va_Dlo hD hAlo) hZ [0, 1] (by decide) rfl (ci := 8) (q := (RX8, TX8, 44)) (q0 := 0) rfl rfl) rfl rfl hl.1 rfl (lv_room (Nat.le_of_ble_eq_true rfl)) dX8_lost_2 ⟨Nat.le_of_ble_eq_true rfl, Nat.le_of_ble_eq_true rfl⟩) hS hA hP (fun r_1 H locs hw_1 hP hS => ?_)
  try dsimp only at hw_1
  rcases hw_1 with ⟨rfl, j_2, hj_2, rfl, hw_1⟩ | rfl
  · have hdj_2 := hdn j_2
    refine lv_if_ne (tgt := 12) hx hb dX8_lost_5 (by decide) (fun _ => ?_) (fun h => absurd h (by decide))
    refine lv_aload_n hx hb dX8_lost_12 rfl (lv_at hl 0 rfl) ?_
    refine lv_iload_n hx hb dX8_lost_13 rfl (lv_at hl 1 rfl) ?_
    refine lv_iload_n hx hb dX8_lost_14 rfl (lv_at hl 2 rfl) ?_
    refine ro_i (D := D) (va_runV (As := [.int (nI j_2), .int p1]) (rest := []) ⟨hx, hb, hml, hown, hts⟩ ((m_isSet l D k st lo a tx t0 we rd ru rw ca fp wd nu na ts df db sd dn j_2 p1 hdn (by first | assumption | omega)) H.size) (cwV 2 hts (gV tw_1390 tw_1392 tw_64 tw_87 tw_1393) rfl rfl rfl (by decide +kernel) ⟨Nat.le_of_ble_eq_true rfl, Nat.le_of_ble_eq_true rfl⟩) (pV hS hAlo hlo hP hK (va_Dlo hD hAlo) hZ [0, 1] (by decide) rfl (ci := 8) (q := (RX8, TX8, 44)) (q0 := 0) rfl rfl) rfl rfl hl.1 rfl (lv_room (Nat.le_of_ble_eq_true rfl)) dX8_lost_15 ⟨Nat.le_of_ble_eq_true rfl, Nat.le_of_ble_eq_true rfl⟩) hS hA hP (fun r_3 H locs hw_3 hP hS => ?_)
    try dsimp only at hw_3
    refine lv_if_eq (tgt := 37) hx hb dX8_lost_18 (by decide) (fun c_4 => ?_) (fun c_4 => ?_)
    · refine lv_sipush (v := (-1002)) hx hb dX8_lost_37 (by decide) ?_
      have hP9 := hP.sub (ws' := [((a 0), .inr (8, (fX8 a (nI tx) fp (nI t0) wd (nI we) nu na (nI rd) ts (nI ru) (nI rw) (nI ca) df db sd))), (aI k (a 1) 3 (nF dn)), (aI k (a 4) 27 (sg se tm gs)), (aI k (a 3) 72 fprices), (aI k (a 36) 4 fwalks), (aI k (a 37) 4 (nF br)), (aI k (a 40) 4 fdoorsOf)]) [0, 1, 2, 3, 4, 5, 6] rfl
      have hD9 := hD.sub (ws' := [((a 0), .inr (8, (fX8 a (nI tx) fp (nI t0) wd (nI we) nu na (nI rd) ts (nI ru) (nI rw) (nI ca) df db sd))), (aI k (a 1) 3 (nF dn)), (aI k (a 4) 27 (sg se tm gs)), (aI k (a 3) 72 fprices), (aI k (a 36) 4 fwalks), (aI k (a 37) 4 (nF br)), (aI k (a 40) 4 fdoorsOf)]) [0, 1, 2, 3, 4, 5, 6] (by decide) rfl
      exact W.iret (v := (-1002)) hx hb hr (fun t ht hW => ⟨⟨(-1002), fdoorsOf, rfl, hdv, by rw [ht]; exact hP9, hD9⟩, hS.F ht⟩) hS.2.2 dX8_lost_40
    · refine lv_aload_n hx hb dX8_lost_21 rfl (lv_at hl 0 rfl) ?_
      refine lv_iload_n hx hb dX8_lost_22 rfl (lv_at hl 1 rfl) ?_
      refine lv_iload_n hx hb dX8_lost_23 rfl (lv_at hl 2 rfl) ?_
      refine rw_i (D := D) (wr := []) (va_runV (As := [.int (nI j_2), .int p1]) (rest := []) ⟨hx, hb, hml, hown, hts⟩ ((m_allCosts l D k st lo a tx t0 we rd ru rw ca fp wd nu na ts df db sd dn se tm gs fprices fwalks br fdoorsOf j_2 p1 hdn (by first | assumption | omega) hbr (by first | assumption | omega) hdv) H.size) (cwV 2 hts (gV tw_1442 tw_1444 tw_73 tw_87 tw_1445) rfl rfl rfl (by decide +kernel) ⟨Nat.le_of_ble_eq_true rfl, Nat.le_of_ble_eq_true rfl⟩) (pV hS hAlo hlo hP hK (va_Dlo hD hAlo) hZ [0, 1, 2, 3, 4, 5, 6] (by decide) rfl (ci := 8) (q := (RX8, TX8, 44)) (q0 := 0) rfl rfl) rfl rfl hl.1 rfl (lv_room (Nat.le_of_ble_eq_true rfl)) dX8_lost_24 ⟨Nat.le_of_ble_eq_true rfl, Nat.le_of_ble_eq_true rfl⟩) hS hA hP hD [0, 1, 2, 3, 4, 5, 6] [] rfl rfl (by decide) (by decide) (fun r_5 u H locs hw_5 hP hD hS => ?_)
      obtain ⟨fdoorsOf__5, rfl⟩ : ∃ z, z = u := ⟨_, rfl⟩
      replace hP : va_P D classes [((a 0), .inr (8, (fX8 a (nI tx) fp (nI t0) wd (nI we) nu na (nI rd) ts (nI ru) (nI rw) (nI ca) df db sd))), (aI k (a 1) 3 (nF dn)), (aI k (a 4) 27 (sg se tm gs)), (aI k (a 3) 72 fprices), (aI k (a 36) 4 fwalks), (aI k (a 37) 4 (nF br)), (aI k (a 40) 4 fdoorsOf__5)] H := hP
      replace hD : va_D A [((a 0), .inr (8, (fX8 a (nI tx) fp (nI t0) wd (nI we) nu na (nI rd) ts (nI ru) (nI rw) (nI ca) df db sd))), (aI k (a 1) 3 (nF dn)), (aI k (a 4) 27 (sg se tm gs)), (aI k (a 3) 72 fprices), (aI k (a 36) 4 fwalks), (aI k (a 37) 4 (nF br)), (aI k (a 40) 4 fdoorsOf__5)] := hD
      try dsimp only at hw_5
      refine lv_aload_n hx hb dX8_lost_27 rfl (lv_at hl 0 rfl) ?_
      refine lv_iload_n hx hb dX8_lost_28 rfl (lv_at hl 1 rfl) ?_
      refine lv_iload_n hx hb dX8_lost_29 rfl (lv_at hl 2 rfl) ?_
      refine ro_i (D := D) (va_runV (As := [.int (nI j_2), .int p1]) (rest := [.int r_5]) ⟨hx, hb, hml, hown, hts⟩ ((m_leastAll l D k st lo a tx t0 we rd ru rw ca fp wd nu na ts df db sd dn se tm gs fprices fwalks j_2 p1 hdn (by first | assumption | omega) (by first | assumption | omega)) H.size) (cwV 2 hts (gV tw_1446 tw_1448 tw_74 tw_87 tw_1449) rfl rfl rfl (by decide +kernel) ⟨Nat.le_of_ble_eq_true rfl, Nat.le_of_ble_eq_true rfl⟩) (pV hS hAlo hlo hP hK (va_Dlo hD hAlo) hZ [0, 1, 2, 3, 4] (by decide) rfl (ci := 8) (q := (RX8, TX8, 44)) (q0 := 0) rfl rfl) rfl rfl hl.1 rfl (lv_room (Nat.le_of_ble_eq_true rfl)) dX8_lost_30 ⟨Nat.le_of_ble_eq_true rfl, Nat.le_of_ble_eq_true rfl⟩) hS hA hP (fun r_6 H locs hw_6 hP hS => ?_)
      try dsimp only at hw_6
      refine lv_isub hx hb dX8_lost_33 ?_
      refine lv_topi (fun x_7 ex_7 => ?_)
      refine lv_goto (tgt := 40) hx hb dX8_lost_34 (by decide) ?_
      have hP9 := hP.sub (ws' := [((a 0), .inr (8, (fX8 a (nI tx) fp (nI t0) wd (nI we) nu na (nI rd) ts (nI ru) (nI rw) (nI ca) df db sd))), (aI k (a 1) 3 (nF dn)), (aI k (a 4) 27 (sg se tm gs)), (aI k (a 3) 72 fprices), (aI k (a 36) 4 fwalks), (aI k (a 37) 4 (nF br)), (aI k (a 40) 4 fdoorsOf__5)]) [0, 1, 2, 3, 4, 5, 6] rfl
      have hD9 := hD.sub (ws' := [((a 0), .inr (8, (fX8 a (nI tx) fp (nI t0) wd (nI we) nu na (nI rd) ts (nI ru) (nI rw) (nI ca) df db sd))), (aI k (a 1) 3 (nF dn)), (aI k (a 4) 27 (sg se tm gs)), (aI k (a 3) 72 fprices), (aI k (a 36) 4 fwalks), (aI k (a 37) 4 (nF br)), (aI k (a 40) 4 fdoorsOf__5)]) [0, 1, 2, 3, 4, 5, 6] (by decide) rfl
      exact W.iret (v := x_7) hx hb hr (fun t ht hW => ⟨⟨x_7, fdoorsOf__5, rfl, hw_5, by rw [ht]; exact hP9, hD9⟩, hS.F ht⟩) hS.2.2 dX8_lost_40
  · refine lv_if_ne (tgt := 12) hx hb dX8_lost_5 (by decide) (fun h => absurd (by decide) h) (fun _ => ?_)
    refine lv_sipush (v := (-1001)) hx hb dX8_lost_8 (by decide) ?_
    have hP9 := hP.sub (ws' := [((a 0), .inr (8, (fX8 a (nI tx) fp (nI t0) wd (nI we) nu na (nI rd) ts (nI ru) (nI rw) (nI ca) df db sd))), (aI k (a 1) 3 (nF dn)), (aI k (a 4) 27 (sg se tm gs)), (aI k (a 3) 72 fprices), (aI k (a 36) 4 fwalks), (aI k (a 37) 4 (nF br)), (aI k (a 40) 4 fdoorsOf)]) [0, 1, 2, 3, 4, 5, 6] rfl
    have hD9 := hD.sub (ws' := [((a 0), .inr (8, (fX8 a (nI tx) fp (nI t0) wd (nI we) nu na (nI rd) ts (nI ru) (nI rw) (nI ca) df db sd))), (aI k (a 1) 3 (nF dn)), (aI k (a 4) 27 (sg se tm gs)), (aI k (a 3) 72 fprices), (aI k (a 36) 4 fwalks), (aI k (a 37) 4 (nF br)), (aI k (a 40) 4 fdoorsOf)]) [0, 1, 2, 3, 4, 5, 6] (by decide) rfl
    exact W.iret (v := (-1001)) hx hb hr (fun t ht hW => ⟨⟨(-1001), fdoorsOf, rfl, hdv, by rw [ht]; exact hP9, hD9⟩, hS.F ht⟩) hS.2.2 dX8_lost_11


set_option maxHeartbeats 4000000 in
set_option maxRecDepth 100000 in
theorem x_car2 (l : Launch) (D : va_G) (k : Nat → ClassId) (st : Nat → Nat) (lo : Nat) (a : Nat → Nat) (rk : Nat) (lfa : Int32) (cc : Nat) (rz : Nat) (ro : Int32) (sd : Int32) (wk : Nat → Int32) (br : Nat → Nat) (p0 : Int32) (p1 : Int32) (hcc : cc ≤ 4) (hbr : ∀ j, br j ≤ 24) : CWi l D k st lo yX7_car cX7_car 3 (some .int) ({ frames := 1, cells := 0, slots := 0, locals := 23 }) 0 0 [.ref (a 0), .int p0, .int p1] [((a 0), .inr (7, [.ref (a 1), .ref (a 3), .ref (a 19), .ref (a 35), .ref (a 40), .int (nI rk), .int lfa, .ref (a 53), .ref (a 56), .ref (a 63), .ref (a 64), .ref (a 68)])), ((a 53), .inr (4, [.ref (a 54), .ref (a 55), .int (nI cc), .int (nI rz), .int ro, .int sd])), ((a 54), .inl (k 1, 4, .inl wk)), ((a 55), .inl (k 1, 4, .inl (nF br)))] (fun (r : Int32) (u : Nat × (Nat → Int32) × (Nat → Nat)) => match u with | (cc_, wk_, br_) => carP p0 p1 cc r cc_ ∧ cc_ ≤ 4 ∧ (∀ j, br_ j ≤ 24)) (fun (u : Nat × (Nat → Int32) × (Nat → Nat)) => match u with | (cc_, wk_, br_) => [((a 0), .inr (7, [.ref (a 1), .ref (a 3), .ref (a 19), .ref (a 35), .ref (a 40), .int (nI rk), .int lfa, .ref (a 53), .ref (a 56), .ref (a 63), .ref (a 64), .ref (a 68)])), ((a 53), .inr (4, [.ref (a 54), .ref (a 55), .int (nI cc_), .int (nI rz), .int ro, .int sd])), ((a 54), .inl (k 1, 4, .inl wk_)), ((a 55), .inl (k 1, 4, .inl (nF br_)))]) := by
  intro sz
  refine Met.ofW (cc := cX7_car) (maxL := 3) (ret := (some .int)) (by decide) rfl ?_
  intro p e s m args below meth c s₁ B hml hv
  obtain ⟨rfl, hsz, hlo, hP, hK, hDL, hZ⟩ := hv
  have hx := B.exec
  have hb := B.bytes
  have hr := B.returns
  have hts := WS_ts B.pre
  have hown : s.vm.findClass RX7 = some m.cls := findClass_of_methodNamed B.named
  have hlocks := B.notSynchronized
  subst hsz
  have hD := hDL.self (sz := s.heap.size)
  have hAlo := A_lo hDL hlo
  generalize hAe : va_A [((a 0), .inr (7, [.ref (a 1), .ref (a 3), .ref (a 19), .ref (a 35), .ref (a 40), .int (nI rk), .int lfa, .ref (a 53), .ref (a 56), .ref (a 63), .ref (a 64), .ref (a 68)])), ((a 53), .inr (4, [.ref (a 54), .ref (a 55), .int (nI cc), .int (nI rz), .int ro, .int sd])), ((a 54), .inl (k 1, 4, .inl wk)), ((a 55), .inl (k 1, 4, .inl (nF br)))] s.heap.size = A at hD hAlo ⊢
  have hA : ∀ q : Nat, s.heap.size ≤ q → A q := fun q h => by rw [← hAe]; exact Or.inr h
  have hS : va_S A s.heap s.heap [] := va_S.rf
  have hl := lv_entry ([.ref (a 0), .int p0, .int p1]) (n := 3) (Nat.le_of_ble_eq_true rfl)
  rw [lg_entry_eq]
  generalize (lg_sl ([.ref (a 0), .int p0, .int p1]) ++ List.replicate (3 - (lg_sl ([.ref (a 0), .int p0, .int p1])).length) Slot.unset).toArray = ls at hl ⊢
  have hl : lv_has ls 3 [(0, .ref (a 0)), (1, .int p0), (2, .int p1)] := hl
  refine lv_iload_n hx hb dX7_car_0 rfl (lv_at hl 1 rfl) ?_
  refine lv_iconst (v := 0) hx hb dX7_car_1 (by decide) ?_
  refine va_gets (A := A) hx hb (hZ.2.2.1.narrow hAlo) hS hown (hts _ tw_800) (fun _ h9 => h9) dX7_car_2 ?_
  refine lv_iconst (v := 2) hx hb dX7_car_5 (by decide) ?_
  refine va_ti (A := A) hx hb (hZ.2.2.2.1.narrow hAlo) hS (i := 2) (by unfold vp_in; decide) (v := .int 99) rfl dX7_car_6 ?_
  refine ro_i (D := D) (va_runS (As := [.int p0, .int 0, .int 99]) (rest := []) ⟨hx, hb, hml, hown, hts⟩ ((k_isIn l D k st lo p0 0 99) s.heap.size) (va_cwS 3 hts (gS tw_593 tw_594 tw_79 tw_595) rfl rfl rfl (by decide +kernel) ⟨Nat.le_of_ble_eq_true rfl, Nat.le_of_ble_eq_true rfl⟩) (pS hS hAlo hlo hP hK (va_Dlo hD hAlo) hZ [] (by decide) rfl) rfl rfl hl.1 rfl (lv_room (Nat.le_of_ble_eq_true rfl)) dX7_car_7 ⟨Nat.le_of_ble_eq_true rfl, Nat.le_of_ble_eq_true rfl⟩) hS hA hP (fun r_1 H locs hw_1 hP hS => ?_)
  try dsimp only at hw_1
  rcases hw_1 with ⟨rfl, hw_1⟩ | ⟨rfl, hw_1⟩
  · refine lv_if_eq (tgt := 23) hx hb dX7_car_10 (by decide) (fun h => absurd h (by decide)) (fun _ => ?_)
    refine lv_iload_n hx hb dX7_car_13 rfl (lv_at hl 2 rfl) ?_
    refine lv_iconst (v := 0) hx hb dX7_car_14 (by decide) ?_
    refine lv_bipush (v := 24) hx hb dX7_car_15 (by decide) ?_
    refine ro_i (D := D) (va_runS (As := [.int p1, .int 0, .int 24]) (rest := []) ⟨hx, hb, hml, hown, hts⟩ ((k_isIn l D k st lo p1 0 24) H.size) (va_cwS 3 hts (gS tw_593 tw_594 tw_79 tw_595) rfl rfl rfl (by decide +kernel) ⟨Nat.le_of_ble_eq_true rfl, Nat.le_of_ble_eq_true rfl⟩) (pS hS hAlo hlo hP hK (va_Dlo hD hAlo) hZ [] (by decide) rfl) rfl rfl hl.1 rfl (lv_room (Nat.le_of_ble_eq_true rfl)) dX7_car_17 ⟨Nat.le_of_ble_eq_true rfl, Nat.le_of_ble_eq_true rfl⟩) hS hA hP (fun r_2 H locs hw_2 hP hS => ?_)
    try dsimp only at hw_2
    rcases hw_2 with ⟨rfl, hw_2⟩ | ⟨rfl, hw_2⟩
    · refine lv_if_ne (tgt := 27) hx hb dX7_car_20 (by decide) (fun _ => ?_) (fun h => absurd h (by decide))
      refine lv_aload_n hx hb dX7_car_27 rfl (lv_at hl 0 rfl) ?_
      refine va_get (D := D) (ci := 7) (v := .ref (a 53)) (C := RX7) (T := TX7) (N := 12) hx hb hts inX7 hown hK hP 0 rfl rfl 7 (by decide) (hts _ tw_312) (fun _ h9 => h9) rfl dX7_car_28 ?_
      refine va_get (D := D) (ci := 4) (v := .int (nI cc)) (C := RX4) (T := TX4) (N := 6) hx hb hts inX4 hown hK hP 1 rfl rfl 2 (by decide) (hts _ tw_180) (fun _ h9 => h9) rfl dX7_car_31 ?_
      refine lv_iconst (v := 4) hx hb dX7_car_34 (by decide) ?_
      refine lv_icmp_ge (tgt := 50) hx hb dX7_car_35 (by decide) (fun c_3 => ?_) (fun c_3 => ?_)
      · have c_3 := (nI_leI (a := 4) (b := cc) (by omega) (by omega)).mp c_3
        refine lv_sipush (v := (-1004)) hx hb dX7_car_50 (by decide) ?_
        have hP9 := hP.sub (ws' := [((a 0), .inr (7, [.ref (a 1), .ref (a 3), .ref (a 19), .ref (a 35), .ref (a 40), .int (nI rk), .int lfa, .ref (a 53), .ref (a 56), .ref (a 63), .ref (a 64), .ref (a 68)])), ((a 53), .inr (4, [.ref (a 54), .ref (a 55), .int (nI cc), .int (nI rz), .int ro, .int sd])), ((a 54), .inl (k 1, 4, .inl wk)), ((a 55), .inl (k 1, 4, .inl (nF br)))]) [0, 1, 2, 3] rfl
        have hD9 := hD.sub (ws' := [((a 0), .inr (7, [.ref (a 1), .ref (a 3), .ref (a 19), .ref (a 35), .ref (a 40), .int (nI rk), .int lfa, .ref (a 53), .ref (a 56), .ref (a 63), .ref (a 64), .ref (a 68)])), ((a 53), .inr (4, [.ref (a 54), .ref (a 55), .int (nI cc), .int (nI rz), .int ro, .int sd])), ((a 54), .inl (k 1, 4, .inl wk)), ((a 55), .inl (k 1, 4, .inl (nF br)))]) [0, 1, 2, 3] (by decide) rfl
        exact W.iret (v := (-1004)) hx hb hr (fun t ht hW => ⟨⟨(-1004), (cc, wk, br), rfl, ⟨⟨fun _ => ⟨fun h => absurd h (by omega), fun _ => ⟨rfl, rfl⟩⟩, fun h => absurd ⟨hw_1, hw_2⟩ h⟩, by omega, hbr⟩, by rw [ht]; exact hP9, hD9⟩, hS.F ht⟩) hS.2.2 dX7_car_53
      · have c_3 : ¬ (4 ≤ cc) := fun h => c_3 ((nI_leI (a := 4) (b := cc) (by omega) (by omega)).mpr h)
        obtain ⟨nb_4, hnl_4, hnh_4, rfl⟩ := inB_ofc (a := 0) (b := 24) (by omega) (by omega) hw_2
        refine lv_aload_n hx hb dX7_car_38 rfl (lv_at hl 0 rfl) ?_
        refine va_get (D := D) (ci := 7) (v := .ref (a 53)) (C := RX7) (T := TX7) (N := 12) hx hb hts inX7 hown hK hP 0 rfl rfl 7 (by decide) (hts _ tw_312) (fun _ h9 => h9) rfl dX7_car_39 ?_
        refine lv_iload_n hx hb dX7_car_42 rfl (lv_at hl 1 rfl) ?_
        refine lv_iload_n hx hb dX7_car_43 rfl (lv_at hl 2 rfl) ?_
        refine rw_i (D := D) (wr := [((a 0), .inr (7, [.ref (a 1), .ref (a 3), .ref (a 19), .ref (a 35), .ref (a 40), .int (nI rk), .int lfa, .ref (a 53), .ref (a 56), .ref (a 63), .ref (a 64), .ref (a 68)]))]) (va_runV (As := [.int p0, .int (nI nb_4)]) (rest := []) ⟨hx, hb, hml, hown, hts⟩ ((x_addCar2 l D k st lo (a 53) (a 54) (a 55) cc rz ro sd wk br p0 nb_4 (by omega) (by omega) hbr) H.size) (cwV 2 hts (gV tw_801 tw_802 tw_803 tw_82 tw_804) rfl rfl rfl (by decide +kernel) ⟨Nat.le_of_ble_eq_true rfl, Nat.le_of_ble_eq_true rfl⟩) (pV hS hAlo hlo hP hK (va_Dlo hD hAlo) hZ [1, 2, 3] (by decide) rfl (ci := 4) (q0 := 0) rfl rfl) rfl rfl hl.1 rfl (lv_room (Nat.le_of_ble_eq_true rfl)) dX7_car_44 ⟨Nat.le_of_ble_eq_true rfl, Nat.le_of_ble_eq_true rfl⟩) hS hA hP hD [1, 2, 3] [0] rfl rfl (by decide) (by decide) (fun r_5 u H locs hw_5 hP hD hS => ?_)
        obtain ⟨cc__5, wk__5, br__5⟩ := u
        replace hP : va_P D classes [((a 0), .inr (7, [.ref (a 1), .ref (a 3), .ref (a 19), .ref (a 35), .ref (a 40), .int (nI rk), .int lfa, .ref (a 53), .ref (a 56), .ref (a 63), .ref (a 64), .ref (a 68)])), ((a 53), .inr (4, [.ref (a 54), .ref (a 55), .int (nI cc__5), .int (nI rz), .int ro, .int sd])), ((a 54), .inl (k 1, 4, .inl wk__5)), ((a 55), .inl (k 1, 4, .inl (nF br__5)))] H := hP
        replace hD : va_D A [((a 0), .inr (7, [.ref (a 1), .ref (a 3), .ref (a 19), .ref (a 35), .ref (a 40), .int (nI rk), .int lfa, .ref (a 53), .ref (a 56), .ref (a 63), .ref (a 64), .ref (a 68)])), ((a 53), .inr (4, [.ref (a 54), .ref (a 55), .int (nI cc__5), .int (nI rz), .int ro, .int sd])), ((a 54), .inl (k 1, 4, .inl wk__5)), ((a 55), .inl (k 1, 4, .inl (nF br__5)))] := hD
        try dsimp only at hw_5
        refine lv_goto (tgt := 53) hx hb dX7_car_47 (by decide) ?_
        have hP9 := hP.sub (ws' := [((a 0), .inr (7, [.ref (a 1), .ref (a 3), .ref (a 19), .ref (a 35), .ref (a 40), .int (nI rk), .int lfa, .ref (a 53), .ref (a 56), .ref (a 63), .ref (a 64), .ref (a 68)])), ((a 53), .inr (4, [.ref (a 54), .ref (a 55), .int (nI cc__5), .int (nI rz), .int ro, .int sd])), ((a 54), .inl (k 1, 4, .inl wk__5)), ((a 55), .inl (k 1, 4, .inl (nF br__5)))]) [0, 1, 2, 3] rfl
        have hD9 := hD.sub (ws' := [((a 0), .inr (7, [.ref (a 1), .ref (a 3), .ref (a 19), .ref (a 35), .ref (a 40), .int (nI rk), .int lfa, .ref (a 53), .ref (a 56), .ref (a 63), .ref (a 64), .ref (a 68)])), ((a 53), .inr (4, [.ref (a 54), .ref (a 55), .int (nI cc__5), .int (nI rz), .int ro, .int sd])), ((a 54), .inl (k 1, 4, .inl wk__5)), ((a 55), .inl (k 1, 4, .inl (nF br__5)))]) [0, 1, 2, 3] (by decide) rfl
        exact W.iret (v := r_5) hx hb hr (fun t ht hW => ⟨⟨r_5, (cc__5, wk__5, br__5), rfl, ⟨⟨fun _ => ⟨fun _ => hw_5.1, fun h => absurd (by omega) h⟩, fun h => absurd ⟨hw_1, hw_2⟩ h⟩, by omega, hw_5.2⟩, by rw [ht]; exact hP9, hD9⟩, hS.F ht⟩) hS.2.2 dX7_car_53
    · refine lv_if_ne (tgt := 27) hx hb dX7_car_20 (by decide) (fun h => absurd (by decide) h) (fun _ => ?_)
      refine lv_sipush (v := (-1002)) hx hb dX7_car_23 (by decide) ?_
      have hP9 := hP.sub (ws' := [((a 0), .inr (7, [.ref (a 1), .ref (a 3), .ref (a 19), .ref (a 35), .ref (a 40), .int (nI rk), .int lfa, .ref (a 53), .ref (a 56), .ref (a 63), .ref (a 64), .ref (a 68)])), ((a 53), .inr (4, [.ref (a 54), .ref (a 55), .int (nI cc), .int (nI rz), .int ro, .int sd])), ((a 54), .inl (k 1, 4, .inl wk)), ((a 55), .inl (k 1, 4, .inl (nF br)))]) [0, 1, 2, 3] rfl
      have hD9 := hD.sub (ws' := [((a 0), .inr (7, [.ref (a 1), .ref (a 3), .ref (a 19), .ref (a 35), .ref (a 40), .int (nI rk), .int lfa, .ref (a 53), .ref (a 56), .ref (a 63), .ref (a 64), .ref (a 68)])), ((a 53), .inr (4, [.ref (a 54), .ref (a 55), .int (nI cc), .int (nI rz), .int ro, .int sd])), ((a 54), .inl (k 1, 4, .inl wk)), ((a 55), .inl (k 1, 4, .inl (nF br)))]) [0, 1, 2, 3] (by decide) rfl
      exact W.iret (v := (-1002)) hx hb hr (fun t ht hW => ⟨⟨(-1002), (cc, wk, br), rfl, ⟨⟨fun h => absurd h.2 hw_2, fun _ => ⟨rfl, rfl⟩⟩, by omega, hbr⟩, by rw [ht]; exact hP9, hD9⟩, hS.F ht⟩) hS.2.2 dX7_car_26
  · refine lv_if_eq (tgt := 23) hx hb dX7_car_10 (by decide) (fun _ => ?_) (fun h => absurd (by decide) h)
    refine lv_sipush (v := (-1002)) hx hb dX7_car_23 (by decide) ?_
    have hP9 := hP.sub (ws' := [((a 0), .inr (7, [.ref (a 1), .ref (a 3), .ref (a 19), .ref (a 35), .ref (a 40), .int (nI rk), .int lfa, .ref (a 53), .ref (a 56), .ref (a 63), .ref (a 64), .ref (a 68)])), ((a 53), .inr (4, [.ref (a 54), .ref (a 55), .int (nI cc), .int (nI rz), .int ro, .int sd])), ((a 54), .inl (k 1, 4, .inl wk)), ((a 55), .inl (k 1, 4, .inl (nF br)))]) [0, 1, 2, 3] rfl
    have hD9 := hD.sub (ws' := [((a 0), .inr (7, [.ref (a 1), .ref (a 3), .ref (a 19), .ref (a 35), .ref (a 40), .int (nI rk), .int lfa, .ref (a 53), .ref (a 56), .ref (a 63), .ref (a 64), .ref (a 68)])), ((a 53), .inr (4, [.ref (a 54), .ref (a 55), .int (nI cc), .int (nI rz), .int ro, .int sd])), ((a 54), .inl (k 1, 4, .inl wk)), ((a 55), .inl (k 1, 4, .inl (nF br)))]) [0, 1, 2, 3] (by decide) rfl
    exact W.iret (v := (-1002)) hx hb hr (fun t ht hW => ⟨⟨(-1002), (cc, wk, br), rfl, ⟨⟨fun h => absurd h.1 hw_1, fun _ => ⟨rfl, rfl⟩⟩, by omega, hbr⟩, by rw [ht]; exact hP9, hD9⟩, hS.F ht⟩) hS.2.2 dX7_car_26



set_option maxHeartbeats 4000000 in
set_option maxRecDepth 100000 in
theorem y_takeClauseWord (l : Launch) (D : va_G) (k : Nat → ClassId) (st : Nat → Nat) (lo : Nat) (x0 : Nat) (x1 : Nat) (tz : Nat) (ta : Nat) (na : Int32) (fn : Int32) (fb : Int32) (fx : Nat → Int32) (ht : ta ≤ tz) (hz : tz ≤ 240) : CWi l D k st lo yX5_takeClauseWord cX5_takeClauseWord 2 (some .int) ({ frames := 5, cells := 0, slots := 0, locals := 108 }) 0 0 [.ref x0] [(x0, .inr (6, (fX6 x1 (nI tz) (nI ta) na fn fb))), (aB k x1 240 fx)] (fun (r : Int32) (ta_ : Nat) => ((r = -1 ∧ kwN (letA (bF fx) tz (skA (bF fx) tz ta)) = 10 ∧ ta_ = skA (bF fx) tz ta) ∨ ∃ j : Nat, kwN (letA (bF fx) tz (skA (bF fx) tz ta)) = j ∧ j ≤ 9 ∧ j ≠ 8 ∧ r = nI j ∧ ta_ = skA (bF fx) tz ta + (letA (bF fx) tz (skA (bF fx) tz ta)).length) ∧ ta ≤ ta_ ∧ ta_ ≤ tz) (fun (ta_ : Nat) => [(x0, .inr (6, (fX6 x1 (nI tz) (nI ta_) na fn fb))), (aB k x1 240 fx)]) := by
  intro sz
  refine Met.ofW (cc := cX5_takeClauseWord) (maxL := 2) (ret := (some .int)) (by decide) rfl ?_
  intro p e s m args below meth c s₁ B hml hv
  obtain ⟨rfl, hsz, hlo, hP, hK, hDL, hZ⟩ := hv
  have hx := B.exec
  have hb := B.bytes
  have hr := B.returns
  have hts := WS_ts B.pre
  have hown : s.vm.findClass RX5 = some m.cls := findClass_of_methodNamed B.named
  have hlocks := B.notSynchronized
  subst hsz
  have hD := hDL.self (sz := s.heap.size)
  have hAlo := A_lo hDL hlo
  generalize hAe : va_A [(x0, .inr (6, (fX6 x1 (nI tz) (nI ta) na fn fb))), (aB k x1 240 fx)] s.heap.size = A at hD hAlo ⊢
  have hA : ∀ q : Nat, s.heap.size ≤ q → A q := fun q h => by rw [← hAe]; exact Or.inr h
  have hS : va_S A s.heap s.heap [] := va_S.rf
  have hl := lv_entry ([.ref x0]) (n := 2) (Nat.le_of_ble_eq_true rfl)
  rw [lg_entry_eq]
  generalize (lg_sl ([.ref x0]) ++ List.replicate (2 - (lg_sl ([.ref x0])).length) Slot.unset).toArray = ls at hl ⊢
  have hl : lv_has ls 2 [(0, .ref x0)] := hl
  refine lv_iconst (v := 0) hx hb dX5_takeClauseWord_0 (by decide) ?_
  refine lv_istore_n (lv' := [(1, .int 0), (0, .ref x0)]) hx hb dX5_takeClauseWord_1 rfl hl (by decide) rfl (fun ls hl => ?_)
  refine lv_iload_n hx hb dX5_takeClauseWord_2 rfl (lv_at hl 0 rfl) ?_
  refine lv_bipush (v := 10) hx hb dX5_takeClauseWord_3 (by decide) ?_
  refine lv_icmp_ge (tgt := 33) hx hb dX5_takeClauseWord_5 (by decide) (fun h => absurd h (by decide)) (fun _ => ?_)
  refine lv_iload_n hx hb dX5_takeClauseWord_8 rfl (lv_at hl 0 rfl) ?_
  refine lv_bipush (v := 8) hx hb dX5_takeClauseWord_9 (by decide) ?_
  refine lv_icmp_eq (tgt := 27) hx hb dX5_takeClauseWord_11 (by decide) (fun h => absurd h (by decide)) (fun _ => ?_)
  refine lv_aload_n hx hb dX5_takeClauseWord_14 rfl (lv_at hl 1 rfl) ?_
  refine lv_iload_n hx hb dX5_takeClauseWord_15 rfl (lv_at hl 0 rfl) ?_
  refine ro_r (D := D) (va_runS (As := [.int 0]) (rest := [.ref x0]) ⟨hx, hb, hml, hown, hts⟩ ((x_wordOf_0 l D k st lo ) s.heap.size) (va_cwS 1 hts (gS tw_386 tw_387 tw_81 tw_388) rfl rfl rfl (by decide +kernel) ⟨Nat.le_of_ble_eq_true rfl, Nat.le_of_ble_eq_true rfl⟩) (pS hS hAlo hlo hP hK (va_Dlo hD hAlo) hZ [] (by decide) rfl) rfl rfl hl.1 rfl (lv_room (Nat.le_of_ble_eq_true rfl)) dX5_takeClauseWord_16 ⟨Nat.le_of_ble_eq_true rfl, Nat.le_of_ble_eq_true rfl⟩) hS hA hP (fun H locs hP hS => ?_)
  refine rw_i (D := D) (wr := []) (va_runV (As := [.ref (st (100 + 0))]) (rest := []) ⟨hx, hb, hml, hown, hts⟩ ((y_takeWord l D k st lo x0 x1 tz ta na fn fb fx 0 (by first | assumption | omega) (by first | assumption | omega) (by first | assumption | omega)) H.size) (cwV 1 hts (gV tw_399 tw_400 tw_401 tw_80 tw_402) rfl rfl rfl (by decide +kernel) ⟨Nat.le_of_ble_eq_true rfl, Nat.le_of_ble_eq_true rfl⟩) (pV hS hAlo hlo hP hK (va_Dlo hD hAlo) hZ [0, 1] (by decide) rfl (ci := 6) (q := (RX6, TX6, 6)) (q0 := 0) rfl rfl) rfl rfl hl.1 rfl (lv_room (Nat.le_of_ble_eq_true rfl)) dX5_takeClauseWord_19 ⟨Nat.le_of_ble_eq_true rfl, Nat.le_of_ble_eq_true rfl⟩) hS hA hP hD [0, 1] [] rfl rfl (by decide) (by decide) (fun r_2 u H locs hw_2 hP hD hS => ?_)
  obtain ⟨ta__2, rfl⟩ : ∃ z, z = u := ⟨_, rfl⟩
  replace hP : va_P D classes [(x0, .inr (6, (fX6 x1 (nI tz) (nI ta__2) na fn fb))), (aB k x1 240 fx)] H := hP
  replace hD : va_D A [(x0, .inr (6, (fX6 x1 (nI tz) (nI ta__2) na fn fb))), (aB k x1 240 fx)] := hD
  try dsimp only at hw_2
  rcases hw_2 with ⟨⟨rfl, hL_3, hT_3⟩ | ⟨rfl, hL_3, hT_3⟩, hw_2⟩
  · refine lv_if_eq (tgt := 27) hx hb dX5_takeClauseWord_22 (by decide) (fun h => absurd h (by decide)) (fun _ => ?_)
    refine lv_iload_n hx hb dX5_takeClauseWord_25 rfl (lv_at hl 0 rfl) ?_
    have hP9 := hP.sub (ws' := [(x0, .inr (6, (fX6 x1 (nI tz) (nI ta__2) na fn fb))), (aB k x1 240 fx)]) [0, 1] rfl
    have hD9 := hD.sub (ws' := [(x0, .inr (6, (fX6 x1 (nI tz) (nI ta__2) na fn fb))), (aB k x1 240 fx)]) [0, 1] (by decide) rfl
    exact W.iret (v := 0) hx hb hr (fun t ht hW => ⟨⟨0, ta__2, rfl, ⟨.inr ⟨0, (by unfold kwN; rw [if_pos hL_3]), by decide, by decide, rfl, (by rw [hL_3]; exact hT_3)⟩, by omega, by omega⟩, by rw [ht]; exact hP9, hD9⟩, hS.F ht⟩) hS.2.2 dX5_takeClauseWord_26
  · refine lv_if_eq (tgt := 27) hx hb dX5_takeClauseWord_22 (by decide) (fun _ => ?_) (fun h => absurd (by decide) h)
    refine lv_iinc (v := 1) (lv' := [(1, .int 1), (0, .ref x0)]) hx hb dX5_takeClauseWord_27 hl (k := 0) rfl (by decide) (by decide) rfl (fun ls hl => ?_)
    refine lv_goto (tgt := 2) hx hb dX5_takeClauseWord_30 (by decide) ?_
    refine lv_iload_n hx hb dX5_takeClauseWord_2 rfl (lv_at hl 0 rfl) ?_
    refine lv_bipush (v := 10) hx hb dX5_takeClauseWord_3 (by decide) ?_
    refine lv_icmp_ge (tgt := 33) hx hb dX5_takeClauseWord_5 (by decide) (fun h => absurd h (by decide)) (fun _ => ?_)
    refine lv_iload_n hx hb dX5_takeClauseWord_8 rfl (lv_at hl 0 rfl) ?_
    refine lv_bipush (v := 8) hx hb dX5_takeClauseWord_9 (by decide) ?_
    refine lv_icmp_eq (tgt := 27) hx hb dX5_takeClauseWord_11 (by decide) (fun h => absurd h (by decide)) (fun _ => ?_)
    refine lv_aload_n hx hb dX5_takeClauseWord_14 rfl (lv_at hl 1 rfl) ?_
    refine lv_iload_n hx hb dX5_takeClauseWord_15 rfl (lv_at hl 0 rfl) ?_
    refine ro_r (D := D) (va_runS (As := [.int 1]) (rest := [.ref x0]) ⟨hx, hb, hml, hown, hts⟩ ((x_wordOf_1 l D k st lo ) H.size) (va_cwS 1 hts (gS tw_386 tw_387 tw_81 tw_388) rfl rfl rfl (by decide +kernel) ⟨Nat.le_of_ble_eq_true rfl, Nat.le_of_ble_eq_true rfl⟩) (pS hS hAlo hlo hP hK (va_Dlo hD hAlo) hZ [] (by decide) rfl) rfl rfl hl.1 rfl (lv_room (Nat.le_of_ble_eq_true rfl)) dX5_takeClauseWord_16 ⟨Nat.le_of_ble_eq_true rfl, Nat.le_of_ble_eq_true rfl⟩) hS hA hP (fun H locs hP hS => ?_)
    refine rw_i (D := D) (wr := []) (va_runV (As := [.ref (st (100 + 1))]) (rest := []) ⟨hx, hb, hml, hown, hts⟩ ((y_takeWord l D k st lo x0 x1 tz ta__2 na fn fb fx 1 (by first | assumption | omega) (by first | assumption | omega) (by first | assumption | omega)) H.size) (cwV 1 hts (gV tw_399 tw_400 tw_401 tw_80 tw_402) rfl rfl rfl (by decide +kernel) ⟨Nat.le_of_ble_eq_true rfl, Nat.le_of_ble_eq_true rfl⟩) (pV hS hAlo hlo hP hK (va_Dlo hD hAlo) hZ [0, 1] (by decide) rfl (ci := 6) (q := (RX6, TX6, 6)) (q0 := 0) rfl rfl) rfl rfl hl.1 rfl (lv_room (Nat.le_of_ble_eq_true rfl)) dX5_takeClauseWord_19 ⟨Nat.le_of_ble_eq_true rfl, Nat.le_of_ble_eq_true rfl⟩) hS hA hP hD [0, 1] [] rfl rfl (by decide) (by decide) (fun r_5 u H locs hw_5 hP hD hS => ?_)
    obtain ⟨ta__5, rfl⟩ : ∃ z, z = u := ⟨_, rfl⟩
    replace hP : va_P D classes [(x0, .inr (6, (fX6 x1 (nI tz) (nI ta__5) na fn fb))), (aB k x1 240 fx)] H := hP
    replace hD : va_D A [(x0, .inr (6, (fX6 x1 (nI tz) (nI ta__5) na fn fb))), (aB k x1 240 fx)] := hD
    try dsimp only at hw_5
    rcases hw_5 with ⟨⟨rfl, hL_6, hT_6⟩ | ⟨rfl, hL_6, hT_6⟩, hw_5⟩
    · rw [hT_3, skA_idem] at hL_6 hT_6
      refine lv_if_eq (tgt := 27) hx hb dX5_takeClauseWord_22 (by decide) (fun h => absurd h (by decide)) (fun _ => ?_)
      refine lv_iload_n hx hb dX5_takeClauseWord_25 rfl (lv_at hl 0 rfl) ?_
      have hP9 := hP.sub (ws' := [(x0, .inr (6, (fX6 x1 (nI tz) (nI ta__5) na fn fb))), (aB k x1 240 fx)]) [0, 1] rfl
      have hD9 := hD.sub (ws' := [(x0, .inr (6, (fX6 x1 (nI tz) (nI ta__5) na fn fb))), (aB k x1 240 fx)]) [0, 1] (by decide) rfl
      exact W.iret (v := 1) hx hb hr (fun t ht hW => ⟨⟨1, ta__5, rfl, ⟨.inr ⟨1, (by unfold kwN; rw [if_neg hL_3, if_pos hL_6]), by decide, by decide, rfl, (by rw [hL_6]; exact hT_6)⟩, by omega, by omega⟩, by rw [ht]; exact hP9, hD9⟩, hS.F ht⟩) hS.2.2 dX5_takeClauseWord_26
    · rw [hT_3, skA_idem] at hL_6 hT_6
      refine lv_if_eq (tgt := 27) hx hb dX5_takeClauseWord_22 (by decide) (fun _ => ?_) (fun h => absurd (by decide) h)
      refine lv_iinc (v := 2) (lv' := [(1, .int 2), (0, .ref x0)]) hx hb dX5_takeClauseWord_27 hl (k := 0) rfl (by decide) (by decide) rfl (fun ls hl => ?_)
      refine lv_goto (tgt := 2) hx hb dX5_takeClauseWord_30 (by decide) ?_
      refine lv_iload_n hx hb dX5_takeClauseWord_2 rfl (lv_at hl 0 rfl) ?_
      refine lv_bipush (v := 10) hx hb dX5_takeClauseWord_3 (by decide) ?_
      refine lv_icmp_ge (tgt := 33) hx hb dX5_takeClauseWord_5 (by decide) (fun h => absurd h (by decide)) (fun _ => ?_)
      refine lv_iload_n hx hb dX5_takeClauseWord_8 rfl (lv_at hl 0 rfl) ?_
      refine lv_bipush (v := 8) hx hb dX5_takeClauseWord_9 (by decide) ?_
      refine lv_icmp_eq (tgt := 27) hx hb dX5_takeClauseWord_11 (by decide) (fun h => absurd h (by decide)) (fun _ => ?_)
      refine lv_aload_n hx hb dX5_takeClauseWord_14 rfl (lv_at hl 1 rfl) ?_
      refine lv_iload_n hx hb dX5_takeClauseWord_15 rfl (lv_at hl 0 rfl) ?_
      refine ro_r (D := D) (va_runS (As := [.int 2]) (rest := [.ref x0]) ⟨hx, hb, hml, hown, hts⟩ ((x_wordOf_2 l D k st lo ) H.size) (va_cwS 1 hts (gS tw_386 tw_387 tw_81 tw_388) rfl rfl rfl (by decide +kernel) ⟨Nat.le_of_ble_eq_true rfl, Nat.le_of_ble_eq_true rfl⟩) (pS hS hAlo hlo hP hK (va_Dlo hD hAlo) hZ [] (by decide) rfl) rfl rfl hl.1 rfl (lv_room (Nat.le_of_ble_eq_true rfl)) dX5_takeClauseWord_16 ⟨Nat.le_of_ble_eq_true rfl, Nat.le_of_ble_eq_true rfl⟩) hS hA hP (fun H locs hP hS => ?_)
      refine rw_i (D := D) (wr := []) (va_runV (As := [.ref (st (100 + 2))]) (rest := []) ⟨hx, hb, hml, hown, hts⟩ ((y_takeWord l D k st lo x0 x1 tz ta__5 na fn fb fx 2 (by first | assumption | omega) (by first | assumption | omega) (by first | assumption | omega)) H.size) (cwV 1 hts (gV tw_399 tw_400 tw_401 tw_80 tw_402) rfl rfl rfl (by decide +kernel) ⟨Nat.le_of_ble_eq_true rfl, Nat.le_of_ble_eq_true rfl⟩) (pV hS hAlo hlo hP hK (va_Dlo hD hAlo) hZ [0, 1] (by decide) rfl (ci := 6) (q := (RX6, TX6, 6)) (q0 := 0) rfl rfl) rfl rfl hl.1 rfl (lv_room (Nat.le_of_ble_eq_true rfl)) dX5_takeClauseWord_19 ⟨Nat.le_of_ble_eq_true rfl, Nat.le_of_ble_eq_true rfl⟩) hS hA hP hD [0, 1] [] rfl rfl (by decide) (by decide) (fun r_8 u H locs hw_8 hP hD hS => ?_)
      obtain ⟨ta__8, rfl⟩ : ∃ z, z = u := ⟨_, rfl⟩
      replace hP : va_P D classes [(x0, .inr (6, (fX6 x1 (nI tz) (nI ta__8) na fn fb))), (aB k x1 240 fx)] H := hP
      replace hD : va_D A [(x0, .inr (6, (fX6 x1 (nI tz) (nI ta__8) na fn fb))), (aB k x1 240 fx)] := hD
      try dsimp only at hw_8
      rcases hw_8 with ⟨⟨rfl, hL_9, hT_9⟩ | ⟨rfl, hL_9, hT_9⟩, hw_8⟩
      · rw [hT_6, skA_idem] at hL_9 hT_9
        refine lv_if_eq (tgt := 27) hx hb dX5_takeClauseWord_22 (by decide) (fun h => absurd h (by decide)) (fun _ => ?_)
        refine lv_iload_n hx hb dX5_takeClauseWord_25 rfl (lv_at hl 0 rfl) ?_
        have hP9 := hP.sub (ws' := [(x0, .inr (6, (fX6 x1 (nI tz) (nI ta__8) na fn fb))), (aB k x1 240 fx)]) [0, 1] rfl
        have hD9 := hD.sub (ws' := [(x0, .inr (6, (fX6 x1 (nI tz) (nI ta__8) na fn fb))), (aB k x1 240 fx)]) [0, 1] (by decide) rfl
        exact W.iret (v := 2) hx hb hr (fun t ht hW => ⟨⟨2, ta__8, rfl, ⟨.inr ⟨2, (by unfold kwN; rw [if_neg hL_3, if_neg hL_6, if_pos hL_9]), by decide, by decide, rfl, (by rw [hL_9]; exact hT_9)⟩, by omega, by omega⟩, by rw [ht]; exact hP9, hD9⟩, hS.F ht⟩) hS.2.2 dX5_takeClauseWord_26
      · rw [hT_6, skA_idem] at hL_9 hT_9
        refine lv_if_eq (tgt := 27) hx hb dX5_takeClauseWord_22 (by decide) (fun _ => ?_) (fun h => absurd (by decide) h)
        refine lv_iinc (v := 3) (lv' := [(1, .int 3), (0, .ref x0)]) hx hb dX5_takeClauseWord_27 hl (k := 0) rfl (by decide) (by decide) rfl (fun ls hl => ?_)
        refine lv_goto (tgt := 2) hx hb dX5_takeClauseWord_30 (by decide) ?_
        refine lv_iload_n hx hb dX5_takeClauseWord_2 rfl (lv_at hl 0 rfl) ?_
        refine lv_bipush (v := 10) hx hb dX5_takeClauseWord_3 (by decide) ?_
        refine lv_icmp_ge (tgt := 33) hx hb dX5_takeClauseWord_5 (by decide) (fun h => absurd h (by decide)) (fun _ => ?_)
        refine lv_iload_n hx hb dX5_takeClauseWord_8 rfl (lv_at hl 0 rfl) ?_
        refine lv_bipush (v := 8) hx hb dX5_takeClauseWord_9 (by decide) ?_
        refine lv_icmp_eq (tgt := 27) hx hb dX5_takeClauseWord_11 (by decide) (fun h => absurd h (by decide)) (fun _ => ?_)
        refine lv_aload_n hx hb dX5_takeClauseWord_14 rfl (lv_at hl 1 rfl) ?_
        refine lv_iload_n hx hb dX5_takeClauseWord_15 rfl (lv_at hl 0 rfl) ?_
        refine ro_r (D := D) (va_runS (As := [.int 3]) (rest := [.ref x0]) ⟨hx, hb, hml, hown, hts⟩ ((x_wordOf_3 l D k st lo ) H.size) (va_cwS 1 hts (gS tw_386 tw_387 tw_81 tw_388) rfl rfl rfl (by decide +kernel) ⟨Nat.le_of_ble_eq_true rfl, Nat.le_of_ble_eq_true rfl⟩) (pS hS hAlo hlo hP hK (va_Dlo hD hAlo) hZ [] (by decide) rfl) rfl rfl hl.1 rfl (lv_room (Nat.le_of_ble_eq_true rfl)) dX5_takeClauseWord_16 ⟨Nat.le_of_ble_eq_true rfl, Nat.le_of_ble_eq_true rfl⟩) hS hA hP (fun H locs hP hS => ?_)
        refine rw_i (D := D) (wr := []) (va_runV (As := [.ref (st (100 + 3))]) (rest := []) ⟨hx, hb, hml, hown, hts⟩ ((y_takeWord l D k st lo x0 x1 tz ta__8 na fn fb fx 3 (by first | assumption | omega) (by first | assumption | omega) (by first | assumption | omega)) H.size) (cwV 1 hts (gV tw_399 tw_400 tw_401 tw_80 tw_402) rfl rfl rfl (by decide +kernel) ⟨Nat.le_of_ble_eq_true rfl, Nat.le_of_ble_eq_true rfl⟩) (pV hS hAlo hlo hP hK (va_Dlo hD hAlo) hZ [0, 1] (by decide) rfl (ci := 6) (q := (RX6, TX6, 6)) (q0 := 0) rfl rfl) rfl rfl hl.1 rfl (lv_room (Nat.le_of_ble_eq_true rfl)) dX5_takeClauseWord_19 ⟨Nat.le_of_ble_eq_true rfl, Nat.le_of_ble_eq_true rfl⟩) hS hA hP hD [0, 1] [] rfl rfl (by decide) (by decide) (fun r_11 u H locs hw_11 hP hD hS => ?_)
        obtain ⟨ta__11, rfl⟩ : ∃ z, z = u := ⟨_, rfl⟩
        replace hP : va_P D classes [(x0, .inr (6, (fX6 x1 (nI tz) (nI ta__11) na fn fb))), (aB k x1 240 fx)] H := hP
        replace hD : va_D A [(x0, .inr (6, (fX6 x1 (nI tz) (nI ta__11) na fn fb))), (aB k x1 240 fx)] := hD
        try dsimp only at hw_11
        rcases hw_11 with ⟨⟨rfl, hL_12, hT_12⟩ | ⟨rfl, hL_12, hT_12⟩, hw_11⟩
        · rw [hT_9, skA_idem] at hL_12 hT_12
          refine lv_if_eq (tgt := 27) hx hb dX5_takeClauseWord_22 (by decide) (fun h => absurd h (by decide)) (fun _ => ?_)
          refine lv_iload_n hx hb dX5_takeClauseWord_25 rfl (lv_at hl 0 rfl) ?_
          have hP9 := hP.sub (ws' := [(x0, .inr (6, (fX6 x1 (nI tz) (nI ta__11) na fn fb))), (aB k x1 240 fx)]) [0, 1] rfl
          have hD9 := hD.sub (ws' := [(x0, .inr (6, (fX6 x1 (nI tz) (nI ta__11) na fn fb))), (aB k x1 240 fx)]) [0, 1] (by decide) rfl
          exact W.iret (v := 3) hx hb hr (fun t ht hW => ⟨⟨3, ta__11, rfl, ⟨.inr ⟨3, (by unfold kwN; rw [if_neg hL_3, if_neg hL_6, if_neg hL_9, if_pos hL_12]), by decide, by decide, rfl, (by rw [hL_12]; exact hT_12)⟩, by omega, by omega⟩, by rw [ht]; exact hP9, hD9⟩, hS.F ht⟩) hS.2.2 dX5_takeClauseWord_26
        · rw [hT_9, skA_idem] at hL_12 hT_12
          refine lv_if_eq (tgt := 27) hx hb dX5_takeClauseWord_22 (by decide) (fun _ => ?_) (fun h => absurd (by decide) h)
          refine lv_iinc (v := 4) (lv' := [(1, .int 4), (0, .ref x0)]) hx hb dX5_takeClauseWord_27 hl (k := 0) rfl (by decide) (by decide) rfl (fun ls hl => ?_)
          refine lv_goto (tgt := 2) hx hb dX5_takeClauseWord_30 (by decide) ?_
          refine lv_iload_n hx hb dX5_takeClauseWord_2 rfl (lv_at hl 0 rfl) ?_
          refine lv_bipush (v := 10) hx hb dX5_takeClauseWord_3 (by decide) ?_
          refine lv_icmp_ge (tgt := 33) hx hb dX5_takeClauseWord_5 (by decide) (fun h => absurd h (by decide)) (fun _ => ?_)
          refine lv_iload_n hx hb dX5_takeClauseWord_8 rfl (lv_at hl 0 rfl) ?_
          refine lv_bipush (v := 8) hx hb dX5_takeClauseWord_9 (by decide) ?_
          refine lv_icmp_eq (tgt := 27) hx hb dX5_takeClauseWord_11 (by decide) (fun h => absurd h (by decide)) (fun _ => ?_)
          refine lv_aload_n hx hb dX5_takeClauseWord_14 rfl (lv_at hl 1 rfl) ?_
          refine lv_iload_n hx hb dX5_takeClauseWord_15 rfl (lv_at hl 0 rfl) ?_
          refine ro_r (D := D) (va_runS (As := [.int 4]) (rest := [.ref x0]) ⟨hx, hb, hml, hown, hts⟩ ((x_wordOf_4 l D k st lo ) H.size) (va_cwS 1 hts (gS tw_386 tw_387 tw_81 tw_388) rfl rfl rfl (by decide +kernel) ⟨Nat.le_of_ble_eq_true rfl, Nat.le_of_ble_eq_true rfl⟩) (pS hS hAlo hlo hP hK (va_Dlo hD hAlo) hZ [] (by decide) rfl) rfl rfl hl.1 rfl (lv_room (Nat.le_of_ble_eq_true rfl)) dX5_takeClauseWord_16 ⟨Nat.le_of_ble_eq_true rfl, Nat.le_of_ble_eq_true rfl⟩) hS hA hP (fun H locs hP hS => ?_)
          refine rw_i (D := D) (wr := []) (va_runV (As := [.ref (st (100 + 4))]) (rest := []) ⟨hx, hb, hml, hown, hts⟩ ((y_takeWord l D k st lo x0 x1 tz ta__11 na fn fb fx 4 (by first | assumption | omega) (by first | assumption | omega) (by first | assumption | omega)) H.size) (cwV 1 hts (gV tw_399 tw_400 tw_401 tw_80 tw_402) rfl rfl rfl (by decide +kernel) ⟨Nat.le_of_ble_eq_true rfl, Nat.le_of_ble_eq_true rfl⟩) (pV hS hAlo hlo hP hK (va_Dlo hD hAlo) hZ [0, 1] (by decide) rfl (ci := 6) (q := (RX6, TX6, 6)) (q0 := 0) rfl rfl) rfl rfl hl.1 rfl (lv_room (Nat.le_of_ble_eq_true rfl)) dX5_takeClauseWord_19 ⟨Nat.le_of_ble_eq_true rfl, Nat.le_of_ble_eq_true rfl⟩) hS hA hP hD [0, 1] [] rfl rfl (by decide) (by decide) (fun r_14 u H locs hw_14 hP hD hS => ?_)
          obtain ⟨ta__14, rfl⟩ : ∃ z, z = u := ⟨_, rfl⟩
          replace hP : va_P D classes [(x0, .inr (6, (fX6 x1 (nI tz) (nI ta__14) na fn fb))), (aB k x1 240 fx)] H := hP
          replace hD : va_D A [(x0, .inr (6, (fX6 x1 (nI tz) (nI ta__14) na fn fb))), (aB k x1 240 fx)] := hD
          try dsimp only at hw_14
          rcases hw_14 with ⟨⟨rfl, hL_15, hT_15⟩ | ⟨rfl, hL_15, hT_15⟩, hw_14⟩
          · rw [hT_12, skA_idem] at hL_15 hT_15
            refine lv_if_eq (tgt := 27) hx hb dX5_takeClauseWord_22 (by decide) (fun h => absurd h (by decide)) (fun _ => ?_)
            refine lv_iload_n hx hb dX5_takeClauseWord_25 rfl (lv_at hl 0 rfl) ?_
            have hP9 := hP.sub (ws' := [(x0, .inr (6, (fX6 x1 (nI tz) (nI ta__14) na fn fb))), (aB k x1 240 fx)]) [0, 1] rfl
            have hD9 := hD.sub (ws' := [(x0, .inr (6, (fX6 x1 (nI tz) (nI ta__14) na fn fb))), (aB k x1 240 fx)]) [0, 1] (by decide) rfl
            exact W.iret (v := 4) hx hb hr (fun t ht hW => ⟨⟨4, ta__14, rfl, ⟨.inr ⟨4, (by unfold kwN; rw [if_neg hL_3, if_neg hL_6, if_neg hL_9, if_neg hL_12, if_pos hL_15]), by decide, by decide, rfl, (by rw [hL_15]; exact hT_15)⟩, by omega, by omega⟩, by rw [ht]; exact hP9, hD9⟩, hS.F ht⟩) hS.2.2 dX5_takeClauseWord_26
          · rw [hT_12, skA_idem] at hL_15 hT_15
            refine lv_if_eq (tgt := 27) hx hb dX5_takeClauseWord_22 (by decide) (fun _ => ?_) (fun h => absurd (by decide) h)
            refine lv_iinc (v := 5) (lv' := [(1, .int 5), (0, .ref x0)]) hx hb dX5_takeClauseWord_27 hl (k := 0) rfl (by decide) (by decide) rfl (fun ls hl => ?_)
            refine lv_goto (tgt := 2) hx hb dX5_takeClauseWord_30 (by decide) ?_
            refine lv_iload_n hx hb dX5_takeClauseWord_2 rfl (lv_at hl 0 rfl) ?_
            refine lv_bipush (v := 10) hx hb dX5_takeClauseWord_3 (by decide) ?_
            refine lv_icmp_ge (tgt := 33) hx hb dX5_takeClauseWord_5 (by decide) (fun h => absurd h (by decide)) (fun _ => ?_)
            refine lv_iload_n hx hb dX5_takeClauseWord_8 rfl (lv_at hl 0 rfl) ?_
            refine lv_bipush (v := 8) hx hb dX5_takeClauseWord_9 (by decide) ?_
            refine lv_icmp_eq (tgt := 27) hx hb dX5_takeClauseWord_11 (by decide) (fun h => absurd h (by decide)) (fun _ => ?_)
            refine lv_aload_n hx hb dX5_takeClauseWord_14 rfl (lv_at hl 1 rfl) ?_
            refine lv_iload_n hx hb dX5_takeClauseWord_15 rfl (lv_at hl 0 rfl) ?_
            refine ro_r (D := D) (va_runS (As := [.int 5]) (rest := [.ref x0]) ⟨hx, hb, hml, hown, hts⟩ ((x_wordOf_5 l D k st lo ) H.size) (va_cwS 1 hts (gS tw_386 tw_387 tw_81 tw_388) rfl rfl rfl (by decide +kernel) ⟨Nat.le_of_ble_eq_true rfl, Nat.le_of_ble_eq_true rfl⟩) (pS hS hAlo hlo hP hK (va_Dlo hD hAlo) hZ [] (by decide) rfl) rfl rfl hl.1 rfl (lv_room (Nat.le_of_ble_eq_true rfl)) dX5_takeClauseWord_16 ⟨Nat.le_of_ble_eq_true rfl, Nat.le_of_ble_eq_true rfl⟩) hS hA hP (fun H locs hP hS => ?_)
            refine rw_i (D := D) (wr := []) (va_runV (As := [.ref (st (100 + 5))]) (rest := []) ⟨hx, hb, hml, hown, hts⟩ ((y_takeWord l D k st lo x0 x1 tz ta__14 na fn fb fx 5 (by first | assumption | omega) (by first | assumption | omega) (by first | assumption | omega)) H.size) (cwV 1 hts (gV tw_399 tw_400 tw_401 tw_80 tw_402) rfl rfl rfl (by decide +kernel) ⟨Nat.le_of_ble_eq_true rfl, Nat.le_of_ble_eq_true rfl⟩) (pV hS hAlo hlo hP hK (va_Dlo hD hAlo) hZ [0, 1] (by decide) rfl (ci := 6) (q := (RX6, TX6, 6)) (q0 := 0) rfl rfl) rfl rfl hl.1 rfl (lv_room (Nat.le_of_ble_eq_true rfl)) dX5_takeClauseWord_19 ⟨Nat.le_of_ble_eq_true rfl, Nat.le_of_ble_eq_true rfl⟩) hS hA hP hD [0, 1] [] rfl rfl (by decide) (by decide) (fun r_17 u H locs hw_17 hP hD hS => ?_)
            obtain ⟨ta__17, rfl⟩ : ∃ z, z = u := ⟨_, rfl⟩
            replace hP : va_P D classes [(x0, .inr (6, (fX6 x1 (nI tz) (nI ta__17) na fn fb))), (aB k x1 240 fx)] H := hP
            replace hD : va_D A [(x0, .inr (6, (fX6 x1 (nI tz) (nI ta__17) na fn fb))), (aB k x1 240 fx)] := hD
            try dsimp only at hw_17
            rcases hw_17 with ⟨⟨rfl, hL_18, hT_18⟩ | ⟨rfl, hL_18, hT_18⟩, hw_17⟩
            · rw [hT_15, skA_idem] at hL_18 hT_18
              refine lv_if_eq (tgt := 27) hx hb dX5_takeClauseWord_22 (by decide) (fun h => absurd h (by decide)) (fun _ => ?_)
              refine lv_iload_n hx hb dX5_takeClauseWord_25 rfl (lv_at hl 0 rfl) ?_
              have hP9 := hP.sub (ws' := [(x0, .inr (6, (fX6 x1 (nI tz) (nI ta__17) na fn fb))), (aB k x1 240 fx)]) [0, 1] rfl
              have hD9 := hD.sub (ws' := [(x0, .inr (6, (fX6 x1 (nI tz) (nI ta__17) na fn fb))), (aB k x1 240 fx)]) [0, 1] (by decide) rfl
              exact W.iret (v := 5) hx hb hr (fun t ht hW => ⟨⟨5, ta__17, rfl, ⟨.inr ⟨5, (by unfold kwN; rw [if_neg hL_3, if_neg hL_6, if_neg hL_9, if_neg hL_12, if_neg hL_15, if_pos hL_18]), by decide, by decide, rfl, (by rw [hL_18]; exact hT_18)⟩, by omega, by omega⟩, by rw [ht]; exact hP9, hD9⟩, hS.F ht⟩) hS.2.2 dX5_takeClauseWord_26
            · rw [hT_15, skA_idem] at hL_18 hT_18
              refine lv_if_eq (tgt := 27) hx hb dX5_takeClauseWord_22 (by decide) (fun _ => ?_) (fun h => absurd (by decide) h)
              refine lv_iinc (v := 6) (lv' := [(1, .int 6), (0, .ref x0)]) hx hb dX5_takeClauseWord_27 hl (k := 0) rfl (by decide) (by decide) rfl (fun ls hl => ?_)
              refine lv_goto (tgt := 2) hx hb dX5_takeClauseWord_30 (by decide) ?_
              refine lv_iload_n hx hb dX5_takeClauseWord_2 rfl (lv_at hl 0 rfl) ?_
              refine lv_bipush (v := 10) hx hb dX5_takeClauseWord_3 (by decide) ?_
              refine lv_icmp_ge (tgt := 33) hx hb dX5_takeClauseWord_5 (by decide) (fun h => absurd h (by decide)) (fun _ => ?_)
              refine lv_iload_n hx hb dX5_takeClauseWord_8 rfl (lv_at hl 0 rfl) ?_
              refine lv_bipush (v := 8) hx hb dX5_takeClauseWord_9 (by decide) ?_
              refine lv_icmp_eq (tgt := 27) hx hb dX5_takeClauseWord_11 (by decide) (fun h => absurd h (by decide)) (fun _ => ?_)
              refine lv_aload_n hx hb dX5_takeClauseWord_14 rfl (lv_at hl 1 rfl) ?_
              refine lv_iload_n hx hb dX5_takeClauseWord_15 rfl (lv_at hl 0 rfl) ?_
              refine ro_r (D := D) (va_runS (As := [.int 6]) (rest := [.ref x0]) ⟨hx, hb, hml, hown, hts⟩ ((x_wordOf_6 l D k st lo ) H.size) (va_cwS 1 hts (gS tw_386 tw_387 tw_81 tw_388) rfl rfl rfl (by decide +kernel) ⟨Nat.le_of_ble_eq_true rfl, Nat.le_of_ble_eq_true rfl⟩) (pS hS hAlo hlo hP hK (va_Dlo hD hAlo) hZ [] (by decide) rfl) rfl rfl hl.1 rfl (lv_room (Nat.le_of_ble_eq_true rfl)) dX5_takeClauseWord_16 ⟨Nat.le_of_ble_eq_true rfl, Nat.le_of_ble_eq_true rfl⟩) hS hA hP (fun H locs hP hS => ?_)
              refine rw_i (D := D) (wr := []) (va_runV (As := [.ref (st (100 + 6))]) (rest := []) ⟨hx, hb, hml, hown, hts⟩ ((y_takeWord l D k st lo x0 x1 tz ta__17 na fn fb fx 6 (by first | assumption | omega) (by first | assumption | omega) (by first | assumption | omega)) H.size) (cwV 1 hts (gV tw_399 tw_400 tw_401 tw_80 tw_402) rfl rfl rfl (by decide +kernel) ⟨Nat.le_of_ble_eq_true rfl, Nat.le_of_ble_eq_true rfl⟩) (pV hS hAlo hlo hP hK (va_Dlo hD hAlo) hZ [0, 1] (by decide) rfl (ci := 6) (q := (RX6, TX6, 6)) (q0 := 0) rfl rfl) rfl rfl hl.1 rfl (lv_room (Nat.le_of_ble_eq_true rfl)) dX5_takeClauseWord_19 ⟨Nat.le_of_ble_eq_true rfl, Nat.le_of_ble_eq_true rfl⟩) hS hA hP hD [0, 1] [] rfl rfl (by decide) (by decide) (fun r_20 u H locs hw_20 hP hD hS => ?_)
              obtain ⟨ta__20, rfl⟩ : ∃ z, z = u := ⟨_, rfl⟩
              replace hP : va_P D classes [(x0, .inr (6, (fX6 x1 (nI tz) (nI ta__20) na fn fb))), (aB k x1 240 fx)] H := hP
              replace hD : va_D A [(x0, .inr (6, (fX6 x1 (nI tz) (nI ta__20) na fn fb))), (aB k x1 240 fx)] := hD
              try dsimp only at hw_20
              rcases hw_20 with ⟨⟨rfl, hL_21, hT_21⟩ | ⟨rfl, hL_21, hT_21⟩, hw_20⟩
              · rw [hT_18, skA_idem] at hL_21 hT_21
                refine lv_if_eq (tgt := 27) hx hb dX5_takeClauseWord_22 (by decide) (fun h => absurd h (by decide)) (fun _ => ?_)
                refine lv_iload_n hx hb dX5_takeClauseWord_25 rfl (lv_at hl 0 rfl) ?_
                have hP9 := hP.sub (ws' := [(x0, .inr (6, (fX6 x1 (nI tz) (nI ta__20) na fn fb))), (aB k x1 240 fx)]) [0, 1] rfl
                have hD9 := hD.sub (ws' := [(x0, .inr (6, (fX6 x1 (nI tz) (nI ta__20) na fn fb))), (aB k x1 240 fx)]) [0, 1] (by decide) rfl
                exact W.iret (v := 6) hx hb hr (fun t ht hW => ⟨⟨6, ta__20, rfl, ⟨.inr ⟨6, (by unfold kwN; rw [if_neg hL_3, if_neg hL_6, if_neg hL_9, if_neg hL_12, if_neg hL_15, if_neg hL_18, if_pos hL_21]), by decide, by decide, rfl, (by rw [hL_21]; exact hT_21)⟩, by omega, by omega⟩, by rw [ht]; exact hP9, hD9⟩, hS.F ht⟩) hS.2.2 dX5_takeClauseWord_26
              · rw [hT_18, skA_idem] at hL_21 hT_21
                refine lv_if_eq (tgt := 27) hx hb dX5_takeClauseWord_22 (by decide) (fun _ => ?_) (fun h => absurd (by decide) h)
                refine lv_iinc (v := 7) (lv' := [(1, .int 7), (0, .ref x0)]) hx hb dX5_takeClauseWord_27 hl (k := 0) rfl (by decide) (by decide) rfl (fun ls hl => ?_)
                refine lv_goto (tgt := 2) hx hb dX5_takeClauseWord_30 (by decide) ?_
                refine lv_iload_n hx hb dX5_takeClauseWord_2 rfl (lv_at hl 0 rfl) ?_
                refine lv_bipush (v := 10) hx hb dX5_takeClauseWord_3 (by decide) ?_
                refine lv_icmp_ge (tgt := 33) hx hb dX5_takeClauseWord_5 (by decide) (fun h => absurd h (by decide)) (fun _ => ?_)
                refine lv_iload_n hx hb dX5_takeClauseWord_8 rfl (lv_at hl 0 rfl) ?_
                refine lv_bipush (v := 8) hx hb dX5_takeClauseWord_9 (by decide) ?_
                refine lv_icmp_eq (tgt := 27) hx hb dX5_takeClauseWord_11 (by decide) (fun h => absurd h (by decide)) (fun _ => ?_)
                refine lv_aload_n hx hb dX5_takeClauseWord_14 rfl (lv_at hl 1 rfl) ?_
                refine lv_iload_n hx hb dX5_takeClauseWord_15 rfl (lv_at hl 0 rfl) ?_
                refine ro_r (D := D) (va_runS (As := [.int 7]) (rest := [.ref x0]) ⟨hx, hb, hml, hown, hts⟩ ((x_wordOf_7 l D k st lo ) H.size) (va_cwS 1 hts (gS tw_386 tw_387 tw_81 tw_388) rfl rfl rfl (by decide +kernel) ⟨Nat.le_of_ble_eq_true rfl, Nat.le_of_ble_eq_true rfl⟩) (pS hS hAlo hlo hP hK (va_Dlo hD hAlo) hZ [] (by decide) rfl) rfl rfl hl.1 rfl (lv_room (Nat.le_of_ble_eq_true rfl)) dX5_takeClauseWord_16 ⟨Nat.le_of_ble_eq_true rfl, Nat.le_of_ble_eq_true rfl⟩) hS hA hP (fun H locs hP hS => ?_)
                refine rw_i (D := D) (wr := []) (va_runV (As := [.ref (st (100 + 7))]) (rest := []) ⟨hx, hb, hml, hown, hts⟩ ((y_takeWord l D k st lo x0 x1 tz ta__20 na fn fb fx 7 (by first | assumption | omega) (by first | assumption | omega) (by first | assumption | omega)) H.size) (cwV 1 hts (gV tw_399 tw_400 tw_401 tw_80 tw_402) rfl rfl rfl (by decide +kernel) ⟨Nat.le_of_ble_eq_true rfl, Nat.le_of_ble_eq_true rfl⟩) (pV hS hAlo hlo hP hK (va_Dlo hD hAlo) hZ [0, 1] (by decide) rfl (ci := 6) (q := (RX6, TX6, 6)) (q0 := 0) rfl rfl) rfl rfl hl.1 rfl (lv_room (Nat.le_of_ble_eq_true rfl)) dX5_takeClauseWord_19 ⟨Nat.le_of_ble_eq_true rfl, Nat.le_of_ble_eq_true rfl⟩) hS hA hP hD [0, 1] [] rfl rfl (by decide) (by decide) (fun r_23 u H locs hw_23 hP hD hS => ?_)
                obtain ⟨ta__23, rfl⟩ : ∃ z, z = u := ⟨_, rfl⟩
                replace hP : va_P D classes [(x0, .inr (6, (fX6 x1 (nI tz) (nI ta__23) na fn fb))), (aB k x1 240 fx)] H := hP
                replace hD : va_D A [(x0, .inr (6, (fX6 x1 (nI tz) (nI ta__23) na fn fb))), (aB k x1 240 fx)] := hD
                try dsimp only at hw_23
                rcases hw_23 with ⟨⟨rfl, hL_24, hT_24⟩ | ⟨rfl, hL_24, hT_24⟩, hw_23⟩
                · rw [hT_21, skA_idem] at hL_24 hT_24
                  refine lv_if_eq (tgt := 27) hx hb dX5_takeClauseWord_22 (by decide) (fun h => absurd h (by decide)) (fun _ => ?_)
                  refine lv_iload_n hx hb dX5_takeClauseWord_25 rfl (lv_at hl 0 rfl) ?_
                  have hP9 := hP.sub (ws' := [(x0, .inr (6, (fX6 x1 (nI tz) (nI ta__23) na fn fb))), (aB k x1 240 fx)]) [0, 1] rfl
                  have hD9 := hD.sub (ws' := [(x0, .inr (6, (fX6 x1 (nI tz) (nI ta__23) na fn fb))), (aB k x1 240 fx)]) [0, 1] (by decide) rfl
                  exact W.iret (v := 7) hx hb hr (fun t ht hW => ⟨⟨7, ta__23, rfl, ⟨.inr ⟨7, (by unfold kwN; rw [if_neg hL_3, if_neg hL_6, if_neg hL_9, if_neg hL_12, if_neg hL_15, if_neg hL_18, if_neg hL_21, if_pos hL_24]), by decide, by decide, rfl, (by rw [hL_24]; exact hT_24)⟩, by omega, by omega⟩, by rw [ht]; exact hP9, hD9⟩, hS.F ht⟩) hS.2.2 dX5_takeClauseWord_26
                · rw [hT_21, skA_idem] at hL_24 hT_24
                  refine lv_if_eq (tgt := 27) hx hb dX5_takeClauseWord_22 (by decide) (fun _ => ?_) (fun h => absurd (by decide) h)
                  refine lv_iinc (v := 8) (lv' := [(1, .int 8), (0, .ref x0)]) hx hb dX5_takeClauseWord_27 hl (k := 0) rfl (by decide) (by decide) rfl (fun ls hl => ?_)
                  refine lv_goto (tgt := 2) hx hb dX5_takeClauseWord_30 (by decide) ?_
                  refine lv_iload_n hx hb dX5_takeClauseWord_2 rfl (lv_at hl 0 rfl) ?_
                  refine lv_bipush (v := 10) hx hb dX5_takeClauseWord_3 (by decide) ?_
                  refine lv_icmp_ge (tgt := 33) hx hb dX5_takeClauseWord_5 (by decide) (fun h => absurd h (by decide)) (fun _ => ?_)
                  refine lv_iload_n hx hb dX5_takeClauseWord_8 rfl (lv_at hl 0 rfl) ?_
                  refine lv_bipush (v := 8) hx hb dX5_takeClauseWord_9 (by decide) ?_
                  refine lv_icmp_eq (tgt := 27) hx hb dX5_takeClauseWord_11 (by decide) (fun _ => ?_) (fun h => absurd (by decide) h)
                  refine lv_iinc (v := 9) (lv' := [(1, .int 9), (0, .ref x0)]) hx hb dX5_takeClauseWord_27 hl (k := 0) rfl (by decide) (by decide) rfl (fun ls hl => ?_)
                  refine lv_goto (tgt := 2) hx hb dX5_takeClauseWord_30 (by decide) ?_
                  refine lv_iload_n hx hb dX5_takeClauseWord_2 rfl (lv_at hl 0 rfl) ?_
                  refine lv_bipush (v := 10) hx hb dX5_takeClauseWord_3 (by decide) ?_
                  refine lv_icmp_ge (tgt := 33) hx hb dX5_takeClauseWord_5 (by decide) (fun h => absurd h (by decide)) (fun _ => ?_)
                  refine lv_iload_n hx hb dX5_takeClauseWord_8 rfl (lv_at hl 0 rfl) ?_
                  refine lv_bipush (v := 8) hx hb dX5_takeClauseWord_9 (by decide) ?_
                  refine lv_icmp_eq (tgt := 27) hx hb dX5_takeClauseWord_11 (by decide) (fun h => absurd h (by decide)) (fun _ => ?_)
                  refine lv_aload_n hx hb dX5_takeClauseWord_14 rfl (lv_at hl 1 rfl) ?_
                  refine lv_iload_n hx hb dX5_takeClauseWord_15 rfl (lv_at hl 0 rfl) ?_
                  refine ro_r (D := D) (va_runS (As := [.int 9]) (rest := [.ref x0]) ⟨hx, hb, hml, hown, hts⟩ ((x_wordOf_9 l D k st lo ) H.size) (va_cwS 1 hts (gS tw_386 tw_387 tw_81 tw_388) rfl rfl rfl (by decide +kernel) ⟨Nat.le_of_ble_eq_true rfl, Nat.le_of_ble_eq_true rfl⟩) (pS hS hAlo hlo hP hK (va_Dlo hD hAlo) hZ [] (by decide) rfl) rfl rfl hl.1 rfl (lv_room (Nat.le_of_ble_eq_true rfl)) dX5_takeClauseWord_16 ⟨Nat.le_of_ble_eq_true rfl, Nat.le_of_ble_eq_true rfl⟩) hS hA hP (fun H locs hP hS => ?_)
                  refine rw_i (D := D) (wr := []) (va_runV (As := [.ref (st (100 + 9))]) (rest := []) ⟨hx, hb, hml, hown, hts⟩ ((y_takeWord l D k st lo x0 x1 tz ta__23 na fn fb fx 9 (by first | assumption | omega) (by first | assumption | omega) (by first | assumption | omega)) H.size) (cwV 1 hts (gV tw_399 tw_400 tw_401 tw_80 tw_402) rfl rfl rfl (by decide +kernel) ⟨Nat.le_of_ble_eq_true rfl, Nat.le_of_ble_eq_true rfl⟩) (pV hS hAlo hlo hP hK (va_Dlo hD hAlo) hZ [0, 1] (by decide) rfl (ci := 6) (q := (RX6, TX6, 6)) (q0 := 0) rfl rfl) rfl rfl hl.1 rfl (lv_room (Nat.le_of_ble_eq_true rfl)) dX5_takeClauseWord_19 ⟨Nat.le_of_ble_eq_true rfl, Nat.le_of_ble_eq_true rfl⟩) hS hA hP hD [0, 1] [] rfl rfl (by decide) (by decide) (fun r_26 u H locs hw_26 hP hD hS => ?_)
                  obtain ⟨ta__26, rfl⟩ : ∃ z, z = u := ⟨_, rfl⟩
                  replace hP : va_P D classes [(x0, .inr (6, (fX6 x1 (nI tz) (nI ta__26) na fn fb))), (aB k x1 240 fx)] H := hP
                  replace hD : va_D A [(x0, .inr (6, (fX6 x1 (nI tz) (nI ta__26) na fn fb))), (aB k x1 240 fx)] := hD
                  try dsimp only at hw_26
                  rcases hw_26 with ⟨⟨rfl, hL_27, hT_27⟩ | ⟨rfl, hL_27, hT_27⟩, hw_26⟩
                  · rw [hT_24, skA_idem] at hL_27 hT_27
                    refine lv_if_eq (tgt := 27) hx hb dX5_takeClauseWord_22 (by decide) (fun h => absurd h (by decide)) (fun _ => ?_)
                    refine lv_iload_n hx hb dX5_takeClauseWord_25 rfl (lv_at hl 0 rfl) ?_
                    have hP9 := hP.sub (ws' := [(x0, .inr (6, (fX6 x1 (nI tz) (nI ta__26) na fn fb))), (aB k x1 240 fx)]) [0, 1] rfl
                    have hD9 := hD.sub (ws' := [(x0, .inr (6, (fX6 x1 (nI tz) (nI ta__26) na fn fb))), (aB k x1 240 fx)]) [0, 1] (by decide) rfl
                    exact W.iret (v := 9) hx hb hr (fun t ht hW => ⟨⟨9, ta__26, rfl, ⟨.inr ⟨9, (by unfold kwN; rw [if_neg hL_3, if_neg hL_6, if_neg hL_9, if_neg hL_12, if_neg hL_15, if_neg hL_18, if_neg hL_21, if_neg hL_24, if_pos hL_27]), by decide, by decide, rfl, (by rw [hL_27]; exact hT_27)⟩, by omega, by omega⟩, by rw [ht]; exact hP9, hD9⟩, hS.F ht⟩) hS.2.2 dX5_takeClauseWord_26
                  · rw [hT_24, skA_idem] at hL_27 hT_27
                    refine lv_if_eq (tgt := 27) hx hb dX5_takeClauseWord_22 (by decide) (fun _ => ?_) (fun h => absurd (by decide) h)
                    refine lv_iinc (v := 10) (lv' := [(1, .int 10), (0, .ref x0)]) hx hb dX5_takeClauseWord_27 hl (k := 0) rfl (by decide) (by decide) rfl (fun ls hl => ?_)
                    refine lv_goto (tgt := 2) hx hb dX5_takeClauseWord_30 (by decide) ?_
                    refine lv_iload_n hx hb dX5_takeClauseWord_2 rfl (lv_at hl 0 rfl) ?_
                    refine lv_bipush (v := 10) hx hb dX5_takeClauseWord_3 (by decide) ?_
                    refine lv_icmp_ge (tgt := 33) hx hb dX5_takeClauseWord_5 (by decide) (fun _ => ?_) (fun h => absurd (by decide) h)
                    refine lv_iconst (v := (-1)) hx hb dX5_takeClauseWord_33 (by decide) ?_
                    have hP9 := hP.sub (ws' := [(x0, .inr (6, (fX6 x1 (nI tz) (nI ta__26) na fn fb))), (aB k x1 240 fx)]) [0, 1] rfl
                    have hD9 := hD.sub (ws' := [(x0, .inr (6, (fX6 x1 (nI tz) (nI ta__26) na fn fb))), (aB k x1 240 fx)]) [0, 1] (by decide) rfl
                    exact W.iret (v := (-1)) hx hb hr (fun t ht hW => ⟨⟨(-1), ta__26, rfl, ⟨.inl ⟨rfl, (by unfold kwN; rw [if_neg hL_3, if_neg hL_6, if_neg hL_9, if_neg hL_12, if_neg hL_15, if_neg hL_18, if_neg hL_21, if_neg hL_24, if_neg hL_27]), hT_27⟩, by omega, by omega⟩, by rw [ht]; exact hP9, hD9⟩, hS.F ht⟩) hS.2.2 dX5_takeClauseWord_34


theorem dX5_takeClauseWord_0 : decode cX5_takeClauseWord 0 = .ok (.iconst 0, 1) := by decide +kernel
theorem dX5_takeClauseWord_1 : decode cX5_takeClauseWord 1 = .ok (.istore_n 1, 1) := by decide +kernel
theorem dX5_takeClauseWord_2 : decode cX5_takeClauseWord 2 = .ok (.iload_n 1, 1) := by decide +kernel
theorem dX5_takeClauseWord_3 : decode cX5_takeClauseWord 3 = .ok (.bipush 10, 2) := by decide +kernel
theorem dX5_takeClauseWord_5 : decode cX5_takeClauseWord 5 = .ok (.if_icmp .ge 28, 3) := by decide +kernel
theorem dX5_takeClauseWord_8 : decode cX5_takeClauseWord 8 = .ok (.iload_n 1, 1) := by decide +kernel
theorem dX5_takeClauseWord_9 : decode cX5_takeClauseWord 9 = .ok (.bipush 8, 2) := by decide +kernel
theorem dX5_takeClauseWord_11 : decode cX5_takeClauseWord 11 = .ok (.if_icmp .eq 16, 3) := by decide +kernel
theorem dX5_takeClauseWord_14 : decode cX5_takeClauseWord 14 = .ok (.aload_n 0, 1) := by decide +kernel
theorem dX5_takeClauseWord_15 : decode cX5_takeClauseWord 15 = .ok (.iload_n 1, 1) := by decide +kernel
theorem dX5_takeClauseWord_16 : decode cX5_takeClauseWord 16 = .ok (.invokestatic 79, 3) := by decide +kernel
theorem dX5_takeClauseWord_19 : decode cX5_takeClauseWord 19 = .ok (.invokevirtual 83, 3) := by decide +kernel
theorem dX5_takeClauseWord_22 : decode cX5_takeClauseWord 22 = .ok (.ifCond .eq 5, 3) := by decide +kernel
theorem dX5_takeClauseWord_25 : decode cX5_takeClauseWord 25 = .ok (.iload_n 1, 1) := by decide +kernel
theorem dX5_takeClauseWord_26 : decode cX5_takeClauseWord 26 = .ok (.ireturn, 1) := by decide +kernel
theorem dX5_takeClauseWord_27 : decode cX5_takeClauseWord 27 = .ok (.iinc 1 1, 3) := by decide +kernel
theorem dX5_takeClauseWord_30 : decode cX5_takeClauseWord 30 = .ok (.goto (-28), 3) := by decide +kernel
theorem dX5_takeClauseWord_33 : decode cX5_takeClauseWord 33 = .ok (.iconst (-1), 1) := by decide +kernel
theorem dX5_takeClauseWord_34 : decode cX5_takeClauseWord 34 = .ok (.ireturn, 1) := by decide +kernel
set_option maxHeartbeats 4000000 in
set_option maxRecDepth 100000 in
theorem x_takeClauseWord (l : Launch) (D : va_G) (k : Nat → ClassId) (st : Nat → Nat) (lo : Nat) (x0 : Nat) (x1 : Nat) (tz : Nat) (ta : Nat) (na : Int32) (fn : Int32) (fb : Int32) (fx : Nat → Int32) (ht : ta ≤ tz) (hz : tz ≤ 240) : CWi l D k st lo yX5_takeClauseWord cX5_takeClauseWord 2 (some .int) ({ frames := 5, cells := 0, slots := 0, locals := 108 }) 0 0 [.ref x0] [(x0, .inr (6, [.ref x1, .int (nI tz), .int (nI ta), .int na, .int fn, .int fb])), (x1, .inl (k 0, 240, .inl fx))] (fun (r : Int32) (ta_ : Nat) => (r = -1 ∨ ∃ j : Nat, (j ≤ 9 ∧ j ≠ 8) ∧ r = nI j) ∧ ta ≤ ta_ ∧ ta_ ≤ tz) (fun (ta_ : Nat) => [(x0, .inr (6, [.ref x1, .int (nI tz), .int (nI ta_), .int na, .int fn, .int fb])), (x1, .inl (k 0, 240, .inl fx))]) := by
  intro sz
  refine Met.ofW (cc := cX5_takeClauseWord) (maxL := 2) (ret := (some .int)) (by decide) rfl ?_
  intro p e s m args below meth c s₁ B hml hv
  obtain ⟨rfl, hsz, hlo, hP, hK, hDL, hZ⟩ := hv
  have hx := B.exec
  have hb := B.bytes
  have hr := B.returns
  have hts := WS_ts B.pre
  have hown : s.vm.findClass RX5 = some m.cls := findClass_of_methodNamed B.named
  have hlocks := B.notSynchronized
  subst hsz
  have hD := hDL.self (sz := s.heap.size)
  have hAlo := A_lo hDL hlo
  generalize hAe : va_A [(x0, .inr (6, [.ref x1, .int (nI tz), .int (nI ta), .int na, .int fn, .int fb])), (x1, .inl (k 0, 240, .inl fx))] s.heap.size = A at hD hAlo ⊢
  have hA : ∀ q : Nat, s.heap.size ≤ q → A q := fun q h => by rw [← hAe]; exact Or.inr h
  have hS : va_S A s.heap s.heap [] := va_S.rf
  have hl := lv_entry ([.ref x0]) (n := 2) (Nat.le_of_ble_eq_true rfl)
  rw [lg_entry_eq]
  generalize (lg_sl ([.ref x0]) ++ List.replicate (2 - (lg_sl ([.ref x0])).length) Slot.unset).toArray = ls at hl ⊢
  have hl : lv_has ls 2 [(0, .ref x0)] := hl
  refine lv_iconst (v := 0) hx hb dX5_takeClauseWord_0 (by decide) ?_
  refine lv_istore_n (lv' := [(1, .int 0), (0, .ref x0)]) hx hb dX5_takeClauseWord_1 rfl hl (by decide) rfl (fun ls hl => ?_)
  refine lv_iload_n hx hb dX5_takeClauseWord_2 rfl (lv_at hl 0 rfl) ?_
  refine lv_bipush (v := 10) hx hb dX5_takeClauseWord_3 (by decide) ?_
  refine lv_icmp_ge (tgt := 33) hx hb dX5_takeClauseWord_5 (by decide) (fun h => absurd h (by decide)) (fun _ => ?_)
  refine lv_iload_n hx hb dX5_takeClauseWord_8 rfl (lv_at hl 0 rfl) ?_
  refine lv_bipush (v := 8) hx hb dX5_takeClauseWord_9 (by decide) ?_
  refine lv_icmp_eq (tgt := 27) hx hb dX5_takeClauseWord_11 (by decide) (fun h => absurd h (by decide)) (fun _ => ?_)
  refine lv_aload_n hx hb dX5_takeClauseWord_14 rfl (lv_at hl 1 rfl) ?_
  refine lv_iload_n hx hb dX5_takeClauseWord_15 rfl (lv_at hl 0 rfl) ?_
  refine ro_r (D := D) (va_runS (As := [.int 0]) (rest := [.ref x0]) ⟨hx, hb, hml, hown, hts⟩ ((x_wordOf_0 l D k st lo ) s.heap.size) (va_cwS 1 hts (gS tw_386 tw_387 tw_81 tw_388) rfl rfl rfl (by decide +kernel) ⟨Nat.le_of_ble_eq_true rfl, Nat.le_of_ble_eq_true rfl⟩) (pS hS hAlo hlo hP hK (va_Dlo hD hAlo) hZ [] (by decide) rfl) rfl rfl hl.1 rfl (lv_room (Nat.le_of_ble_eq_true rfl)) dX5_takeClauseWord_16 ⟨Nat.le_of_ble_eq_true rfl, Nat.le_of_ble_eq_true rfl⟩) hS hA hP (fun H locs hP hS => ?_)
  refine rw_i (D := D) (wr := []) (va_runV (As := [.ref (st (100 + 0))]) (rest := []) ⟨hx, hb, hml, hown, hts⟩ ((x_takeWord l D k st lo x0 x1 tz ta na fn fb fx 0 (by omega) (by omega) (by omega)) H.size) (cwV 1 hts (gV tw_399 tw_400 tw_401 tw_80 tw_402) rfl rfl rfl (by decide +kernel) ⟨Nat.le_of_ble_eq_true rfl, Nat.le_of_ble_eq_true rfl⟩) (pV hS hAlo hlo hP hK (va_Dlo hD hAlo) hZ [0, 1] (by decide) rfl (ci := 6) (q0 := 0) rfl rfl) rfl rfl hl.1 rfl (lv_room (Nat.le_of_ble_eq_true rfl)) dX5_takeClauseWord_19 ⟨Nat.le_of_ble_eq_true rfl, Nat.le_of_ble_eq_true rfl⟩) hS hA hP hD [0, 1] [] rfl rfl (by decide) (by decide) (fun r_2 u H locs hw_2 hP hD hS => ?_)
  obtain ⟨ta__2, rfl⟩ : ∃ z, z = u := ⟨_, rfl⟩
  replace hP : va_P D classes [(x0, .inr (6, [.ref x1, .int (nI tz), .int (nI ta__2), .int na, .int fn, .int fb])), (x1, .inl (k 0, 240, .inl fx))] H := hP
  replace hD : va_D A [(x0, .inr (6, [.ref x1, .int (nI tz), .int (nI ta__2), .int na, .int fn, .int fb])), (x1, .inl (k 0, 240, .inl fx))] := hD
  try dsimp only at hw_2
  rcases hw_2 with ⟨rfl | rfl, hw_2⟩
  · refine lv_if_eq (tgt := 27) hx hb dX5_takeClauseWord_22 (by decide) (fun h => absurd h (by decide)) (fun _ => ?_)
    refine lv_iload_n hx hb dX5_takeClauseWord_25 rfl (lv_at hl 0 rfl) ?_
    have hP9 := hP.sub (ws' := [(x0, .inr (6, [.ref x1, .int (nI tz), .int (nI ta__2), .int na, .int fn, .int fb])), (x1, .inl (k 0, 240, .inl fx))]) [0, 1] rfl
    have hD9 := hD.sub (ws' := [(x0, .inr (6, [.ref x1, .int (nI tz), .int (nI ta__2), .int na, .int fn, .int fb])), (x1, .inl (k 0, 240, .inl fx))]) [0, 1] (by decide) rfl
    exact W.iret (v := 0) hx hb hr (fun t ht hW => ⟨⟨0, ta__2, rfl, ⟨.inr ⟨0, by omega, rfl⟩, by omega, by omega⟩, by rw [ht]; exact hP9, hD9⟩, hS.F ht⟩) hS.2.2 dX5_takeClauseWord_26
  · refine lv_if_eq (tgt := 27) hx hb dX5_takeClauseWord_22 (by decide) (fun _ => ?_) (fun h => absurd (by decide) h)
    refine lv_iinc (v := 1) (lv' := [(1, .int 1), (0, .ref x0)]) hx hb dX5_takeClauseWord_27 hl (k := 0) rfl (by decide) (by decide) rfl (fun ls hl => ?_)
    refine lv_goto (tgt := 2) hx hb dX5_takeClauseWord_30 (by decide) ?_
    refine lv_iload_n hx hb dX5_takeClauseWord_2 rfl (lv_at hl 0 rfl) ?_
    refine lv_bipush (v := 10) hx hb dX5_takeClauseWord_3 (by decide) ?_
    refine lv_icmp_ge (tgt := 33) hx hb dX5_takeClauseWord_5 (by decide) (fun h => absurd h (by decide)) (fun _ => ?_)
    refine lv_iload_n hx hb dX5_takeClauseWord_8 rfl (lv_at hl 0 rfl) ?_
    refine lv_bipush (v := 8) hx hb dX5_takeClauseWord_9 (by decide) ?_
    refine lv_icmp_eq (tgt := 27) hx hb dX5_takeClauseWord_11 (by decide) (fun h => absurd h (by decide)) (fun _ => ?_)
    refine lv_aload_n hx hb dX5_takeClauseWord_14 rfl (lv_at hl 1 rfl) ?_
    refine lv_iload_n hx hb dX5_takeClauseWord_15 rfl (lv_at hl 0 rfl) ?_
    refine ro_r (D := D) (va_runS (As := [.int 1]) (rest := [.ref x0]) ⟨hx, hb, hml, hown, hts⟩ ((x_wordOf_1 l D k st lo ) H.size) (va_cwS 1 hts (gS tw_386 tw_387 tw_81 tw_388) rfl rfl rfl (by decide +kernel) ⟨Nat.le_of_ble_eq_true rfl, Nat.le_of_ble_eq_true rfl⟩) (pS hS hAlo hlo hP hK (va_Dlo hD hAlo) hZ [] (by decide) rfl) rfl rfl hl.1 rfl (lv_room (Nat.le_of_ble_eq_true rfl)) dX5_takeClauseWord_16 ⟨Nat.le_of_ble_eq_true rfl, Nat.le_of_ble_eq_true rfl⟩) hS hA hP (fun H locs hP hS => ?_)
    refine rw_i (D := D) (wr := []) (va_runV (As := [.ref (st (100 + 1))]) (rest := []) ⟨hx, hb, hml, hown, hts⟩ ((x_takeWord l D k st lo x0 x1 tz ta__2 na fn fb fx 1 (by omega) (by omega) (by omega)) H.size) (cwV 1 hts (gV tw_399 tw_400 tw_401 tw_80 tw_402) rfl rfl rfl (by decide +kernel) ⟨Nat.le_of_ble_eq_true rfl, Nat.le_of_ble_eq_true rfl⟩) (pV hS hAlo hlo hP hK (va_Dlo hD hAlo) hZ [0, 1] (by decide) rfl (ci := 6) (q0 := 0) rfl rfl) rfl rfl hl.1 rfl (lv_room (Nat.le_of_ble_eq_true rfl)) dX5_takeClauseWord_19 ⟨Nat.le_of_ble_eq_true rfl, Nat.le_of_ble_eq_true rfl⟩) hS hA hP hD [0, 1] [] rfl rfl (by decide) (by decide) (fun r_4 u H locs hw_4 hP hD hS => ?_)
    obtain ⟨ta__4, rfl⟩ : ∃ z, z = u := ⟨_, rfl⟩
    replace hP : va_P D classes [(x0, .inr (6, [.ref x1, .int (nI tz), .int (nI ta__4), .int na, .int fn, .int fb])), (x1, .inl (k 0, 240, .inl fx))] H := hP
    replace hD : va_D A [(x0, .inr (6, [.ref x1, .int (nI tz), .int (nI ta__4), .int na, .int fn, .int fb])), (x1, .inl (k 0, 240, .inl fx))] := hD
    try dsimp only at hw_4
    rcases hw_4 with ⟨rfl | rfl, hw_4⟩
    · refine lv_if_eq (tgt := 27) hx hb dX5_takeClauseWord_22 (by decide) (fun h => absurd h (by decide)) (fun _ => ?_)
      refine lv_iload_n hx hb dX5_takeClauseWord_25 rfl (lv_at hl 0 rfl) ?_
      have hP9 := hP.sub (ws' := [(x0, .inr (6, [.ref x1, .int (nI tz), .int (nI ta__4), .int na, .int fn, .int fb])), (x1, .inl (k 0, 240, .inl fx))]) [0, 1] rfl
      have hD9 := hD.sub (ws' := [(x0, .inr (6, [.ref x1, .int (nI tz), .int (nI ta__4), .int na, .int fn, .int fb])), (x1, .inl (k 0, 240, .inl fx))]) [0, 1] (by decide) rfl
      exact W.iret (v := 1) hx hb hr (fun t ht hW => ⟨⟨1, ta__4, rfl, ⟨.inr ⟨1, by omega, rfl⟩, by omega, by omega⟩, by rw [ht]; exact hP9, hD9⟩, hS.F ht⟩) hS.2.2 dX5_takeClauseWord_26
    · refine lv_if_eq (tgt := 27) hx hb dX5_takeClauseWord_22 (by decide) (fun _ => ?_) (fun h => absurd (by decide) h)
      refine lv_iinc (v := 2) (lv' := [(1, .int 2), (0, .ref x0)]) hx hb dX5_takeClauseWord_27 hl (k := 0) rfl (by decide) (by decide) rfl (fun ls hl => ?_)
      refine lv_goto (tgt := 2) hx hb dX5_takeClauseWord_30 (by decide) ?_
      refine lv_iload_n hx hb dX5_takeClauseWord_2 rfl (lv_at hl 0 rfl) ?_
      refine lv_bipush (v := 10) hx hb dX5_takeClauseWord_3 (by decide) ?_
      refine lv_icmp_ge (tgt := 33) hx hb dX5_takeClauseWord_5 (by decide) (fun h => absurd h (by decide)) (fun _ => ?_)
      refine lv_iload_n hx hb dX5_takeClauseWord_8 rfl (lv_at hl 0 rfl) ?_
      refine lv_bipush (v := 8) hx hb dX5_takeClauseWord_9 (by decide) ?_
      refine lv_icmp_eq (tgt := 27) hx hb dX5_takeClauseWord_11 (by decide) (fun h => absurd h (by decide)) (fun _ => ?_)
      refine lv_aload_n hx hb dX5_takeClauseWord_14 rfl (lv_at hl 1 rfl) ?_
      refine lv_iload_n hx hb dX5_takeClauseWord_15 rfl (lv_at hl 0 rfl) ?_
      refine ro_r (D := D) (va_runS (As := [.int 2]) (rest := [.ref x0]) ⟨hx, hb, hml, hown, hts⟩ ((x_wordOf_2 l D k st lo ) H.size) (va_cwS 1 hts (gS tw_386 tw_387 tw_81 tw_388) rfl rfl rfl (by decide +kernel) ⟨Nat.le_of_ble_eq_true rfl, Nat.le_of_ble_eq_true rfl⟩) (pS hS hAlo hlo hP hK (va_Dlo hD hAlo) hZ [] (by decide) rfl) rfl rfl hl.1 rfl (lv_room (Nat.le_of_ble_eq_true rfl)) dX5_takeClauseWord_16 ⟨Nat.le_of_ble_eq_true rfl, Nat.le_of_ble_eq_true rfl⟩) hS hA hP (fun H locs hP hS => ?_)
      refine rw_i (D := D) (wr := []) (va_runV (As := [.ref (st (100 + 2))]) (rest := []) ⟨hx, hb, hml, hown, hts⟩ ((x_takeWord l D k st lo x0 x1 tz ta__4 na fn fb fx 2 (by omega) (by omega) (by omega)) H.size) (cwV 1 hts (gV tw_399 tw_400 tw_401 tw_80 tw_402) rfl rfl rfl (by decide +kernel) ⟨Nat.le_of_ble_eq_true rfl, Nat.le_of_ble_eq_true rfl⟩) (pV hS hAlo hlo hP hK (va_Dlo hD hAlo) hZ [0, 1] (by decide) rfl (ci := 6) (q0 := 0) rfl rfl) rfl rfl hl.1 rfl (lv_room (Nat.le_of_ble_eq_true rfl)) dX5_takeClauseWord_19 ⟨Nat.le_of_ble_eq_true rfl, Nat.le_of_ble_eq_true rfl⟩) hS hA hP hD [0, 1] [] rfl rfl (by decide) (by decide) (fun r_6 u H locs hw_6 hP hD hS => ?_)
      obtain ⟨ta__6, rfl⟩ : ∃ z, z = u := ⟨_, rfl⟩
      replace hP : va_P D classes [(x0, .inr (6, [.ref x1, .int (nI tz), .int (nI ta__6), .int na, .int fn, .int fb])), (x1, .inl (k 0, 240, .inl fx))] H := hP
      replace hD : va_D A [(x0, .inr (6, [.ref x1, .int (nI tz), .int (nI ta__6), .int na, .int fn, .int fb])), (x1, .inl (k 0, 240, .inl fx))] := hD
      try dsimp only at hw_6
      rcases hw_6 with ⟨rfl | rfl, hw_6⟩
      · refine lv_if_eq (tgt := 27) hx hb dX5_takeClauseWord_22 (by decide) (fun h => absurd h (by decide)) (fun _ => ?_)
        refine lv_iload_n hx hb dX5_takeClauseWord_25 rfl (lv_at hl 0 rfl) ?_
        have hP9 := hP.sub (ws' := [(x0, .inr (6, [.ref x1, .int (nI tz), .int (nI ta__6), .int na, .int fn, .int fb])), (x1, .inl (k 0, 240, .inl fx))]) [0, 1] rfl
        have hD9 := hD.sub (ws' := [(x0, .inr (6, [.ref x1, .int (nI tz), .int (nI ta__6), .int na, .int fn, .int fb])), (x1, .inl (k 0, 240, .inl fx))]) [0, 1] (by decide) rfl
        exact W.iret (v := 2) hx hb hr (fun t ht hW => ⟨⟨2, ta__6, rfl, ⟨.inr ⟨2, by omega, rfl⟩, by omega, by omega⟩, by rw [ht]; exact hP9, hD9⟩, hS.F ht⟩) hS.2.2 dX5_takeClauseWord_26
      · refine lv_if_eq (tgt := 27) hx hb dX5_takeClauseWord_22 (by decide) (fun _ => ?_) (fun h => absurd (by decide) h)
        refine lv_iinc (v := 3) (lv' := [(1, .int 3), (0, .ref x0)]) hx hb dX5_takeClauseWord_27 hl (k := 0) rfl (by decide) (by decide) rfl (fun ls hl => ?_)
        refine lv_goto (tgt := 2) hx hb dX5_takeClauseWord_30 (by decide) ?_
        refine lv_iload_n hx hb dX5_takeClauseWord_2 rfl (lv_at hl 0 rfl) ?_
        refine lv_bipush (v := 10) hx hb dX5_takeClauseWord_3 (by decide) ?_
        refine lv_icmp_ge (tgt := 33) hx hb dX5_takeClauseWord_5 (by decide) (fun h => absurd h (by decide)) (fun _ => ?_)
        refine lv_iload_n hx hb dX5_takeClauseWord_8 rfl (lv_at hl 0 rfl) ?_
        refine lv_bipush (v := 8) hx hb dX5_takeClauseWord_9 (by decide) ?_
        refine lv_icmp_eq (tgt := 27) hx hb dX5_takeClauseWord_11 (by decide) (fun h => absurd h (by decide)) (fun _ => ?_)
        refine lv_aload_n hx hb dX5_takeClauseWord_14 rfl (lv_at hl 1 rfl) ?_
        refine lv_iload_n hx hb dX5_takeClauseWord_15 rfl (lv_at hl 0 rfl) ?_
        refine ro_r (D := D) (va_runS (As := [.int 3]) (rest := [.ref x0]) ⟨hx, hb, hml, hown, hts⟩ ((x_wordOf_3 l D k st lo ) H.size) (va_cwS 1 hts (gS tw_386 tw_387 tw_81 tw_388) rfl rfl rfl (by decide +kernel) ⟨Nat.le_of_ble_eq_true rfl, Nat.le_of_ble_eq_true rfl⟩) (pS hS hAlo hlo hP hK (va_Dlo hD hAlo) hZ [] (by decide) rfl) rfl rfl hl.1 rfl (lv_room (Nat.le_of_ble_eq_true rfl)) dX5_takeClauseWord_16 ⟨Nat.le_of_ble_eq_true rfl, Nat.le_of_ble_eq_true rfl⟩) hS hA hP (fun H locs hP hS => ?_)
        refine rw_i (D := D) (wr := []) (va_runV (As := [.ref (st (100 + 3))]) (rest := []) ⟨hx, hb, hml, hown, hts⟩ ((x_takeWord l D k st lo x0 x1 tz ta__6 na fn fb fx 3 (by omega) (by omega) (by omega)) H.size) (cwV 1 hts (gV tw_399 tw_400 tw_401 tw_80 tw_402) rfl rfl rfl (by decide +kernel) ⟨Nat.le_of_ble_eq_true rfl, Nat.le_of_ble_eq_true rfl⟩) (pV hS hAlo hlo hP hK (va_Dlo hD hAlo) hZ [0, 1] (by decide) rfl (ci := 6) (q0 := 0) rfl rfl) rfl rfl hl.1 rfl (lv_room (Nat.le_of_ble_eq_true rfl)) dX5_takeClauseWord_19 ⟨Nat.le_of_ble_eq_true rfl, Nat.le_of_ble_eq_true rfl⟩) hS hA hP hD [0, 1] [] rfl rfl (by decide) (by decide) (fun r_8 u H locs hw_8 hP hD hS => ?_)
        obtain ⟨ta__8, rfl⟩ : ∃ z, z = u := ⟨_, rfl⟩
        replace hP : va_P D classes [(x0, .inr (6, [.ref x1, .int (nI tz), .int (nI ta__8), .int na, .int fn, .int fb])), (x1, .inl (k 0, 240, .inl fx))] H := hP
        replace hD : va_D A [(x0, .inr (6, [.ref x1, .int (nI tz), .int (nI ta__8), .int na, .int fn, .int fb])), (x1, .inl (k 0, 240, .inl fx))] := hD
        try dsimp only at hw_8
        rcases hw_8 with ⟨rfl | rfl, hw_8⟩
        · refine lv_if_eq (tgt := 27) hx hb dX5_takeClauseWord_22 (by decide) (fun h => absurd h (by decide)) (fun _ => ?_)
          refine lv_iload_n hx hb dX5_takeClauseWord_25 rfl (lv_at hl 0 rfl) ?_
          have hP9 := hP.sub (ws' := [(x0, .inr (6, [.ref x1, .int (nI tz), .int (nI ta__8), .int na, .int fn, .int fb])), (x1, .inl (k 0, 240, .inl fx))]) [0, 1] rfl
          have hD9 := hD.sub (ws' := [(x0, .inr (6, [.ref x1, .int (nI tz), .int (nI ta__8), .int na, .int fn, .int fb])), (x1, .inl (k 0, 240, .inl fx))]) [0, 1] (by decide) rfl
          exact W.iret (v := 3) hx hb hr (fun t ht hW => ⟨⟨3, ta__8, rfl, ⟨.inr ⟨3, by omega, rfl⟩, by omega, by omega⟩, by rw [ht]; exact hP9, hD9⟩, hS.F ht⟩) hS.2.2 dX5_takeClauseWord_26
        · refine lv_if_eq (tgt := 27) hx hb dX5_takeClauseWord_22 (by decide) (fun _ => ?_) (fun h => absurd (by decide) h)
          refine lv_iinc (v := 4) (lv' := [(1, .int 4), (0, .ref x0)]) hx hb dX5_takeClauseWord_27 hl (k := 0) rfl (by decide) (by decide) rfl (fun ls hl => ?_)
          refine lv_goto (tgt := 2) hx hb dX5_takeClauseWord_30 (by decide) ?_
          refine lv_iload_n hx hb dX5_takeClauseWord_2 rfl (lv_at hl 0 rfl) ?_
          refine lv_bipush (v := 10) hx hb dX5_takeClauseWord_3 (by decide) ?_
          refine lv_icmp_ge (tgt := 33) hx hb dX5_takeClauseWord_5 (by decide) (fun h => absurd h (by decide)) (fun _ => ?_)
          refine lv_iload_n hx hb dX5_takeClauseWord_8 rfl (lv_at hl 0 rfl) ?_
          refine lv_bipush (v := 8) hx hb dX5_takeClauseWord_9 (by decide) ?_
          refine lv_icmp_eq (tgt := 27) hx hb dX5_takeClauseWord_11 (by decide) (fun h => absurd h (by decide)) (fun _ => ?_)
          refine lv_aload_n hx hb dX5_takeClauseWord_14 rfl (lv_at hl 1 rfl) ?_
          refine lv_iload_n hx hb dX5_takeClauseWord_15 rfl (lv_at hl 0 rfl) ?_
          refine ro_r (D := D) (va_runS (As := [.int 4]) (rest := [.ref x0]) ⟨hx, hb, hml, hown, hts⟩ ((x_wordOf_4 l D k st lo ) H.size) (va_cwS 1 hts (gS tw_386 tw_387 tw_81 tw_388) rfl rfl rfl (by decide +kernel) ⟨Nat.le_of_ble_eq_true rfl, Nat.le_of_ble_eq_true rfl⟩) (pS hS hAlo hlo hP hK (va_Dlo hD hAlo) hZ [] (by decide) rfl) rfl rfl hl.1 rfl (lv_room (Nat.le_of_ble_eq_true rfl)) dX5_takeClauseWord_16 ⟨Nat.le_of_ble_eq_true rfl, Nat.le_of_ble_eq_true rfl⟩) hS hA hP (fun H locs hP hS => ?_)
          refine rw_i (D := D) (wr := []) (va_runV (As := [.ref (st (100 + 4))]) (rest := []) ⟨hx, hb, hml, hown, hts⟩ ((x_takeWord l D k st lo x0 x1 tz ta__8 na fn fb fx 4 (by omega) (by omega) (by omega)) H.size) (cwV 1 hts (gV tw_399 tw_400 tw_401 tw_80 tw_402) rfl rfl rfl (by decide +kernel) ⟨Nat.le_of_ble_eq_true rfl, Nat.le_of_ble_eq_true rfl⟩) (pV hS hAlo hlo hP hK (va_Dlo hD hAlo) hZ [0, 1] (by decide) rfl (ci := 6) (q0 := 0) rfl rfl) rfl rfl hl.1 rfl (lv_room (Nat.le_of_ble_eq_true rfl)) dX5_takeClauseWord_19 ⟨Nat.le_of_ble_eq_true rfl, Nat.le_of_ble_eq_true rfl⟩) hS hA hP hD [0, 1] [] rfl rfl (by decide) (by decide) (fun r_10 u H locs hw_10 hP hD hS => ?_)
          obtain ⟨ta__10, rfl⟩ : ∃ z, z = u := ⟨_, rfl⟩
          replace hP : va_P D classes [(x0, .inr (6, [.ref x1, .int (nI tz), .int (nI ta__10), .int na, .int fn, .int fb])), (x1, .inl (k 0, 240, .inl fx))] H := hP
          replace hD : va_D A [(x0, .inr (6, [.ref x1, .int (nI tz), .int (nI ta__10), .int na, .int fn, .int fb])), (x1, .inl (k 0, 240, .inl fx))] := hD
          try dsimp only at hw_10
          rcases hw_10 with ⟨rfl | rfl, hw_10⟩
          · refine lv_if_eq (tgt := 27) hx hb dX5_takeClauseWord_22 (by decide) (fun h => absurd h (by decide)) (fun _ => ?_)
            refine lv_iload_n hx hb dX5_takeClauseWord_25 rfl (lv_at hl 0 rfl) ?_
            have hP9 := hP.sub (ws' := [(x0, .inr (6, [.ref x1, .int (nI tz), .int (nI ta__10), .int na, .int fn, .int fb])), (x1, .inl (k 0, 240, .inl fx))]) [0, 1] rfl
            have hD9 := hD.sub (ws' := [(x0, .inr (6, [.ref x1, .int (nI tz), .int (nI ta__10), .int na, .int fn, .int fb])), (x1, .inl (k 0, 240, .inl fx))]) [0, 1] (by decide) rfl
            exact W.iret (v := 4) hx hb hr (fun t ht hW => ⟨⟨4, ta__10, rfl, ⟨.inr ⟨4, by omega, rfl⟩, by omega, by omega⟩, by rw [ht]; exact hP9, hD9⟩, hS.F ht⟩) hS.2.2 dX5_takeClauseWord_26
          · refine lv_if_eq (tgt := 27) hx hb dX5_takeClauseWord_22 (by decide) (fun _ => ?_) (fun h => absurd (by decide) h)
            refine lv_iinc (v := 5) (lv' := [(1, .int 5), (0, .ref x0)]) hx hb dX5_takeClauseWord_27 hl (k := 0) rfl (by decide) (by decide) rfl (fun ls hl => ?_)
            refine lv_goto (tgt := 2) hx hb dX5_takeClauseWord_30 (by decide) ?_
            refine lv_iload_n hx hb dX5_takeClauseWord_2 rfl (lv_at hl 0 rfl) ?_
            refine lv_bipush (v := 10) hx hb dX5_takeClauseWord_3 (by decide) ?_
            refine lv_icmp_ge (tgt := 33) hx hb dX5_takeClauseWord_5 (by decide) (fun h => absurd h (by decide)) (fun _ => ?_)
            refine lv_iload_n hx hb dX5_takeClauseWord_8 rfl (lv_at hl 0 rfl) ?_
            refine lv_bipush (v := 8) hx hb dX5_takeClauseWord_9 (by decide) ?_
            refine lv_icmp_eq (tgt := 27) hx hb dX5_takeClauseWord_11 (by decide) (fun h => absurd h (by decide)) (fun _ => ?_)
            refine lv_aload_n hx hb dX5_takeClauseWord_14 rfl (lv_at hl 1 rfl) ?_
            refine lv_iload_n hx hb dX5_takeClauseWord_15 rfl (lv_at hl 0 rfl) ?_
            refine ro_r (D := D) (va_runS (As := [.int 5]) (rest := [.ref x0]) ⟨hx, hb, hml, hown, hts⟩ ((x_wordOf_5 l D k st lo ) H.size) (va_cwS 1 hts (gS tw_386 tw_387 tw_81 tw_388) rfl rfl rfl (by decide +kernel) ⟨Nat.le_of_ble_eq_true rfl, Nat.le_of_ble_eq_true rfl⟩) (pS hS hAlo hlo hP hK (va_Dlo hD hAlo) hZ [] (by decide) rfl) rfl rfl hl.1 rfl (lv_room (Nat.le_of_ble_eq_true rfl)) dX5_takeClauseWord_16 ⟨Nat.le_of_ble_eq_true rfl, Nat.le_of_ble_eq_true rfl⟩) hS hA hP (fun H locs hP hS => ?_)
            refine rw_i (D := D) (wr := []) (va_runV (As := [.ref (st (100 + 5))]) (rest := []) ⟨hx, hb, hml, hown, hts⟩ ((x_takeWord l D k st lo x0 x1 tz ta__10 na fn fb fx 5 (by omega) (by omega) (by omega)) H.size) (cwV 1 hts (gV tw_399 tw_400 tw_401 tw_80 tw_402) rfl rfl rfl (by decide +kernel) ⟨Nat.le_of_ble_eq_true rfl, Nat.le_of_ble_eq_true rfl⟩) (pV hS hAlo hlo hP hK (va_Dlo hD hAlo) hZ [0, 1] (by decide) rfl (ci := 6) (q0 := 0) rfl rfl) rfl rfl hl.1 rfl (lv_room (Nat.le_of_ble_eq_true rfl)) dX5_takeClauseWord_19 ⟨Nat.le_of_ble_eq_true rfl, Nat.le_of_ble_eq_true rfl⟩) hS hA hP hD [0, 1] [] rfl rfl (by decide) (by decide) (fun r_12 u H locs hw_12 hP hD hS => ?_)
            obtain ⟨ta__12, rfl⟩ : ∃ z, z = u := ⟨_, rfl⟩
            replace hP : va_P D classes [(x0, .inr (6, [.ref x1, .int (nI tz), .int (nI ta__12), .int na, .int fn, .int fb])), (x1, .inl (k 0, 240, .inl fx))] H := hP
            replace hD : va_D A [(x0, .inr (6, [.ref x1, .int (nI tz), .int (nI ta__12), .int na, .int fn, .int fb])), (x1, .inl (k 0, 240, .inl fx))] := hD
            try dsimp only at hw_12
            rcases hw_12 with ⟨rfl | rfl, hw_12⟩
            · refine lv_if_eq (tgt := 27) hx hb dX5_takeClauseWord_22 (by decide) (fun h => absurd h (by decide)) (fun _ => ?_)
              refine lv_iload_n hx hb dX5_takeClauseWord_25 rfl (lv_at hl 0 rfl) ?_
              have hP9 := hP.sub (ws' := [(x0, .inr (6, [.ref x1, .int (nI tz), .int (nI ta__12), .int na, .int fn, .int fb])), (x1, .inl (k 0, 240, .inl fx))]) [0, 1] rfl
              have hD9 := hD.sub (ws' := [(x0, .inr (6, [.ref x1, .int (nI tz), .int (nI ta__12), .int na, .int fn, .int fb])), (x1, .inl (k 0, 240, .inl fx))]) [0, 1] (by decide) rfl
              exact W.iret (v := 5) hx hb hr (fun t ht hW => ⟨⟨5, ta__12, rfl, ⟨.inr ⟨5, by omega, rfl⟩, by omega, by omega⟩, by rw [ht]; exact hP9, hD9⟩, hS.F ht⟩) hS.2.2 dX5_takeClauseWord_26
            · refine lv_if_eq (tgt := 27) hx hb dX5_takeClauseWord_22 (by decide) (fun _ => ?_) (fun h => absurd (by decide) h)
              refine lv_iinc (v := 6) (lv' := [(1, .int 6), (0, .ref x0)]) hx hb dX5_takeClauseWord_27 hl (k := 0) rfl (by decide) (by decide) rfl (fun ls hl => ?_)
              refine lv_goto (tgt := 2) hx hb dX5_takeClauseWord_30 (by decide) ?_
              refine lv_iload_n hx hb dX5_takeClauseWord_2 rfl (lv_at hl 0 rfl) ?_
              refine lv_bipush (v := 10) hx hb dX5_takeClauseWord_3 (by decide) ?_
              refine lv_icmp_ge (tgt := 33) hx hb dX5_takeClauseWord_5 (by decide) (fun h => absurd h (by decide)) (fun _ => ?_)
              refine lv_iload_n hx hb dX5_takeClauseWord_8 rfl (lv_at hl 0 rfl) ?_
              refine lv_bipush (v := 8) hx hb dX5_takeClauseWord_9 (by decide) ?_
              refine lv_icmp_eq (tgt := 27) hx hb dX5_takeClauseWord_11 (by decide) (fun h => absurd h (by decide)) (fun _ => ?_)
              refine lv_aload_n hx hb dX5_takeClauseWord_14 rfl (lv_at hl 1 rfl) ?_
              refine lv_iload_n hx hb dX5_takeClauseWord_15 rfl (lv_at hl 0 rfl) ?_
              refine ro_r (D := D) (va_runS (As := [.int 6]) (rest := [.ref x0]) ⟨hx, hb, hml, hown, hts⟩ ((x_wordOf_6 l D k st lo ) H.size) (va_cwS 1 hts (gS tw_386 tw_387 tw_81 tw_388) rfl rfl rfl (by decide +kernel) ⟨Nat.le_of_ble_eq_true rfl, Nat.le_of_ble_eq_true rfl⟩) (pS hS hAlo hlo hP hK (va_Dlo hD hAlo) hZ [] (by decide) rfl) rfl rfl hl.1 rfl (lv_room (Nat.le_of_ble_eq_true rfl)) dX5_takeClauseWord_16 ⟨Nat.le_of_ble_eq_true rfl, Nat.le_of_ble_eq_true rfl⟩) hS hA hP (fun H locs hP hS => ?_)
              refine rw_i (D := D) (wr := []) (va_runV (As := [.ref (st (100 + 6))]) (rest := []) ⟨hx, hb, hml, hown, hts⟩ ((x_takeWord l D k st lo x0 x1 tz ta__12 na fn fb fx 6 (by omega) (by omega) (by omega)) H.size) (cwV 1 hts (gV tw_399 tw_400 tw_401 tw_80 tw_402) rfl rfl rfl (by decide +kernel) ⟨Nat.le_of_ble_eq_true rfl, Nat.le_of_ble_eq_true rfl⟩) (pV hS hAlo hlo hP hK (va_Dlo hD hAlo) hZ [0, 1] (by decide) rfl (ci := 6) (q0 := 0) rfl rfl) rfl rfl hl.1 rfl (lv_room (Nat.le_of_ble_eq_true rfl)) dX5_takeClauseWord_19 ⟨Nat.le_of_ble_eq_true rfl, Nat.le_of_ble_eq_true rfl⟩) hS hA hP hD [0, 1] [] rfl rfl (by decide) (by decide) (fun r_14 u H locs hw_14 hP hD hS => ?_)
              obtain ⟨ta__14, rfl⟩ : ∃ z, z = u := ⟨_, rfl⟩
              replace hP : va_P D classes [(x0, .inr (6, [.ref x1, .int (nI tz), .int (nI ta__14), .int na, .int fn, .int fb])), (x1, .inl (k 0, 240, .inl fx))] H := hP
              replace hD : va_D A [(x0, .inr (6, [.ref x1, .int (nI tz), .int (nI ta__14), .int na, .int fn, .int fb])), (x1, .inl (k 0, 240, .inl fx))] := hD
              try dsimp only at hw_14
              rcases hw_14 with ⟨rfl | rfl, hw_14⟩
              · refine lv_if_eq (tgt := 27) hx hb dX5_takeClauseWord_22 (by decide) (fun h => absurd h (by decide)) (fun _ => ?_)
                refine lv_iload_n hx hb dX5_takeClauseWord_25 rfl (lv_at hl 0 rfl) ?_
                have hP9 := hP.sub (ws' := [(x0, .inr (6, [.ref x1, .int (nI tz), .int (nI ta__14), .int na, .int fn, .int fb])), (x1, .inl (k 0, 240, .inl fx))]) [0, 1] rfl
                have hD9 := hD.sub (ws' := [(x0, .inr (6, [.ref x1, .int (nI tz), .int (nI ta__14), .int na, .int fn, .int fb])), (x1, .inl (k 0, 240, .inl fx))]) [0, 1] (by decide) rfl
                exact W.iret (v := 6) hx hb hr (fun t ht hW => ⟨⟨6, ta__14, rfl, ⟨.inr ⟨6, by omega, rfl⟩, by omega, by omega⟩, by rw [ht]; exact hP9, hD9⟩, hS.F ht⟩) hS.2.2 dX5_takeClauseWord_26
              · refine lv_if_eq (tgt := 27) hx hb dX5_takeClauseWord_22 (by decide) (fun _ => ?_) (fun h => absurd (by decide) h)
                refine lv_iinc (v := 7) (lv' := [(1, .int 7), (0, .ref x0)]) hx hb dX5_takeClauseWord_27 hl (k := 0) rfl (by decide) (by decide) rfl (fun ls hl => ?_)
                refine lv_goto (tgt := 2) hx hb dX5_takeClauseWord_30 (by decide) ?_
                refine lv_iload_n hx hb dX5_takeClauseWord_2 rfl (lv_at hl 0 rfl) ?_
                refine lv_bipush (v := 10) hx hb dX5_takeClauseWord_3 (by decide) ?_
                refine lv_icmp_ge (tgt := 33) hx hb dX5_takeClauseWord_5 (by decide) (fun h => absurd h (by decide)) (fun _ => ?_)
                refine lv_iload_n hx hb dX5_takeClauseWord_8 rfl (lv_at hl 0 rfl) ?_
                refine lv_bipush (v := 8) hx hb dX5_takeClauseWord_9 (by decide) ?_
                refine lv_icmp_eq (tgt := 27) hx hb dX5_takeClauseWord_11 (by decide) (fun h => absurd h (by decide)) (fun _ => ?_)
                refine lv_aload_n hx hb dX5_takeClauseWord_14 rfl (lv_at hl 1 rfl) ?_
                refine lv_iload_n hx hb dX5_takeClauseWord_15 rfl (lv_at hl 0 rfl) ?_
                refine ro_r (D := D) (va_runS (As := [.int 7]) (rest := [.ref x0]) ⟨hx, hb, hml, hown, hts⟩ ((x_wordOf_7 l D k st lo ) H.size) (va_cwS 1 hts (gS tw_386 tw_387 tw_81 tw_388) rfl rfl rfl (by decide +kernel) ⟨Nat.le_of_ble_eq_true rfl, Nat.le_of_ble_eq_true rfl⟩) (pS hS hAlo hlo hP hK (va_Dlo hD hAlo) hZ [] (by decide) rfl) rfl rfl hl.1 rfl (lv_room (Nat.le_of_ble_eq_true rfl)) dX5_takeClauseWord_16 ⟨Nat.le_of_ble_eq_true rfl, Nat.le_of_ble_eq_true rfl⟩) hS hA hP (fun H locs hP hS => ?_)
                refine rw_i (D := D) (wr := []) (va_runV (As := [.ref (st (100 + 7))]) (rest := []) ⟨hx, hb, hml, hown, hts⟩ ((x_takeWord l D k st lo x0 x1 tz ta__14 na fn fb fx 7 (by omega) (by omega) (by omega)) H.size) (cwV 1 hts (gV tw_399 tw_400 tw_401 tw_80 tw_402) rfl rfl rfl (by decide +kernel) ⟨Nat.le_of_ble_eq_true rfl, Nat.le_of_ble_eq_true rfl⟩) (pV hS hAlo hlo hP hK (va_Dlo hD hAlo) hZ [0, 1] (by decide) rfl (ci := 6) (q0 := 0) rfl rfl) rfl rfl hl.1 rfl (lv_room (Nat.le_of_ble_eq_true rfl)) dX5_takeClauseWord_19 ⟨Nat.le_of_ble_eq_true rfl, Nat.le_of_ble_eq_true rfl⟩) hS hA hP hD [0, 1] [] rfl rfl (by decide) (by decide) (fun r_16 u H locs hw_16 hP hD hS => ?_)
                obtain ⟨ta__16, rfl⟩ : ∃ z, z = u := ⟨_, rfl⟩
                replace hP : va_P D classes [(x0, .inr (6, [.ref x1, .int (nI tz), .int (nI ta__16), .int na, .int fn, .int fb])), (x1, .inl (k 0, 240, .inl fx))] H := hP
                replace hD : va_D A [(x0, .inr (6, [.ref x1, .int (nI tz), .int (nI ta__16), .int na, .int fn, .int fb])), (x1, .inl (k 0, 240, .inl fx))] := hD
                try dsimp only at hw_16
                rcases hw_16 with ⟨rfl | rfl, hw_16⟩
                · refine lv_if_eq (tgt := 27) hx hb dX5_takeClauseWord_22 (by decide) (fun h => absurd h (by decide)) (fun _ => ?_)
                  refine lv_iload_n hx hb dX5_takeClauseWord_25 rfl (lv_at hl 0 rfl) ?_
                  have hP9 := hP.sub (ws' := [(x0, .inr (6, [.ref x1, .int (nI tz), .int (nI ta__16), .int na, .int fn, .int fb])), (x1, .inl (k 0, 240, .inl fx))]) [0, 1] rfl
                  have hD9 := hD.sub (ws' := [(x0, .inr (6, [.ref x1, .int (nI tz), .int (nI ta__16), .int na, .int fn, .int fb])), (x1, .inl (k 0, 240, .inl fx))]) [0, 1] (by decide) rfl
                  exact W.iret (v := 7) hx hb hr (fun t ht hW => ⟨⟨7, ta__16, rfl, ⟨.inr ⟨7, by omega, rfl⟩, by omega, by omega⟩, by rw [ht]; exact hP9, hD9⟩, hS.F ht⟩) hS.2.2 dX5_takeClauseWord_26
                · refine lv_if_eq (tgt := 27) hx hb dX5_takeClauseWord_22 (by decide) (fun _ => ?_) (fun h => absurd (by decide) h)
                  refine lv_iinc (v := 8) (lv' := [(1, .int 8), (0, .ref x0)]) hx hb dX5_takeClauseWord_27 hl (k := 0) rfl (by decide) (by decide) rfl (fun ls hl => ?_)
                  refine lv_goto (tgt := 2) hx hb dX5_takeClauseWord_30 (by decide) ?_
                  refine lv_iload_n hx hb dX5_takeClauseWord_2 rfl (lv_at hl 0 rfl) ?_
                  refine lv_bipush (v := 10) hx hb dX5_takeClauseWord_3 (by decide) ?_
                  refine lv_icmp_ge (tgt := 33) hx hb dX5_takeClauseWord_5 (by decide) (fun h => absurd h (by decide)) (fun _ => ?_)
                  refine lv_iload_n hx hb dX5_takeClauseWord_8 rfl (lv_at hl 0 rfl) ?_
                  refine lv_bipush (v := 8) hx hb dX5_takeClauseWord_9 (by decide) ?_
                  refine lv_icmp_eq (tgt := 27) hx hb dX5_takeClauseWord_11 (by decide) (fun _ => ?_) (fun h => absurd (by decide) h)
                  refine lv_iinc (v := 9) (lv' := [(1, .int 9), (0, .ref x0)]) hx hb dX5_takeClauseWord_27 hl (k := 0) rfl (by decide) (by decide) rfl (fun ls hl => ?_)
                  refine lv_goto (tgt := 2) hx hb dX5_takeClauseWord_30 (by decide) ?_
                  refine lv_iload_n hx hb dX5_takeClauseWord_2 rfl (lv_at hl 0 rfl) ?_
                  refine lv_bipush (v := 10) hx hb dX5_takeClauseWord_3 (by decide) ?_
                  refine lv_icmp_ge (tgt := 33) hx hb dX5_takeClauseWord_5 (by decide) (fun h => absurd h (by decide)) (fun _ => ?_)
                  refine lv_iload_n hx hb dX5_takeClauseWord_8 rfl (lv_at hl 0 rfl) ?_
                  refine lv_bipush (v := 8) hx hb dX5_takeClauseWord_9 (by decide) ?_
                  refine lv_icmp_eq (tgt := 27) hx hb dX5_takeClauseWord_11 (by decide) (fun h => absurd h (by decide)) (fun _ => ?_)
                  refine lv_aload_n hx hb dX5_takeClauseWord_14 rfl (lv_at hl 1 rfl) ?_
                  refine lv_iload_n hx hb dX5_takeClauseWord_15 rfl (lv_at hl 0 rfl) ?_
                  refine ro_r (D := D) (va_runS (As := [.int 9]) (rest := [.ref x0]) ⟨hx, hb, hml, hown, hts⟩ ((x_wordOf_9 l D k st lo ) H.size) (va_cwS 1 hts (gS tw_386 tw_387 tw_81 tw_388) rfl rfl rfl (by decide +kernel) ⟨Nat.le_of_ble_eq_true rfl, Nat.le_of_ble_eq_true rfl⟩) (pS hS hAlo hlo hP hK (va_Dlo hD hAlo) hZ [] (by decide) rfl) rfl rfl hl.1 rfl (lv_room (Nat.le_of_ble_eq_true rfl)) dX5_takeClauseWord_16 ⟨Nat.le_of_ble_eq_true rfl, Nat.le_of_ble_eq_true rfl⟩) hS hA hP (fun H locs hP hS => ?_)
                  refine rw_i (D := D) (wr := []) (va_runV (As := [.ref (st (100 + 9))]) (rest := []) ⟨hx, hb, hml, hown, hts⟩ ((x_takeWord l D k st lo x0 x1 tz ta__16 na fn fb fx 9 (by omega) (by omega) (by omega)) H.size) (cwV 1 hts (gV tw_399 tw_400 tw_401 tw_80 tw_402) rfl rfl rfl (by decide +kernel) ⟨Nat.le_of_ble_eq_true rfl, Nat.le_of_ble_eq_true rfl⟩) (pV hS hAlo hlo hP hK (va_Dlo hD hAlo) hZ [0, 1] (by decide) rfl (ci := 6) (q0 := 0) rfl rfl) rfl rfl hl.1 rfl (lv_room (Nat.le_of_ble_eq_true rfl)) dX5_takeClauseWord_19 ⟨Nat.le_of_ble_eq_true rfl, Nat.le_of_ble_eq_true rfl⟩) hS hA hP hD [0, 1] [] rfl rfl (by decide) (by decide) (fun r_18 u H locs hw_18 hP hD hS => ?_)
                  obtain ⟨ta__18, rfl⟩ : ∃ z, z = u := ⟨_, rfl⟩
                  replace hP : va_P D classes [(x0, .inr (6, [.ref x1, .int (nI tz), .int (nI ta__18), .int na, .int fn, .int fb])), (x1, .inl (k 0, 240, .inl fx))] H := hP
                  replace hD : va_D A [(x0, .inr (6, [.ref x1, .int (nI tz), .int (nI ta__18), .int na, .int fn, .int fb])), (x1, .inl (k 0, 240, .inl fx))] := hD
                  try dsimp only at hw_18
                  rcases hw_18 with ⟨rfl | rfl, hw_18⟩
                  · refine lv_if_eq (tgt := 27) hx hb dX5_takeClauseWord_22 (by decide) (fun h => absurd h (by decide)) (fun _ => ?_)
                    refine lv_iload_n hx hb dX5_takeClauseWord_25 rfl (lv_at hl 0 rfl) ?_
                    have hP9 := hP.sub (ws' := [(x0, .inr (6, [.ref x1, .int (nI tz), .int (nI ta__18), .int na, .int fn, .int fb])), (x1, .inl (k 0, 240, .inl fx))]) [0, 1] rfl
                    have hD9 := hD.sub (ws' := [(x0, .inr (6, [.ref x1, .int (nI tz), .int (nI ta__18), .int na, .int fn, .int fb])), (x1, .inl (k 0, 240, .inl fx))]) [0, 1] (by decide) rfl
                    exact W.iret (v := 9) hx hb hr (fun t ht hW => ⟨⟨9, ta__18, rfl, ⟨.inr ⟨9, by omega, rfl⟩, by omega, by omega⟩, by rw [ht]; exact hP9, hD9⟩, hS.F ht⟩) hS.2.2 dX5_takeClauseWord_26
                  · refine lv_if_eq (tgt := 27) hx hb dX5_takeClauseWord_22 (by decide) (fun _ => ?_) (fun h => absurd (by decide) h)
                    refine lv_iinc (v := 10) (lv' := [(1, .int 10), (0, .ref x0)]) hx hb dX5_takeClauseWord_27 hl (k := 0) rfl (by decide) (by decide) rfl (fun ls hl => ?_)
                    refine lv_goto (tgt := 2) hx hb dX5_takeClauseWord_30 (by decide) ?_
                    refine lv_iload_n hx hb dX5_takeClauseWord_2 rfl (lv_at hl 0 rfl) ?_
                    refine lv_bipush (v := 10) hx hb dX5_takeClauseWord_3 (by decide) ?_
                    refine lv_icmp_ge (tgt := 33) hx hb dX5_takeClauseWord_5 (by decide) (fun _ => ?_) (fun h => absurd (by decide) h)
                    refine lv_iconst (v := (-1)) hx hb dX5_takeClauseWord_33 (by decide) ?_
                    have hP9 := hP.sub (ws' := [(x0, .inr (6, [.ref x1, .int (nI tz), .int (nI ta__18), .int na, .int fn, .int fb])), (x1, .inl (k 0, 240, .inl fx))]) [0, 1] rfl
                    have hD9 := hD.sub (ws' := [(x0, .inr (6, [.ref x1, .int (nI tz), .int (nI ta__18), .int na, .int fn, .int fb])), (x1, .inl (k 0, 240, .inl fx))]) [0, 1] (by decide) rfl
                    exact W.iret (v := (-1)) hx hb hr (fun t ht hW => ⟨⟨(-1), ta__18, rfl, ⟨.inl rfl, by omega, by omega⟩, by rw [ht]; exact hP9, hD9⟩, hS.F ht⟩) hS.2.2 dX5_takeClauseWord_34


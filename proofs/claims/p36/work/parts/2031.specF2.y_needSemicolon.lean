set_option maxHeartbeats 4000000 in
set_option maxRecDepth 100000 in
theorem y_needSemicolon (l : Launch) (D : va_G) (k : Nat → ClassId) (st : Nat → Nat) (lo : Nat) (x0 : Nat) (x1 : Nat) (tz : Nat) (ta : Nat) (na : Int32) (fn : Int32) (fb : Int32) (fx : Nat → Int32) (ht : ta ≤ tz) (hz : tz ≤ 240) : CWv l D k st lo yX6_needSemicolon cX6_needSemicolon 1 none ({ frames := 2, cells := 0, slots := 0, locals := 41 }) 0 0 [.ref x0] [(x0, .inr (6, (fX6 x1 (nI tz) (nI ta) na fn fb))), (aB k x1 240 fx)] (fun (u : Nat × Int32 × Int32) => match u with | (ta_, fn_, fb_) => (¬ fn = 0 → fn_ = fn ∧ fb_ = fb) ∧ (fn = 0 → (fn_ = 0 ∧ smR (bF fx) tz ta = (0, 0, ta_)) ∨ (fn_ = 1 ∧ ∃ pl : Nat, smR (bF fx) tz ta = (1, pl, ta_) ∧ fb_ = nI pl)) ∧ ta ≤ ta_ ∧ ta_ ≤ tz) (fun (u : Nat × Int32 × Int32) => match u with | (ta_, fn_, fb_) => [(x0, .inr (6, (fX6 x1 (nI tz) (nI ta_) na fn_ fb_))), (aB k x1 240 fx)]) := by
  intro sz
  refine Met.ofW (cc := cX6_needSemicolon) (maxL := 1) (ret := none) (by decide) rfl ?_
  intro p e s m args below meth c s₁ B hml hv
  obtain ⟨rfl, hsz, hlo, hP, hK, hDL, hZ⟩ := hv
  have hx := B.exec
  have hb := B.bytes
  have hr := B.returns
  have hts := WS_ts B.pre
  have hown : s.vm.findClass RX6 = some m.cls := findClass_of_methodNamed B.named
  have hlocks := B.notSynchronized
  subst hsz
  have hD := hDL.self (sz := s.heap.size)
  have hAlo := A_lo hDL hlo
  generalize hAe : va_A [(x0, .inr (6, (fX6 x1 (nI tz) (nI ta) na fn fb))), (aB k x1 240 fx)] s.heap.size = A at hD hAlo ⊢
  have hA : ∀ q : Nat, s.heap.size ≤ q → A q := fun q h => by rw [← hAe]; exact Or.inr h
  have hS : va_S A s.heap s.heap [] := va_S.rf
  have hl := lv_entry ([.ref x0]) (n := 1) (Nat.le_of_ble_eq_true rfl)
  rw [lg_entry_eq]
  generalize (lg_sl ([.ref x0]) ++ List.replicate (1 - (lg_sl ([.ref x0])).length) Slot.unset).toArray = ls at hl ⊢
  have hl : lv_has ls 1 [(0, .ref x0)] := hl
  rcases Decidable.em (fn = 0) with rfl | hf0
  · refine lv_aload_n hx hb dX6_needSemicolon_0 rfl (lv_at hl 0 rfl) ?_
    refine rw_v (D := D) (wr := []) (va_runV (As := []) (rest := []) ⟨hx, hb, hml, hown, hts⟩ ((y_skip l D k st lo x0 x1 tz ta na 0 fb fx (by omega) (by omega)) s.heap.size) (cwV 0 hts (gV tw_375 tw_376 tw_377 tw_80 tw_378) rfl rfl rfl (by decide +kernel) ⟨Nat.le_of_ble_eq_true rfl, Nat.le_of_ble_eq_true rfl⟩) (pV hS hAlo hlo hP hK (va_Dlo hD hAlo) hZ [0, 1] (by decide) rfl (ci := 6) (q := (RX6, TX6, 6)) (q0 := 0) rfl rfl) rfl rfl hl.1 rfl (lv_room (Nat.le_of_ble_eq_true rfl)) dX6_needSemicolon_1 ⟨Nat.le_of_ble_eq_true rfl, Nat.le_of_ble_eq_true rfl⟩) hS hA hP hD [0, 1] [] rfl rfl (by decide) (by decide) (fun u H locs hw_1 hP hD hS => ?_)
    obtain ⟨ta__1, rfl⟩ : ∃ z, z = u := ⟨_, rfl⟩
    replace hP : va_P D classes [(x0, .inr (6, (fX6 x1 (nI tz) (nI ta__1) na 0 fb))), (aB k x1 240 fx)] H := hP
    replace hD : va_D A [(x0, .inr (6, (fX6 x1 (nI tz) (nI ta__1) na 0 fb))), (aB k x1 240 fx)] := hD
    try dsimp only at hw_1
    refine lv_aload_n hx hb dX6_needSemicolon_4 rfl (lv_at hl 0 rfl) ?_
    refine lv_aload_n hx hb dX6_needSemicolon_5 rfl (lv_at hl 0 rfl) ?_
    refine va_get (D := D) (ci := 6) (v := .int (nI ta__1)) (C := RX6) (T := TX6) (N := 6) hx hb hts inX6 hown hK hP 0 rfl rfl 2 (by decide) (hts _ tw_113) (fun _ h9 => h9) rfl dX6_needSemicolon_6 ?_
    refine ro_i (D := D) (va_runV (As := [.int (nI ta__1)]) (rest := []) ⟨hx, hb, hml, hown, hts⟩ ((y_byteAt l D k st lo x0 x1 tz ta__1 na 0 fb fx ta__1 (by omega) (by omega)) H.size) (cwV 1 hts (gV tw_379 tw_380 tw_381 tw_80 tw_382) rfl rfl rfl (by decide +kernel) ⟨Nat.le_of_ble_eq_true rfl, Nat.le_of_ble_eq_true rfl⟩) (pV hS hAlo hlo hP hK (va_Dlo hD hAlo) hZ [0, 1] (by decide) rfl (ci := 6) (q := (RX6, TX6, 6)) (q0 := 0) rfl rfl) rfl rfl hl.1 rfl (lv_room (Nat.le_of_ble_eq_true rfl)) dX6_needSemicolon_9 ⟨Nat.le_of_ble_eq_true rfl, Nat.le_of_ble_eq_true rfl⟩) hS hA hP (fun r_2 H locs hw_2 hP hS => ?_)
    try dsimp only at hw_2
    refine lv_bipush (v := 59) hx hb dX6_needSemicolon_12 (by decide) ?_
    refine lv_icmp_ne (tgt := 30) hx hb dX6_needSemicolon_14 (by decide) (fun c_3 => ?_) (fun c_3 => ?_)
    · refine lv_aload_n hx hb dX6_needSemicolon_30 rfl (lv_at hl 0 rfl) ?_
      refine lv_iconst (v := 1) hx hb dX6_needSemicolon_31 (by decide) ?_
      refine lv_aload_n hx hb dX6_needSemicolon_32 rfl (lv_at hl 0 rfl) ?_
      refine va_get (D := D) (ci := 6) (v := .int (nI ta__1)) (C := RX6) (T := TX6) (N := 6) hx hb hts inX6 hown hK hP 0 rfl rfl 2 (by decide) (hts _ tw_113) (fun _ h9 => h9) rfl dX6_needSemicolon_33 ?_
      refine rw_v (D := D) (wr := [(aB k x1 240 fx)]) (va_runV (As := [.int 1, .int (nI ta__1)]) (rest := []) ⟨hx, hb, hml, hown, hts⟩ ((y_fail l D k st lo x0 x1 tz ta__1 na 0 fb 1 (nI ta__1) (by decide)) H.size) (cwV 2 hts (gV tw_476 tw_456 tw_457 tw_80 tw_458) rfl rfl rfl (by decide +kernel) ⟨Nat.le_of_ble_eq_true rfl, Nat.le_of_ble_eq_true rfl⟩) (pV hS hAlo hlo hP hK (va_Dlo hD hAlo) hZ [0] (by decide) rfl (ci := 6) (q := (RX6, TX6, 6)) (q0 := 0) rfl rfl) rfl rfl hl.1 rfl (lv_room (Nat.le_of_ble_eq_true rfl)) dX6_needSemicolon_36 ⟨Nat.le_of_ble_eq_true rfl, Nat.le_of_ble_eq_true rfl⟩) hS hA hP hD [0] [1] rfl rfl (by decide) (by decide) (fun u H locs hw_4 hP hD hS => ?_)
      obtain ⟨fn__4, fb__4⟩ := u
      replace hP : va_P D classes [(aB k x1 240 fx), (x0, .inr (6, (fX6 x1 (nI tz) (nI ta__1) na fn__4 fb__4)))] H := hP
      replace hD : va_D A [(aB k x1 240 fx), (x0, .inr (6, (fX6 x1 (nI tz) (nI ta__1) na fn__4 fb__4)))] := hD
      try dsimp only at hw_4
      obtain ⟨hs0_5, hs1_5⟩ := hw_4.2.1 rfl
      replace hs0_5 := hs0_5.symm
      subst hs0_5
      replace hs1_5 := hs1_5.symm
      subst hs1_5
      have hP9 := hP.sub (ws' := [(x0, .inr (6, (fX6 x1 (nI tz) (nI ta__1) na 1 (nI ta__1)))), (aB k x1 240 fx)]) [1, 0] rfl
      have hD9 := hD.sub (ws' := [(x0, .inr (6, (fX6 x1 (nI tz) (nI ta__1) na 1 (nI ta__1)))), (aB k x1 240 fx)]) [1, 0] (by decide) rfl
      exact W.vret hx hb hr (fun t ht hW => ⟨⟨(ta__1, 1, (nI ta__1)), rfl, ⟨fun h => absurd rfl h, fun _ => .inr ⟨rfl, _, smR_0 hw_1.1 hw_2 c_3, rfl⟩, by omega, by omega⟩, by rw [ht]; exact hP9, hD9⟩, hS.F ht⟩) hS.2.2 dX6_needSemicolon_39
    · have hlt_6 : ta__1 < tz := by rcases Nat.lt_or_ge (ta__1) tz with h | h; exact h; exact absurd (c_3.symm.trans (hw_2.trans (byF_out (by omega)))) (by decide)
      refine lv_aload_n hx hb dX6_needSemicolon_17 rfl (lv_at hl 0 rfl) ?_
      refine lv_dup hx hb dX6_needSemicolon_18 rfl ?_
      refine va_get (D := D) (ci := 6) (v := .int (nI ta__1)) (C := RX6) (T := TX6) (N := 6) hx hb hts inX6 hown hK hP 0 rfl rfl 2 (by decide) (hts _ tw_113) (fun _ h9 => h9) rfl dX6_needSemicolon_19 ?_
      refine lv_iconst (v := 1) hx hb dX6_needSemicolon_22 (by decide) ?_
      refine lv_iadd hx hb dX6_needSemicolon_23 ?_
      refine lv_ti (y := (nI (ta__1 + 1))) (nI_add ta__1 1) ?_
      refine va_put (D := D) (ci := 6) (v := .int (nI (ta__1 + 1))) (ty := .int) (C := RX6) (T := TX6) (N := 6) hx hb hts inX6 tyX6 tyX6_ok nmX6 hown hK hP hD hS 0 rfl rfl 2 (by decide) (hts _ tw_113) (fun _ h9 => h9) rfl (by decide +kernel) rfl rfl (Nat.le_of_ble_eq_true rfl) dX6_needSemicolon_24 (fun H locs hP hD hS => ?_)
      replace hP : va_P D classes [(x0, .inr (6, (fX6 x1 (nI tz) (nI (ta__1 + 1)) na 0 fb))), (aB k x1 240 fx)] H := hP
      replace hD : va_D A [(x0, .inr (6, (fX6 x1 (nI tz) (nI (ta__1 + 1)) na 0 fb))), (aB k x1 240 fx)] := hD
      refine lv_goto (tgt := 39) hx hb dX6_needSemicolon_27 (by decide) ?_
      have hP9 := hP.sub (ws' := [(x0, .inr (6, (fX6 x1 (nI tz) (nI (ta__1 + 1)) na 0 fb))), (aB k x1 240 fx)]) [0, 1] rfl
      have hD9 := hD.sub (ws' := [(x0, .inr (6, (fX6 x1 (nI tz) (nI (ta__1 + 1)) na 0 fb))), (aB k x1 240 fx)]) [0, 1] (by decide) rfl
      exact W.vret hx hb hr (fun t ht hW => ⟨⟨((ta__1 + 1), 0, fb), rfl, ⟨fun h => absurd rfl h, fun _ => .inl ⟨rfl, smR_1 hw_1.1 hw_2 c_3⟩, by omega, by omega⟩, by rw [ht]; exact hP9, hD9⟩, hS.F ht⟩) hS.2.2 dX6_needSemicolon_39
  · refine lv_aload_n hx hb dX6_needSemicolon_0 rfl (lv_at hl 0 rfl) ?_
    refine rw_v (D := D) (wr := []) (va_runV (As := []) (rest := []) ⟨hx, hb, hml, hown, hts⟩ ((y_skip l D k st lo x0 x1 tz ta na fn fb fx (by omega) (by omega)) s.heap.size) (cwV 0 hts (gV tw_375 tw_376 tw_377 tw_80 tw_378) rfl rfl rfl (by decide +kernel) ⟨Nat.le_of_ble_eq_true rfl, Nat.le_of_ble_eq_true rfl⟩) (pV hS hAlo hlo hP hK (va_Dlo hD hAlo) hZ [0, 1] (by decide) rfl (ci := 6) (q := (RX6, TX6, 6)) (q0 := 0) rfl rfl) rfl rfl hl.1 rfl (lv_room (Nat.le_of_ble_eq_true rfl)) dX6_needSemicolon_1 ⟨Nat.le_of_ble_eq_true rfl, Nat.le_of_ble_eq_true rfl⟩) hS hA hP hD [0, 1] [] rfl rfl (by decide) (by decide) (fun u H locs hw_7 hP hD hS => ?_)
    obtain ⟨ta__7, rfl⟩ : ∃ z, z = u := ⟨_, rfl⟩
    replace hP : va_P D classes [(x0, .inr (6, (fX6 x1 (nI tz) (nI ta__7) na fn fb))), (aB k x1 240 fx)] H := hP
    replace hD : va_D A [(x0, .inr (6, (fX6 x1 (nI tz) (nI ta__7) na fn fb))), (aB k x1 240 fx)] := hD
    try dsimp only at hw_7
    refine lv_aload_n hx hb dX6_needSemicolon_4 rfl (lv_at hl 0 rfl) ?_
    refine lv_aload_n hx hb dX6_needSemicolon_5 rfl (lv_at hl 0 rfl) ?_
    refine va_get (D := D) (ci := 6) (v := .int (nI ta__7)) (C := RX6) (T := TX6) (N := 6) hx hb hts inX6 hown hK hP 0 rfl rfl 2 (by decide) (hts _ tw_113) (fun _ h9 => h9) rfl dX6_needSemicolon_6 ?_
    refine ro_i (D := D) (va_runV (As := [.int (nI ta__7)]) (rest := []) ⟨hx, hb, hml, hown, hts⟩ ((y_byteAt l D k st lo x0 x1 tz ta__7 na fn fb fx ta__7 (by omega) (by omega)) H.size) (cwV 1 hts (gV tw_379 tw_380 tw_381 tw_80 tw_382) rfl rfl rfl (by decide +kernel) ⟨Nat.le_of_ble_eq_true rfl, Nat.le_of_ble_eq_true rfl⟩) (pV hS hAlo hlo hP hK (va_Dlo hD hAlo) hZ [0, 1] (by decide) rfl (ci := 6) (q := (RX6, TX6, 6)) (q0 := 0) rfl rfl) rfl rfl hl.1 rfl (lv_room (Nat.le_of_ble_eq_true rfl)) dX6_needSemicolon_9 ⟨Nat.le_of_ble_eq_true rfl, Nat.le_of_ble_eq_true rfl⟩) hS hA hP (fun r_8 H locs hw_8 hP hS => ?_)
    try dsimp only at hw_8
    refine lv_bipush (v := 59) hx hb dX6_needSemicolon_12 (by decide) ?_
    refine lv_icmp_ne (tgt := 30) hx hb dX6_needSemicolon_14 (by decide) (fun c_9 => ?_) (fun c_9 => ?_)
    · refine lv_aload_n hx hb dX6_needSemicolon_30 rfl (lv_at hl 0 rfl) ?_
      refine lv_iconst (v := 1) hx hb dX6_needSemicolon_31 (by decide) ?_
      refine lv_aload_n hx hb dX6_needSemicolon_32 rfl (lv_at hl 0 rfl) ?_
      refine va_get (D := D) (ci := 6) (v := .int (nI ta__7)) (C := RX6) (T := TX6) (N := 6) hx hb hts inX6 hown hK hP 0 rfl rfl 2 (by decide) (hts _ tw_113) (fun _ h9 => h9) rfl dX6_needSemicolon_33 ?_
      refine rw_v (D := D) (wr := [(aB k x1 240 fx)]) (va_runV (As := [.int 1, .int (nI ta__7)]) (rest := []) ⟨hx, hb, hml, hown, hts⟩ ((y_fail l D k st lo x0 x1 tz ta__7 na fn fb 1 (nI ta__7) (by decide)) H.size) (cwV 2 hts (gV tw_476 tw_456 tw_457 tw_80 tw_458) rfl rfl rfl (by decide +kernel) ⟨Nat.le_of_ble_eq_true rfl, Nat.le_of_ble_eq_true rfl⟩) (pV hS hAlo hlo hP hK (va_Dlo hD hAlo) hZ [0] (by decide) rfl (ci := 6) (q := (RX6, TX6, 6)) (q0 := 0) rfl rfl) rfl rfl hl.1 rfl (lv_room (Nat.le_of_ble_eq_true rfl)) dX6_needSemicolon_36 ⟨Nat.le_of_ble_eq_true rfl, Nat.le_of_ble_eq_true rfl⟩) hS hA hP hD [0] [1] rfl rfl (by decide) (by decide) (fun u H locs hw_10 hP hD hS => ?_)
      obtain ⟨fn__10, fb__10⟩ := u
      replace hP : va_P D classes [(aB k x1 240 fx), (x0, .inr (6, (fX6 x1 (nI tz) (nI ta__7) na fn__10 fb__10)))] H := hP
      replace hD : va_D A [(aB k x1 240 fx), (x0, .inr (6, (fX6 x1 (nI tz) (nI ta__7) na fn__10 fb__10)))] := hD
      try dsimp only at hw_10
      obtain ⟨hs0_11, hs1_11⟩ := hw_10.2.2 hf0
      replace hs0_11 := hs0_11.symm
      subst hs0_11
      replace hs1_11 := hs1_11.symm
      subst hs1_11
      have hP9 := hP.sub (ws' := [(x0, .inr (6, (fX6 x1 (nI tz) (nI ta__7) na fn fb))), (aB k x1 240 fx)]) [1, 0] rfl
      have hD9 := hD.sub (ws' := [(x0, .inr (6, (fX6 x1 (nI tz) (nI ta__7) na fn fb))), (aB k x1 240 fx)]) [1, 0] (by decide) rfl
      exact W.vret hx hb hr (fun t ht hW => ⟨⟨(ta__7, fn, fb), rfl, ⟨fun _ => ⟨rfl, rfl⟩, fun h => absurd h hf0, by omega, by omega⟩, by rw [ht]; exact hP9, hD9⟩, hS.F ht⟩) hS.2.2 dX6_needSemicolon_39
    · have hlt_12 : ta__7 < tz := by rcases Nat.lt_or_ge (ta__7) tz with h | h; exact h; exact absurd (c_9.symm.trans (hw_8.trans (byF_out (by omega)))) (by decide)
      refine lv_aload_n hx hb dX6_needSemicolon_17 rfl (lv_at hl 0 rfl) ?_
      refine lv_dup hx hb dX6_needSemicolon_18 rfl ?_
      refine va_get (D := D) (ci := 6) (v := .int (nI ta__7)) (C := RX6) (T := TX6) (N := 6) hx hb hts inX6 hown hK hP 0 rfl rfl 2 (by decide) (hts _ tw_113) (fun _ h9 => h9) rfl dX6_needSemicolon_19 ?_
      refine lv_iconst (v := 1) hx hb dX6_needSemicolon_22 (by decide) ?_
      refine lv_iadd hx hb dX6_needSemicolon_23 ?_
      refine lv_ti (y := (nI (ta__7 + 1))) (nI_add ta__7 1) ?_
      refine va_put (D := D) (ci := 6) (v := .int (nI (ta__7 + 1))) (ty := .int) (C := RX6) (T := TX6) (N := 6) hx hb hts inX6 tyX6 tyX6_ok nmX6 hown hK hP hD hS 0 rfl rfl 2 (by decide) (hts _ tw_113) (fun _ h9 => h9) rfl (by decide +kernel) rfl rfl (Nat.le_of_ble_eq_true rfl) dX6_needSemicolon_24 (fun H locs hP hD hS => ?_)
      replace hP : va_P D classes [(x0, .inr (6, (fX6 x1 (nI tz) (nI (ta__7 + 1)) na fn fb))), (aB k x1 240 fx)] H := hP
      replace hD : va_D A [(x0, .inr (6, (fX6 x1 (nI tz) (nI (ta__7 + 1)) na fn fb))), (aB k x1 240 fx)] := hD
      refine lv_goto (tgt := 39) hx hb dX6_needSemicolon_27 (by decide) ?_
      have hP9 := hP.sub (ws' := [(x0, .inr (6, (fX6 x1 (nI tz) (nI (ta__7 + 1)) na fn fb))), (aB k x1 240 fx)]) [0, 1] rfl
      have hD9 := hD.sub (ws' := [(x0, .inr (6, (fX6 x1 (nI tz) (nI (ta__7 + 1)) na fn fb))), (aB k x1 240 fx)]) [0, 1] (by decide) rfl
      exact W.vret hx hb hr (fun t ht hW => ⟨⟨((ta__7 + 1), fn, fb), rfl, ⟨fun _ => ⟨rfl, rfl⟩, fun h => absurd h hf0, by omega, by omega⟩, by rw [ht]; exact hP9, hD9⟩, hS.F ht⟩) hS.2.2 dX6_needSemicolon_39


set_option maxHeartbeats 4000000 in
set_option maxRecDepth 100000 in
theorem y_needWord (l : Launch) (D : va_G) (k : Nat → ClassId) (st : Nat → Nat) (lo : Nat) (x0 : Nat) (x1 : Nat) (tz : Nat) (ta : Nat) (na : Int32) (fn : Int32) (fb : Int32) (fx : Nat → Int32) (wi : Nat) (ht : ta ≤ tz) (hz : tz ≤ 240) (hwi : wi < 14) : CWv l D k st lo yX6_needWord cX6_needWord 2 none ({ frames := 5, cells := 0, slots := 0, locals := 108 }) 0 0 [.ref x0, .ref (st (100 + wi))] [(x0, .inr (6, (fX6 x1 (nI tz) (nI ta) na fn fb))), (aB k x1 240 fx)] (fun (u : Nat × Int32 × Int32) => match u with | (ta_, fn_, fb_) => (¬ fn = 0 → ta_ = ta ∧ fn_ = fn ∧ fb_ = fb) ∧ (fn = 0 → (fn_ = 0 ∧ wdR (bF fx) tz (sByt.getD wi []) ta = (0, 0, ta_)) ∨ (fn_ = 1 ∧ ∃ pl : Nat, wdR (bF fx) tz (sByt.getD wi []) ta = (1, pl, ta_) ∧ fb_ = nI pl)) ∧ ta ≤ ta_ ∧ ta_ ≤ tz) (fun (u : Nat × Int32 × Int32) => match u with | (ta_, fn_, fb_) => [(x0, .inr (6, (fX6 x1 (nI tz) (nI ta_) na fn_ fb_))), (aB k x1 240 fx)]) := by
  intro sz
  refine Met.ofW (cc := cX6_needWord) (maxL := 2) (ret := none) (by decide) rfl ?_
  intro p e s m args below meth c s₁ B hml hv
  obtain ⟨rfl, hsz, hlo, hP, hK, hDL, hZ⟩ := hv
  have hx := B.exec
  have hb := B.bytes
  have hr := B.returns
  have hts := WS_ts B.pre
  have hown : s.vm.findClass RX6 = some m.cls := findClass_of_methodNamed B.named
  have hlocks := B.notSynchronized
  subst hsz
  have hD := hDL.self (sz := s.heap.size)
  have hAlo := A_lo hDL hlo
  generalize hAe : va_A [(x0, .inr (6, (fX6 x1 (nI tz) (nI ta) na fn fb))), (aB k x1 240 fx)] s.heap.size = A at hD hAlo ⊢
  have hA : ∀ q : Nat, s.heap.size ≤ q → A q := fun q h => by rw [← hAe]; exact Or.inr h
  have hS : va_S A s.heap s.heap [] := va_S.rf
  have hl := lv_entry ([.ref x0, .ref (st (100 + wi))]) (n := 2) (Nat.le_of_ble_eq_true rfl)
  rw [lg_entry_eq]
  generalize (lg_sl ([.ref x0, .ref (st (100 + wi))]) ++ List.replicate (2 - (lg_sl ([.ref x0, .ref (st (100 + wi))])).length) Slot.unset).toArray = ls at hl ⊢
  have hl : lv_has ls 2 [(0, .ref x0), (1, .ref (st (100 + wi)))] := hl
  refine lv_aload_n hx hb dX6_needWord_0 rfl (lv_at hl 0 rfl) ?_
  refine ro_i (D := D) (va_runV (As := []) (rest := []) ⟨hx, hb, hml, hown, hts⟩ ((x_failed l D k st lo x0 x1 tz ta na fn fb) s.heap.size) (cwV 0 hts (gV tw_471 tw_368 tw_369 tw_80 tw_370) rfl rfl rfl (by decide +kernel) ⟨Nat.le_of_ble_eq_true rfl, Nat.le_of_ble_eq_true rfl⟩) (pV hS hAlo hlo hP hK (va_Dlo hD hAlo) hZ [0] (by decide) rfl (ci := 6) (q := (RX6, TX6, 6)) (q0 := 0) rfl rfl) rfl rfl hl.1 rfl (lv_room (Nat.le_of_ble_eq_true rfl)) dX6_needWord_1 ⟨Nat.le_of_ble_eq_true rfl, Nat.le_of_ble_eq_true rfl⟩) hS hA hP (fun r_1 H locs hw_1 hP hS => ?_)
  try dsimp only at hw_1
  rcases hw_1 with ⟨rfl, hw_1⟩ | ⟨rfl, rfl⟩
  · refine lv_if_ne (tgt := 24) hx hb dX6_needWord_4 (by decide) (fun _ => ?_) (fun h => absurd h (by decide))
    have hP9 := hP.sub (ws' := [(x0, .inr (6, (fX6 x1 (nI tz) (nI ta) na fn fb))), (aB k x1 240 fx)]) [0, 1] rfl
    have hD9 := hD.sub (ws' := [(x0, .inr (6, (fX6 x1 (nI tz) (nI ta) na fn fb))), (aB k x1 240 fx)]) [0, 1] (by decide) rfl
    exact W.vret hx hb hr (fun t ht hW => ⟨⟨(ta, fn, fb), rfl, ⟨fun _ => ⟨rfl, rfl, rfl⟩, fun h => absurd h hw_1, by omega, by omega⟩, by rw [ht]; exact hP9, hD9⟩, hS.F ht⟩) hS.2.2 dX6_needWord_24
  · refine lv_if_ne (tgt := 24) hx hb dX6_needWord_4 (by decide) (fun h => absurd (by decide) h) (fun _ => ?_)
    refine lv_aload_n hx hb dX6_needWord_7 rfl (lv_at hl 0 rfl) ?_
    refine lv_aload_n hx hb dX6_needWord_8 rfl (lv_at hl 1 rfl) ?_
    refine rw_i (D := D) (wr := []) (va_runV (As := [.ref (st (100 + wi))]) (rest := []) ⟨hx, hb, hml, hown, hts⟩ ((y_takeWord l D k st lo x0 x1 tz ta na 0 fb fx wi (by omega) (by omega) (by omega)) H.size) (cwV 1 hts (gV tw_486 tw_400 tw_401 tw_80 tw_402) rfl rfl rfl (by decide +kernel) ⟨Nat.le_of_ble_eq_true rfl, Nat.le_of_ble_eq_true rfl⟩) (pV hS hAlo hlo hP hK (va_Dlo hD hAlo) hZ [0, 1] (by decide) rfl (ci := 6) (q := (RX6, TX6, 6)) (q0 := 0) rfl rfl) rfl rfl hl.1 rfl (lv_room (Nat.le_of_ble_eq_true rfl)) dX6_needWord_9 ⟨Nat.le_of_ble_eq_true rfl, Nat.le_of_ble_eq_true rfl⟩) hS hA hP hD [0, 1] [] rfl rfl (by decide) (by decide) (fun r_2 u H locs hw_2 hP hD hS => ?_)
    obtain ⟨ta__2, rfl⟩ : ∃ z, z = u := ⟨_, rfl⟩
    replace hP : va_P D classes [(x0, .inr (6, (fX6 x1 (nI tz) (nI ta__2) na 0 fb))), (aB k x1 240 fx)] H := hP
    replace hD : va_D A [(x0, .inr (6, (fX6 x1 (nI tz) (nI ta__2) na 0 fb))), (aB k x1 240 fx)] := hD
    try dsimp only at hw_2
    rcases hw_2 with ⟨⟨rfl, hL_3, hT_3⟩ | ⟨rfl, hL_3, hT_3⟩, hw_2⟩
    · refine lv_if_ne (tgt := 24) hx hb dX6_needWord_12 (by decide) (fun _ => ?_) (fun h => absurd h (by decide))
      have hP9 := hP.sub (ws' := [(x0, .inr (6, (fX6 x1 (nI tz) (nI ta__2) na 0 fb))), (aB k x1 240 fx)]) [0, 1] rfl
      have hD9 := hD.sub (ws' := [(x0, .inr (6, (fX6 x1 (nI tz) (nI ta__2) na 0 fb))), (aB k x1 240 fx)]) [0, 1] (by decide) rfl
      exact W.vret hx hb hr (fun t ht hW => ⟨⟨(ta__2, 0, fb), rfl, ⟨fun h => absurd rfl h, fun _ => .inl ⟨rfl, wdR_1 hL_3 (by rw [sKl wi hwi]; exact hT_3)⟩, by omega, by omega⟩, by rw [ht]; exact hP9, hD9⟩, hS.F ht⟩) hS.2.2 dX6_needWord_24
    · refine lv_if_ne (tgt := 24) hx hb dX6_needWord_12 (by decide) (fun h => absurd (by decide) h) (fun _ => ?_)
      refine lv_aload_n hx hb dX6_needWord_15 rfl (lv_at hl 0 rfl) ?_
      refine lv_iconst (v := 1) hx hb dX6_needWord_16 (by decide) ?_
      refine lv_aload_n hx hb dX6_needWord_17 rfl (lv_at hl 0 rfl) ?_
      refine va_get (D := D) (ci := 6) (v := .int (nI ta__2)) (C := RX6) (T := TX6) (N := 6) hx hb hts inX6 hown hK hP 0 rfl rfl 2 (by decide) (hts _ tw_113) (fun _ h9 => h9) rfl dX6_needWord_18 ?_
      refine rw_v (D := D) (wr := [(aB k x1 240 fx)]) (va_runV (As := [.int 1, .int (nI ta__2)]) (rest := []) ⟨hx, hb, hml, hown, hts⟩ ((y_fail l D k st lo x0 x1 tz ta__2 na 0 fb 1 (nI ta__2) (by decide)) H.size) (cwV 2 hts (gV tw_476 tw_456 tw_457 tw_80 tw_458) rfl rfl rfl (by decide +kernel) ⟨Nat.le_of_ble_eq_true rfl, Nat.le_of_ble_eq_true rfl⟩) (pV hS hAlo hlo hP hK (va_Dlo hD hAlo) hZ [0] (by decide) rfl (ci := 6) (q := (RX6, TX6, 6)) (q0 := 0) rfl rfl) rfl rfl hl.1 rfl (lv_room (Nat.le_of_ble_eq_true rfl)) dX6_needWord_21 ⟨Nat.le_of_ble_eq_true rfl, Nat.le_of_ble_eq_true rfl⟩) hS hA hP hD [0] [1] rfl rfl (by decide) (by decide) (fun u H locs hw_4 hP hD hS => ?_)
      obtain ⟨fn__4, fb__4⟩ := u
      replace hP : va_P D classes [(aB k x1 240 fx), (x0, .inr (6, (fX6 x1 (nI tz) (nI ta__2) na fn__4 fb__4)))] H := hP
      replace hD : va_D A [(aB k x1 240 fx), (x0, .inr (6, (fX6 x1 (nI tz) (nI ta__2) na fn__4 fb__4)))] := hD
      try dsimp only at hw_4
      obtain ⟨hs0_5, hs1_5⟩ := hw_4.2.1 rfl
      replace hs0_5 := hs0_5.symm
      subst hs0_5
      replace hs1_5 := hs1_5.symm
      subst hs1_5
      have hP9 := hP.sub (ws' := [(x0, .inr (6, (fX6 x1 (nI tz) (nI ta__2) na 1 (nI ta__2)))), (aB k x1 240 fx)]) [1, 0] rfl
      have hD9 := hD.sub (ws' := [(x0, .inr (6, (fX6 x1 (nI tz) (nI ta__2) na 1 (nI ta__2)))), (aB k x1 240 fx)]) [1, 0] (by decide) rfl
      exact W.vret hx hb hr (fun t ht hW => ⟨⟨(ta__2, 1, (nI ta__2)), rfl, ⟨fun h => absurd rfl h, fun _ => .inr ⟨rfl, _, wdR_0 hL_3 hT_3, rfl⟩, by omega, by omega⟩, by rw [ht]; exact hP9, hD9⟩, hS.F ht⟩) hS.2.2 dX6_needWord_24


set_option maxHeartbeats 4000000 in
set_option maxRecDepth 100000 in
theorem y_closeText (l : Launch) (D : va_G) (k : Nat → ClassId) (st : Nat → Nat) (lo : Nat) (a : Nat → Nat) (rk : Nat) (lfa : Int32) (tz : Nat) (ta : Int32) (na : Int32) (fn : Int32) (fb : Int32)  : CWi l D k st lo yX7_closeText cX7_closeText 1 (some .int) ({ frames := 1, cells := 0, slots := 0, locals := 20 }) 0 0 [.ref (a 0)] [((a 0), .inr (7, (fX7 (a 1) (a 3) (a 19) (a 35) (a 40) (nI rk) lfa (a 53) (a 56) (a 63) (a 64) (a 68)))), ((a 1), .inr (6, (fX6 (a 2) (nI tz) ta na fn fb)))] (fun (r : Int32) (u : Int32 × Nat) => match u with | (lfa_, tz_) => tz_ = 0 ∧ (fn = 0 → r = 0 ∧ lfa_ = -1) ∧ (¬ fn = 0 → r = -10 - fn ∧ lfa_ = fb)) (fun (u : Int32 × Nat) => match u with | (lfa_, tz_) => [((a 0), .inr (7, (fX7 (a 1) (a 3) (a 19) (a 35) (a 40) (nI rk) lfa_ (a 53) (a 56) (a 63) (a 64) (a 68)))), ((a 1), .inr (6, (fX6 (a 2) (nI tz_) ta na fn fb)))]) := by
  intro sz
  refine Met.ofW (cc := cX7_closeText) (maxL := 1) (ret := (some .int)) (by decide) rfl ?_
  intro p e s m args below meth c s₁ B hml hv
  obtain ⟨rfl, hsz, hlo, hP, hK, hDL, hZ⟩ := hv
  have hx := B.exec
  have hb := B.bytes
  have hr := B.returns
  have hts := WS_ts B.pre
  have hown : s.vm.findClass RX7 = some m.cls := findClass_of_methodNamed B.named
  have hlocks := B.notSynchronized
  subst hsz
  have hD := hDL.self (sz := s.heap.size)
  have hAlo := A_lo hDL hlo
  generalize hAe : va_A [((a 0), .inr (7, (fX7 (a 1) (a 3) (a 19) (a 35) (a 40) (nI rk) lfa (a 53) (a 56) (a 63) (a 64) (a 68)))), ((a 1), .inr (6, (fX6 (a 2) (nI tz) ta na fn fb)))] s.heap.size = A at hD hAlo ⊢
  have hA : ∀ q : Nat, s.heap.size ≤ q → A q := fun q h => by rw [← hAe]; exact Or.inr h
  have hS : va_S A s.heap s.heap [] := va_S.rf
  have hl := lv_entry ([.ref (a 0)]) (n := 1) (Nat.le_of_ble_eq_true rfl)
  rw [lg_entry_eq]
  generalize (lg_sl ([.ref (a 0)]) ++ List.replicate (1 - (lg_sl ([.ref (a 0)])).length) Slot.unset).toArray = ls at hl ⊢
  have hl : lv_has ls 1 [(0, .ref (a 0))] := hl
  refine lv_aload_n hx hb dX7_closeText_0 rfl (lv_at hl 0 rfl) ?_
  refine va_get (D := D) (ci := 7) (v := .ref (a 1)) (C := RX7) (T := TX7) (N := 12) hx hb hts inX7 hown hK hP 0 rfl rfl 0 (by decide) (hts _ tw_305) (fun _ h9 => h9) rfl dX7_closeText_1 ?_
  refine lv_iconst (v := 0) hx hb dX7_closeText_4 (by decide) ?_
  refine va_put (D := D) (ci := 6) (v := .int 0) (ty := .int) (C := RX6) (T := TX6) (N := 6) hx hb hts inX6 tyX6 tyX6_ok nmX6 hown hK hP hD hS 1 rfl rfl 1 (by decide) (hts _ tw_111) (fun _ h9 => h9) rfl (by decide +kernel) rfl rfl (Nat.le_of_ble_eq_true rfl) dX7_closeText_5 (fun H locs hP hD hS => ?_)
  replace hP : va_P D classes [((a 0), .inr (7, (fX7 (a 1) (a 3) (a 19) (a 35) (a 40) (nI rk) lfa (a 53) (a 56) (a 63) (a 64) (a 68)))), ((a 1), .inr (6, (fX6 (a 2) 0 ta na fn fb)))] H := hP
  replace hD : va_D A [((a 0), .inr (7, (fX7 (a 1) (a 3) (a 19) (a 35) (a 40) (nI rk) lfa (a 53) (a 56) (a 63) (a 64) (a 68)))), ((a 1), .inr (6, (fX6 (a 2) 0 ta na fn fb)))] := hD
  refine lv_aload_n hx hb dX7_closeText_8 rfl (lv_at hl 0 rfl) ?_
  refine va_get (D := D) (ci := 7) (v := .ref (a 1)) (C := RX7) (T := TX7) (N := 12) hx hb hts inX7 hown hK hP 0 rfl rfl 0 (by decide) (hts _ tw_305) (fun _ h9 => h9) rfl dX7_closeText_9 ?_
  refine ro_i (D := D) (va_runV (As := []) (rest := []) ⟨hx, hb, hml, hown, hts⟩ ((x_failed_r l D k st lo (a 1) (a 2) 0 ta na fn fb) H.size) (cwV 0 hts (gV tw_500 tw_368 tw_369 tw_80 tw_370) rfl rfl rfl (by decide +kernel) ⟨Nat.le_of_ble_eq_true rfl, Nat.le_of_ble_eq_true rfl⟩) (pV hS hAlo hlo hP hK (va_Dlo hD hAlo) hZ [1] (by decide) rfl (ci := 6) (q := (RX6, TX6, 6)) (q0 := 0) rfl rfl) rfl rfl hl.1 rfl (lv_room (Nat.le_of_ble_eq_true rfl)) dX7_closeText_12 ⟨Nat.le_of_ble_eq_true rfl, Nat.le_of_ble_eq_true rfl⟩) hS hA hP (fun r_1 H locs hw_1 hP hS => ?_)
  try dsimp only at hw_1
  rcases hw_1 with ⟨rfl, hw_1⟩ | ⟨rfl, rfl⟩
  · refine lv_if_ne (tgt := 25) hx hb dX7_closeText_15 (by decide) (fun _ => ?_) (fun h => absurd h (by decide))
    refine lv_aload_n hx hb dX7_closeText_25 rfl (lv_at hl 0 rfl) ?_
    refine lv_aload_n hx hb dX7_closeText_26 rfl (lv_at hl 0 rfl) ?_
    refine va_get (D := D) (ci := 7) (v := .ref (a 1)) (C := RX7) (T := TX7) (N := 12) hx hb hts inX7 hown hK hP 0 rfl rfl 0 (by decide) (hts _ tw_305) (fun _ h9 => h9) rfl dX7_closeText_27 ?_
    refine va_get (D := D) (ci := 6) (v := .int fb) (C := RX6) (T := TX6) (N := 6) hx hb hts inX6 hown hK hP 1 rfl rfl 5 (by decide) (hts _ tw_122) (fun _ h9 => h9) rfl dX7_closeText_30 ?_
    refine va_put (D := D) (ci := 7) (v := .int fb) (ty := .int) (C := RX7) (T := TX7) (N := 12) hx hb hts inX7 tyX7 tyX7_ok nmX7 hown hK hP hD hS 0 rfl rfl 6 (by decide) (hts _ tw_311) (fun _ h9 => h9) rfl (by decide +kernel) rfl rfl (Nat.le_of_ble_eq_true rfl) dX7_closeText_33 (fun H locs hP hD hS => ?_)
    replace hP : va_P D classes [((a 0), .inr (7, (fX7 (a 1) (a 3) (a 19) (a 35) (a 40) (nI rk) fb (a 53) (a 56) (a 63) (a 64) (a 68)))), ((a 1), .inr (6, (fX6 (a 2) 0 ta na fn fb)))] H := hP
    replace hD : va_D A [((a 0), .inr (7, (fX7 (a 1) (a 3) (a 19) (a 35) (a 40) (nI rk) fb (a 53) (a 56) (a 63) (a 64) (a 68)))), ((a 1), .inr (6, (fX6 (a 2) 0 ta na fn fb)))] := hD
    refine lv_bipush (v := (-10)) hx hb dX7_closeText_36 (by decide) ?_
    refine lv_aload_n hx hb dX7_closeText_38 rfl (lv_at hl 0 rfl) ?_
    refine va_get (D := D) (ci := 7) (v := .ref (a 1)) (C := RX7) (T := TX7) (N := 12) hx hb hts inX7 hown hK hP 0 rfl rfl 0 (by decide) (hts _ tw_305) (fun _ h9 => h9) rfl dX7_closeText_39 ?_
    refine va_get (D := D) (ci := 6) (v := .int fn) (C := RX6) (T := TX6) (N := 6) hx hb hts inX6 hown hK hP 1 rfl rfl 4 (by decide) (hts _ tw_120) (fun _ h9 => h9) rfl dX7_closeText_42 ?_
    refine lv_isub hx hb dX7_closeText_45 ?_
    refine lv_topi (fun x_2 ex_2 => ?_)
    have hP9 := hP.sub (ws' := [((a 0), .inr (7, (fX7 (a 1) (a 3) (a 19) (a 35) (a 40) (nI rk) fb (a 53) (a 56) (a 63) (a 64) (a 68)))), ((a 1), .inr (6, (fX6 (a 2) 0 ta na fn fb)))]) [0, 1] rfl
    have hD9 := hD.sub (ws' := [((a 0), .inr (7, (fX7 (a 1) (a 3) (a 19) (a 35) (a 40) (nI rk) fb (a 53) (a 56) (a 63) (a 64) (a 68)))), ((a 1), .inr (6, (fX6 (a 2) 0 ta na fn fb)))]) [0, 1] (by decide) rfl
    exact W.iret (v := x_2) hx hb hr (fun t ht hW => ⟨⟨x_2, (fb, 0), rfl, ⟨rfl, fun h => absurd h hw_1, fun _ => ⟨ex_2, rfl⟩⟩, by rw [ht]; exact hP9, hD9⟩, hS.F ht⟩) hS.2.2 dX7_closeText_46
  · refine lv_if_ne (tgt := 25) hx hb dX7_closeText_15 (by decide) (fun h => absurd (by decide) h) (fun _ => ?_)
    refine lv_aload_n hx hb dX7_closeText_18 rfl (lv_at hl 0 rfl) ?_
    refine lv_iconst (v := (-1)) hx hb dX7_closeText_19 (by decide) ?_
    refine va_put (D := D) (ci := 7) (v := .int (-1)) (ty := .int) (C := RX7) (T := TX7) (N := 12) hx hb hts inX7 tyX7 tyX7_ok nmX7 hown hK hP hD hS 0 rfl rfl 6 (by decide) (hts _ tw_311) (fun _ h9 => h9) rfl (by decide +kernel) rfl rfl (Nat.le_of_ble_eq_true rfl) dX7_closeText_20 (fun H locs hP hD hS => ?_)
    replace hP : va_P D classes [((a 0), .inr (7, (fX7 (a 1) (a 3) (a 19) (a 35) (a 40) (nI rk) (-1) (a 53) (a 56) (a 63) (a 64) (a 68)))), ((a 1), .inr (6, (fX6 (a 2) 0 ta na 0 fb)))] H := hP
    replace hD : va_D A [((a 0), .inr (7, (fX7 (a 1) (a 3) (a 19) (a 35) (a 40) (nI rk) (-1) (a 53) (a 56) (a 63) (a 64) (a 68)))), ((a 1), .inr (6, (fX6 (a 2) 0 ta na 0 fb)))] := hD
    refine lv_iconst (v := 0) hx hb dX7_closeText_23 (by decide) ?_
    have hP9 := hP.sub (ws' := [((a 0), .inr (7, (fX7 (a 1) (a 3) (a 19) (a 35) (a 40) (nI rk) (-1) (a 53) (a 56) (a 63) (a 64) (a 68)))), ((a 1), .inr (6, (fX6 (a 2) 0 ta na 0 fb)))]) [0, 1] rfl
    have hD9 := hD.sub (ws' := [((a 0), .inr (7, (fX7 (a 1) (a 3) (a 19) (a 35) (a 40) (nI rk) (-1) (a 53) (a 56) (a 63) (a 64) (a 68)))), ((a 1), .inr (6, (fX6 (a 2) 0 ta na 0 fb)))]) [0, 1] (by decide) rfl
    exact W.iret (v := 0) hx hb hr (fun t ht hW => ⟨⟨0, ((-1), 0), rfl, ⟨rfl, fun _ => ⟨rfl, rfl⟩, fun h => absurd rfl h⟩, by rw [ht]; exact hP9, hD9⟩, hS.F ht⟩) hS.2.2 dX7_closeText_24


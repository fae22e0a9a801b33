
set_option maxHeartbeats 4000000 in
set_option maxRecDepth 100000 in
theorem y_thought (l : Launch) (D : va_G) (k : Nat → ClassId) (st : Nat → Nat) (lo : Nat) (a : Nat → Nat) (rk : Nat) (lfa : Int32) (n0 : Nat) (see0 : Nat) (tm0 : Nat) (g0 : Nat → Int32) (ff0 : Nat → Int32) (fp0 : Nat → Int32) (n1 : Nat) (see1 : Nat) (tm1 : Nat) (g1 : Nat → Int32) (ff1 : Nat → Int32) (fp1 : Nat → Int32) (n2 : Nat) (see2 : Nat) (tm2 : Nat) (g2 : Nat → Int32) (ff2 : Nat → Int32) (fp2 : Nat → Int32) (cc : Nat) (rz : Nat) (ro : Int32) (sd : Int32) (wt : Int32) (wc : Int32) (p0 : Int32) (p1 : Int32) (fr : Nat → Int32) (hn0 : n0 ≤ 24) (hse0 : see0 ≤ 2) (htm0 : tm0 ≤ 3) (hn1 : n1 ≤ 24) (hse1 : see1 ≤ 2) (htm1 : tm1 ≤ 3) (hn2 : n2 ≤ 24) (hse2 : see2 ≤ 2) (htm2 : tm2 ≤ 3) (hok : ∀ i, i < 3 → okD ((d3 (sdX n0 see0 tm0 g0 ff0 fp0) (sdX n1 see1 tm1 g1 ff1 fp1) (sdX n2 see2 tm2 g2 ff2 fp2)) i)) (hrz : rz ≤ 24) (hro : ro = nI (rowN fr rz)) : CRi l D k st lo yX7_thought cX7_thought 3 (some .int) ({ frames := 4, cells := 0, slots := 0, locals := 140 }) [.ref (a 0), .int p0, .int p1] [((a 0), .inr (7, (fX7 (a 1) (a 3) (a 19) (a 35) (a 40) (nI rk) lfa (a 53) (a 56) (a 63) (a 64) (a 68)))), ((a 3), .inl (k 3, 3, .inr (.inr (.inr (.inr (a3 (a 4) (a 9) (a 14))))))), ((a 4), .inr (5, (fX5 (a 5) (a 6) (a 7) (a 8)))), (aI k (a 5) 10 (vv n0 see0 tm0 g0)), (aI k (a 6) 24 ff0), (aI k (a 7) 24 fp0), ((a 9), .inr (5, (fX5 (a 10) (a 11) (a 12) (a 13)))), (aI k (a 10) 10 (vv n1 see1 tm1 g1)), (aI k (a 11) 24 ff1), (aI k (a 12) 24 fp1), ((a 14), .inr (5, (fX5 (a 15) (a 16) (a 17) (a 18)))), (aI k (a 15) 10 (vv n2 see2 tm2 g2)), (aI k (a 16) 24 ff2), (aI k (a 17) 24 fp2), ((a 53), .inr (4, (fX4 (a 54) (a 55) (nI cc) (nI rz) ro sd))), ((a 64), .inr (2, (fX2 (a 65) (a 66) (a 67) wt wc)))] (fun r => thP (d3 (sdX n0 see0 tm0 g0 ff0 fp0) (sdX n1 see1 tm1 g1 ff1 fp1) (sdX n2 see2 tm2 g2 ff2 fp2)) p0 p1 fr rz r) := by
  intro sz
  refine Met.ofW (cc := cX7_thought) (maxL := 3) (ret := (some .int)) (by decide) rfl ?_
  intro p e s m args below meth c s₁ B hml hv
  obtain ⟨rfl, hsz, hlo, hP, hK, hDL, hZ⟩ := hv
  have hx := B.exec
  have hb := B.bytes
  have hr := B.returns
  have hts := WS_ts B.pre
  have hown : s.vm.findClass RX7 = some m.cls := findClass_of_methodNamed B.named
  have hlocks := B.notSynchronized
  subst hsz
  have hA : ∀ q : Nat, s.heap.size ≤ q → (fun q : Nat => s.heap.size ≤ q) q := fun _ h => h
  have hAlo : ∀ q : Nat, (fun q : Nat => s.heap.size ≤ q) q → lo ≤ q := fun q h => Nat.le_trans hlo h
  have hS : va_S (fun q : Nat => s.heap.size ≤ q) s.heap s.heap [] := va_S.rf
  have hl := lv_entry ([.ref (a 0), .int p0, .int p1]) (n := 3) (Nat.le_of_ble_eq_true rfl)
  rw [lg_entry_eq]
  generalize (lg_sl ([.ref (a 0), .int p0, .int p1]) ++ List.replicate (3 - (lg_sl ([.ref (a 0), .int p0, .int p1])).length) Slot.unset).toArray = ls at hl ⊢
  have hl : lv_has ls 3 [(0, .ref (a 0)), (1, .int p0), (2, .int p1)] := hl
  refine lv_aload_n hx hb dX7_thought_0 rfl (lv_at hl 0 rfl) ?_
  refine lv_iload_n hx hb dX7_thought_1 rfl (lv_at hl 1 rfl) ?_
  refine ro_i (D := D) (va_runV (As := [.int p0]) (rest := []) ⟨hx, hb, hml, hown, hts⟩ ((y_isStreet l D k st lo a rk lfa n0 see0 tm0 g0 n1 see1 tm1 g1 n2 see2 tm2 g2 p0 (by first | assumption | omega) (by first | assumption | omega) (by first | assumption | omega)) s.heap.size) (cwV 1 hts (gV tw_589 tw_591 tw_8 tw_79 tw_592) rfl rfl rfl (by decide +kernel) ⟨Nat.le_of_ble_eq_true rfl, Nat.le_of_ble_eq_true rfl⟩) (pV hS hAlo hlo hP hK hDL hZ [0, 1, 2, 3, 6, 7, 10, 11] (by decide) rfl (ci := 7) (q := (RX7, TX7, 12)) (q0 := 0) rfl rfl) rfl rfl hl.1 rfl (lv_room (Nat.le_of_ble_eq_true rfl)) dX7_thought_2 ⟨Nat.le_of_ble_eq_true rfl, Nat.le_of_ble_eq_true rfl⟩) hS hA hP (fun r_1 H locs hw_1 hP hS => ?_)
  try dsimp only at hw_1
  rcases hw_1 with ⟨rfl, ⟨rfl, hw_1⟩ | ⟨rfl, hw_1⟩ | ⟨rfl, hw_1⟩⟩ | ⟨rfl, hw_1⟩
  · refine lv_if_eq (tgt := 16) hx hb dX7_thought_5 (by decide) (fun h => absurd h (by decide)) (fun _ => ?_)
    refine lv_aload_n hx hb dX7_thought_8 rfl (lv_at hl 0 rfl) ?_
    refine lv_iload_n hx hb dX7_thought_9 rfl (lv_at hl 2 rfl) ?_
    refine ro_i (D := D) (va_runV (As := [.int p1]) (rest := []) ⟨hx, hb, hml, hown, hts⟩ ((y_isStreet l D k st lo a rk lfa n0 see0 tm0 g0 n1 see1 tm1 g1 n2 see2 tm2 g2 p1 (by first | assumption | omega) (by first | assumption | omega) (by first | assumption | omega)) H.size) (cwV 1 hts (gV tw_589 tw_591 tw_8 tw_79 tw_592) rfl rfl rfl (by decide +kernel) ⟨Nat.le_of_ble_eq_true rfl, Nat.le_of_ble_eq_true rfl⟩) (pV hS hAlo hlo hP hK hDL hZ [0, 1, 2, 3, 6, 7, 10, 11] (by decide) rfl (ci := 7) (q := (RX7, TX7, 12)) (q0 := 0) rfl rfl) rfl rfl hl.1 rfl (lv_room (Nat.le_of_ble_eq_true rfl)) dX7_thought_10 ⟨Nat.le_of_ble_eq_true rfl, Nat.le_of_ble_eq_true rfl⟩) hS hA hP (fun r_2 H locs hw_2 hP hS => ?_)
    try dsimp only at hw_2
    rcases hw_2 with ⟨rfl, ⟨rfl, hw_2⟩ | ⟨rfl, hw_2⟩ | ⟨rfl, hw_2⟩⟩ | ⟨rfl, hw_2⟩
    · refine lv_if_ne (tgt := 20) hx hb dX7_thought_13 (by decide) (fun _ => ?_) (fun h => absurd h (by decide))
      refine lv_aload_n hx hb dX7_thought_20 rfl (lv_at hl 0 rfl) ?_
      refine va_get (D := D) (ci := 7) (v := .ref (a 64)) (C := RX7) (T := TX7) (N := 12) hx hb hts inX7 hown hK hP 0 rfl rfl 10 (by decide) (hts _ tw_315) (fun _ h9 => h9) rfl dX7_thought_21 ?_
      refine lv_aload_n hx hb dX7_thought_24 rfl (lv_at hl 0 rfl) ?_
      refine va_get (D := D) (ci := 7) (v := .ref (a 3)) (C := RX7) (T := TX7) (N := 12) hx hb hts inX7 hown hK hP 0 rfl rfl 1 (by decide) (hts _ tw_306) (fun _ h9 => h9) rfl dX7_thought_25 ?_
      refine lv_iload_n hx hb dX7_thought_28 rfl (lv_at hl 1 rfl) ?_
      refine va_aldq hx hb hK hP 1 3 rfl rfl (by unfold vp_in; decide) dX7_thought_29 ?_
      refine lv_tr (y := .ref (a 4)) rfl ?_
      refine lv_aload_n hx hb dX7_thought_30 rfl (lv_at hl 0 rfl) ?_
      refine va_get (D := D) (ci := 7) (v := .ref (a 3)) (C := RX7) (T := TX7) (N := 12) hx hb hts inX7 hown hK hP 0 rfl rfl 1 (by decide) (hts _ tw_306) (fun _ h9 => h9) rfl dX7_thought_31 ?_
      refine lv_iload_n hx hb dX7_thought_34 rfl (lv_at hl 2 rfl) ?_
      refine va_aldq hx hb hK hP 1 3 rfl rfl (by unfold vp_in; decide) dX7_thought_35 ?_
      refine lv_tr (y := .ref (a 4)) rfl ?_
      refine lv_aload_n hx hb dX7_thought_36 rfl (lv_at hl 0 rfl) ?_
      refine va_get (D := D) (ci := 7) (v := .ref (a 53)) (C := RX7) (T := TX7) (N := 12) hx hb hts inX7 hown hK hP 0 rfl rfl 7 (by decide) (hts _ tw_312) (fun _ h9 => h9) rfl dX7_thought_37 ?_
      refine ro_i (D := D) (va_runV (As := [.ref (a 4), .ref (a 4), .ref (a 53)]) (rest := []) ⟨hx, hb, hml, hown, hts⟩ ((y_thoughtOf1 l D k st lo (a 64) (a 65) (a 66) (a 67) wt wc (a 4) (a 5) (a 6) (a 7) (a 8) n0 see0 tm0 g0 ff0 fp0 (a 53) (a 54) (a 55) cc rz ro sd fr (by first | assumption | omega) (by first | assumption | omega) hro (hok 0 (by omega))) H.size) (cwV 3 hts (gV tw_765 tw_766 tw_767 tw_83 tw_768) rfl rfl rfl (by decide +kernel) ⟨Nat.le_of_ble_eq_true rfl, Nat.le_of_ble_eq_true rfl⟩) (pV hS hAlo hlo hP hK hDL hZ [15, 2, 3, 4, 5, 14] (by decide) rfl (ci := 2) (q := (RX2, TX2, 5)) (q0 := 0) rfl rfl) rfl rfl hl.1 rfl (lv_room (Nat.le_of_ble_eq_true rfl)) dX7_thought_40 ⟨Nat.le_of_ble_eq_true rfl, Nat.le_of_ble_eq_true rfl⟩) hS hA hP (fun r_3 H locs hw_3 hP hS => ?_)
      try dsimp only at hw_3
      exact W.iret (v := r_3) hx hb hr (fun t ht hW => ⟨⟨r_3, (), rfl, th_at (s := 0) (t := 0) (by omega) (by omega) (show 0 < n0 by omega) (show 0 < n0 by omega) hw_3, trivial⟩, hS.F ht⟩) hS.2.2 dX7_thought_43
    · refine lv_if_ne (tgt := 20) hx hb dX7_thought_13 (by decide) (fun _ => ?_) (fun h => absurd h (by decide))
      refine lv_aload_n hx hb dX7_thought_20 rfl (lv_at hl 0 rfl) ?_
      refine va_get (D := D) (ci := 7) (v := .ref (a 64)) (C := RX7) (T := TX7) (N := 12) hx hb hts inX7 hown hK hP 0 rfl rfl 10 (by decide) (hts _ tw_315) (fun _ h9 => h9) rfl dX7_thought_21 ?_
      refine lv_aload_n hx hb dX7_thought_24 rfl (lv_at hl 0 rfl) ?_
      refine va_get (D := D) (ci := 7) (v := .ref (a 3)) (C := RX7) (T := TX7) (N := 12) hx hb hts inX7 hown hK hP 0 rfl rfl 1 (by decide) (hts _ tw_306) (fun _ h9 => h9) rfl dX7_thought_25 ?_
      refine lv_iload_n hx hb dX7_thought_28 rfl (lv_at hl 1 rfl) ?_
      refine va_aldq hx hb hK hP 1 3 rfl rfl (by unfold vp_in; decide) dX7_thought_29 ?_
      refine lv_tr (y := .ref (a 4)) rfl ?_
      refine lv_aload_n hx hb dX7_thought_30 rfl (lv_at hl 0 rfl) ?_
      refine va_get (D := D) (ci := 7) (v := .ref (a 3)) (C := RX7) (T := TX7) (N := 12) hx hb hts inX7 hown hK hP 0 rfl rfl 1 (by decide) (hts _ tw_306) (fun _ h9 => h9) rfl dX7_thought_31 ?_
      refine lv_iload_n hx hb dX7_thought_34 rfl (lv_at hl 2 rfl) ?_
      refine va_aldq hx hb hK hP 1 3 rfl rfl (by unfold vp_in; decide) dX7_thought_35 ?_
      refine lv_tr (y := .ref (a 9)) rfl ?_
      refine lv_aload_n hx hb dX7_thought_36 rfl (lv_at hl 0 rfl) ?_
      refine va_get (D := D) (ci := 7) (v := .ref (a 53)) (C := RX7) (T := TX7) (N := 12) hx hb hts inX7 hown hK hP 0 rfl rfl 7 (by decide) (hts _ tw_312) (fun _ h9 => h9) rfl dX7_thought_37 ?_
      refine ro_i (D := D) (va_runV (As := [.ref (a 4), .ref (a 9), .ref (a 53)]) (rest := []) ⟨hx, hb, hml, hown, hts⟩ ((y_thoughtOf l D k st lo (a 64) (a 65) (a 66) (a 67) wt wc (a 4) (a 5) (a 6) (a 7) (a 8) n0 see0 tm0 g0 ff0 fp0 (a 9) (a 10) (a 11) (a 12) (a 13) n1 see1 tm1 g1 ff1 fp1 (a 53) (a 54) (a 55) cc rz ro sd fr (by first | assumption | omega) (by first | assumption | omega) (by first | assumption | omega) hro (hok 0 (by omega)) (hok 1 (by omega))) H.size) (cwV 3 hts (gV tw_765 tw_766 tw_767 tw_83 tw_768) rfl rfl rfl (by decide +kernel) ⟨Nat.le_of_ble_eq_true rfl, Nat.le_of_ble_eq_true rfl⟩) (pV hS hAlo hlo hP hK hDL hZ [15, 2, 3, 4, 5, 6, 7, 8, 9, 14] (by decide +kernel) rfl (ci := 2) (q := (RX2, TX2, 5)) (q0 := 0) rfl rfl) rfl rfl hl.1 rfl (lv_room (Nat.le_of_ble_eq_true rfl)) dX7_thought_40 ⟨Nat.le_of_ble_eq_true rfl, Nat.le_of_ble_eq_true rfl⟩) hS hA hP (fun r_4 H locs hw_4 hP hS => ?_)
      try dsimp only at hw_4
      exact W.iret (v := r_4) hx hb hr (fun t ht hW => ⟨⟨r_4, (), rfl, th_at (s := 0) (t := 1) (by omega) (by omega) (show 0 < n0 by omega) (show 0 < n1 by omega) hw_4, trivial⟩, hS.F ht⟩) hS.2.2 dX7_thought_43
    · refine lv_if_ne (tgt := 20) hx hb dX7_thought_13 (by decide) (fun _ => ?_) (fun h => absurd h (by decide))
      refine lv_aload_n hx hb dX7_thought_20 rfl (lv_at hl 0 rfl) ?_
      refine va_get (D := D) (ci := 7) (v := .ref (a 64)) (C := RX7) (T := TX7) (N := 12) hx hb hts inX7 hown hK hP 0 rfl rfl 10 (by decide) (hts _ tw_315) (fun _ h9 => h9) rfl dX7_thought_21 ?_
      refine lv_aload_n hx hb dX7_thought_24 rfl (lv_at hl 0 rfl) ?_
      refine va_get (D := D) (ci := 7) (v := .ref (a 3)) (C := RX7) (T := TX7) (N := 12) hx hb hts inX7 hown hK hP 0 rfl rfl 1 (by decide) (hts _ tw_306) (fun _ h9 => h9) rfl dX7_thought_25 ?_
      refine lv_iload_n hx hb dX7_thought_28 rfl (lv_at hl 1 rfl) ?_
      refine va_aldq hx hb hK hP 1 3 rfl rfl (by unfold vp_in; decide) dX7_thought_29 ?_
      refine lv_tr (y := .ref (a 4)) rfl ?_
      refine lv_aload_n hx hb dX7_thought_30 rfl (lv_at hl 0 rfl) ?_
      refine va_get (D := D) (ci := 7) (v := .ref (a 3)) (C := RX7) (T := TX7) (N := 12) hx hb hts inX7 hown hK hP 0 rfl rfl 1 (by decide) (hts _ tw_306) (fun _ h9 => h9) rfl dX7_thought_31 ?_
      refine lv_iload_n hx hb dX7_thought_34 rfl (lv_at hl 2 rfl) ?_
      refine va_aldq hx hb hK hP 1 3 rfl rfl (by unfold vp_in; decide) dX7_thought_35 ?_
      refine lv_tr (y := .ref (a 14)) rfl ?_
      refine lv_aload_n hx hb dX7_thought_36 rfl (lv_at hl 0 rfl) ?_
      refine va_get (D := D) (ci := 7) (v := .ref (a 53)) (C := RX7) (T := TX7) (N := 12) hx hb hts inX7 hown hK hP 0 rfl rfl 7 (by decide) (hts _ tw_312) (fun _ h9 => h9) rfl dX7_thought_37 ?_
      refine ro_i (D := D) (va_runV (As := [.ref (a 4), .ref (a 14), .ref (a 53)]) (rest := []) ⟨hx, hb, hml, hown, hts⟩ ((y_thoughtOf l D k st lo (a 64) (a 65) (a 66) (a 67) wt wc (a 4) (a 5) (a 6) (a 7) (a 8) n0 see0 tm0 g0 ff0 fp0 (a 14) (a 15) (a 16) (a 17) (a 18) n2 see2 tm2 g2 ff2 fp2 (a 53) (a 54) (a 55) cc rz ro sd fr (by first | assumption | omega) (by first | assumption | omega) (by first | assumption | omega) hro (hok 0 (by omega)) (hok 2 (by omega))) H.size) (cwV 3 hts (gV tw_765 tw_766 tw_767 tw_83 tw_768) rfl rfl rfl (by decide +kernel) ⟨Nat.le_of_ble_eq_true rfl, Nat.le_of_ble_eq_true rfl⟩) (pV hS hAlo hlo hP hK hDL hZ [15, 2, 3, 4, 5, 10, 11, 12, 13, 14] (by decide +kernel) rfl (ci := 2) (q := (RX2, TX2, 5)) (q0 := 0) rfl rfl) rfl rfl hl.1 rfl (lv_room (Nat.le_of_ble_eq_true rfl)) dX7_thought_40 ⟨Nat.le_of_ble_eq_true rfl, Nat.le_of_ble_eq_true rfl⟩) hS hA hP (fun r_5 H locs hw_5 hP hS => ?_)
      try dsimp only at hw_5
      exact W.iret (v := r_5) hx hb hr (fun t ht hW => ⟨⟨r_5, (), rfl, th_at (s := 0) (t := 2) (by omega) (by omega) (show 0 < n0 by omega) (show 0 < n2 by omega) hw_5, trivial⟩, hS.F ht⟩) hS.2.2 dX7_thought_43
    · refine lv_if_ne (tgt := 20) hx hb dX7_thought_13 (by decide) (fun h => absurd (by decide) h) (fun _ => ?_)
      refine lv_sipush (v := (-1001)) hx hb dX7_thought_16 (by decide) ?_
      exact W.iret (v := (-1001)) hx hb hr (fun t ht hW => ⟨⟨(-1001), (), rfl, th_no1 (fun s h1 h2 h3 => hw_2 s h1 h2 (by rw [d3_n] at h3; exact h3)), trivial⟩, hS.F ht⟩) hS.2.2 dX7_thought_19
  · refine lv_if_eq (tgt := 16) hx hb dX7_thought_5 (by decide) (fun h => absurd h (by decide)) (fun _ => ?_)
    refine lv_aload_n hx hb dX7_thought_8 rfl (lv_at hl 0 rfl) ?_
    refine lv_iload_n hx hb dX7_thought_9 rfl (lv_at hl 2 rfl) ?_
    refine ro_i (D := D) (va_runV (As := [.int p1]) (rest := []) ⟨hx, hb, hml, hown, hts⟩ ((y_isStreet l D k st lo a rk lfa n0 see0 tm0 g0 n1 see1 tm1 g1 n2 see2 tm2 g2 p1 (by first | assumption | omega) (by first | assumption | omega) (by first | assumption | omega)) H.size) (cwV 1 hts (gV tw_589 tw_591 tw_8 tw_79 tw_592) rfl rfl rfl (by decide +kernel) ⟨Nat.le_of_ble_eq_true rfl, Nat.le_of_ble_eq_true rfl⟩) (pV hS hAlo hlo hP hK hDL hZ [0, 1, 2, 3, 6, 7, 10, 11] (by decide) rfl (ci := 7) (q := (RX7, TX7, 12)) (q0 := 0) rfl rfl) rfl rfl hl.1 rfl (lv_room (Nat.le_of_ble_eq_true rfl)) dX7_thought_10 ⟨Nat.le_of_ble_eq_true rfl, Nat.le_of_ble_eq_true rfl⟩) hS hA hP (fun r_6 H locs hw_6 hP hS => ?_)
    try dsimp only at hw_6
    rcases hw_6 with ⟨rfl, ⟨rfl, hw_6⟩ | ⟨rfl, hw_6⟩ | ⟨rfl, hw_6⟩⟩ | ⟨rfl, hw_6⟩
    · refine lv_if_ne (tgt := 20) hx hb dX7_thought_13 (by decide) (fun _ => ?_) (fun h => absurd h (by decide))
      refine lv_aload_n hx hb dX7_thought_20 rfl (lv_at hl 0 rfl) ?_
      refine va_get (D := D) (ci := 7) (v := .ref (a 64)) (C := RX7) (T := TX7) (N := 12) hx hb hts inX7 hown hK hP 0 rfl rfl 10 (by decide) (hts _ tw_315) (fun _ h9 => h9) rfl dX7_thought_21 ?_
      refine lv_aload_n hx hb dX7_thought_24 rfl (lv_at hl 0 rfl) ?_
      refine va_get (D := D) (ci := 7) (v := .ref (a 3)) (C := RX7) (T := TX7) (N := 12) hx hb hts inX7 hown hK hP 0 rfl rfl 1 (by decide) (hts _ tw_306) (fun _ h9 => h9) rfl dX7_thought_25 ?_
      refine lv_iload_n hx hb dX7_thought_28 rfl (lv_at hl 1 rfl) ?_
      refine va_aldq hx hb hK hP 1 3 rfl rfl (by unfold vp_in; decide) dX7_thought_29 ?_
      refine lv_tr (y := .ref (a 9)) rfl ?_
      refine lv_aload_n hx hb dX7_thought_30 rfl (lv_at hl 0 rfl) ?_
      refine va_get (D := D) (ci := 7) (v := .ref (a 3)) (C := RX7) (T := TX7) (N := 12) hx hb hts inX7 hown hK hP 0 rfl rfl 1 (by decide) (hts _ tw_306) (fun _ h9 => h9) rfl dX7_thought_31 ?_
      refine lv_iload_n hx hb dX7_thought_34 rfl (lv_at hl 2 rfl) ?_
      refine va_aldq hx hb hK hP 1 3 rfl rfl (by unfold vp_in; decide) dX7_thought_35 ?_
      refine lv_tr (y := .ref (a 4)) rfl ?_
      refine lv_aload_n hx hb dX7_thought_36 rfl (lv_at hl 0 rfl) ?_
      refine va_get (D := D) (ci := 7) (v := .ref (a 53)) (C := RX7) (T := TX7) (N := 12) hx hb hts inX7 hown hK hP 0 rfl rfl 7 (by decide) (hts _ tw_312) (fun _ h9 => h9) rfl dX7_thought_37 ?_
      refine ro_i (D := D) (va_runV (As := [.ref (a 9), .ref (a 4), .ref (a 53)]) (rest := []) ⟨hx, hb, hml, hown, hts⟩ ((y_thoughtOf l D k st lo (a 64) (a 65) (a 66) (a 67) wt wc (a 9) (a 10) (a 11) (a 12) (a 13) n1 see1 tm1 g1 ff1 fp1 (a 4) (a 5) (a 6) (a 7) (a 8) n0 see0 tm0 g0 ff0 fp0 (a 53) (a 54) (a 55) cc rz ro sd fr (by first | assumption | omega) (by first | assumption | omega) (by first | assumption | omega) hro (hok 1 (by omega)) (hok 0 (by omega))) H.size) (cwV 3 hts (gV tw_765 tw_766 tw_767 tw_83 tw_768) rfl rfl rfl (by decide +kernel) ⟨Nat.le_of_ble_eq_true rfl, Nat.le_of_ble_eq_true rfl⟩) (pV hS hAlo hlo hP hK hDL hZ [15, 6, 7, 8, 9, 2, 3, 4, 5, 14] (by decide +kernel) rfl (ci := 2) (q := (RX2, TX2, 5)) (q0 := 0) rfl rfl) rfl rfl hl.1 rfl (lv_room (Nat.le_of_ble_eq_true rfl)) dX7_thought_40 ⟨Nat.le_of_ble_eq_true rfl, Nat.le_of_ble_eq_true rfl⟩) hS hA hP (fun r_7 H locs hw_7 hP hS => ?_)
      try dsimp only at hw_7
      exact W.iret (v := r_7) hx hb hr (fun t ht hW => ⟨⟨r_7, (), rfl, th_at (s := 1) (t := 0) (by omega) (by omega) (show 0 < n1 by omega) (show 0 < n0 by omega) hw_7, trivial⟩, hS.F ht⟩) hS.2.2 dX7_thought_43
    · refine lv_if_ne (tgt := 20) hx hb dX7_thought_13 (by decide) (fun _ => ?_) (fun h => absurd h (by decide))
      refine lv_aload_n hx hb dX7_thought_20 rfl (lv_at hl 0 rfl) ?_
      refine va_get (D := D) (ci := 7) (v := .ref (a 64)) (C := RX7) (T := TX7) (N := 12) hx hb hts inX7 hown hK hP 0 rfl rfl 10 (by decide) (hts _ tw_315) (fun _ h9 => h9) rfl dX7_thought_21 ?_
      refine lv_aload_n hx hb dX7_thought_24 rfl (lv_at hl 0 rfl) ?_
      refine va_get (D := D) (ci := 7) (v := .ref (a 3)) (C := RX7) (T := TX7) (N := 12) hx hb hts inX7 hown hK hP 0 rfl rfl 1 (by decide) (hts _ tw_306) (fun _ h9 => h9) rfl dX7_thought_25 ?_
      refine lv_iload_n hx hb dX7_thought_28 rfl (lv_at hl 1 rfl) ?_
      refine va_aldq hx hb hK hP 1 3 rfl rfl (by unfold vp_in; decide) dX7_thought_29 ?_
      refine lv_tr (y := .ref (a 9)) rfl ?_
      refine lv_aload_n hx hb dX7_thought_30 rfl (lv_at hl 0 rfl) ?_
      refine va_get (D := D) (ci := 7) (v := .ref (a 3)) (C := RX7) (T := TX7) (N := 12) hx hb hts inX7 hown hK hP 0 rfl rfl 1 (by decide) (hts _ tw_306) (fun _ h9 => h9) rfl dX7_thought_31 ?_
      refine lv_iload_n hx hb dX7_thought_34 rfl (lv_at hl 2 rfl) ?_
      refine va_aldq hx hb hK hP 1 3 rfl rfl (by unfold vp_in; decide) dX7_thought_35 ?_
      refine lv_tr (y := .ref (a 9)) rfl ?_
      refine lv_aload_n hx hb dX7_thought_36 rfl (lv_at hl 0 rfl) ?_
      refine va_get (D := D) (ci := 7) (v := .ref (a 53)) (C := RX7) (T := TX7) (N := 12) hx hb hts inX7 hown hK hP 0 rfl rfl 7 (by decide) (hts _ tw_312) (fun _ h9 => h9) rfl dX7_thought_37 ?_
      refine ro_i (D := D) (va_runV (As := [.ref (a 9), .ref (a 9), .ref (a 53)]) (rest := []) ⟨hx, hb, hml, hown, hts⟩ ((y_thoughtOf1 l D k st lo (a 64) (a 65) (a 66) (a 67) wt wc (a 9) (a 10) (a 11) (a 12) (a 13) n1 see1 tm1 g1 ff1 fp1 (a 53) (a 54) (a 55) cc rz ro sd fr (by first | assumption | omega) (by first | assumption | omega) hro (hok 1 (by omega))) H.size) (cwV 3 hts (gV tw_765 tw_766 tw_767 tw_83 tw_768) rfl rfl rfl (by decide +kernel) ⟨Nat.le_of_ble_eq_true rfl, Nat.le_of_ble_eq_true rfl⟩) (pV hS hAlo hlo hP hK hDL hZ [15, 6, 7, 8, 9, 14] (by decide) rfl (ci := 2) (q := (RX2, TX2, 5)) (q0 := 0) rfl rfl) rfl rfl hl.1 rfl (lv_room (Nat.le_of_ble_eq_true rfl)) dX7_thought_40 ⟨Nat.le_of_ble_eq_true rfl, Nat.le_of_ble_eq_true rfl⟩) hS hA hP (fun r_8 H locs hw_8 hP hS => ?_)
      try dsimp only at hw_8
      exact W.iret (v := r_8) hx hb hr (fun t ht hW => ⟨⟨r_8, (), rfl, th_at (s := 1) (t := 1) (by omega) (by omega) (show 0 < n1 by omega) (show 0 < n1 by omega) hw_8, trivial⟩, hS.F ht⟩) hS.2.2 dX7_thought_43
    · refine lv_if_ne (tgt := 20) hx hb dX7_thought_13 (by decide) (fun _ => ?_) (fun h => absurd h (by decide))
      refine lv_aload_n hx hb dX7_thought_20 rfl (lv_at hl 0 rfl) ?_
      refine va_get (D := D) (ci := 7) (v := .ref (a 64)) (C := RX7) (T := TX7) (N := 12) hx hb hts inX7 hown hK hP 0 rfl rfl 10 (by decide) (hts _ tw_315) (fun _ h9 => h9) rfl dX7_thought_21 ?_
      refine lv_aload_n hx hb dX7_thought_24 rfl (lv_at hl 0 rfl) ?_
      refine va_get (D := D) (ci := 7) (v := .ref (a 3)) (C := RX7) (T := TX7) (N := 12) hx hb hts inX7 hown hK hP 0 rfl rfl 1 (by decide) (hts _ tw_306) (fun _ h9 => h9) rfl dX7_thought_25 ?_
      refine lv_iload_n hx hb dX7_thought_28 rfl (lv_at hl 1 rfl) ?_
      refine va_aldq hx hb hK hP 1 3 rfl rfl (by unfold vp_in; decide) dX7_thought_29 ?_
      refine lv_tr (y := .ref (a 9)) rfl ?_
      refine lv_aload_n hx hb dX7_thought_30 rfl (lv_at hl 0 rfl) ?_
      refine va_get (D := D) (ci := 7) (v := .ref (a 3)) (C := RX7) (T := TX7) (N := 12) hx hb hts inX7 hown hK hP 0 rfl rfl 1 (by decide) (hts _ tw_306) (fun _ h9 => h9) rfl dX7_thought_31 ?_
      refine lv_iload_n hx hb dX7_thought_34 rfl (lv_at hl 2 rfl) ?_
      refine va_aldq hx hb hK hP 1 3 rfl rfl (by unfold vp_in; decide) dX7_thought_35 ?_
      refine lv_tr (y := .ref (a 14)) rfl ?_
      refine lv_aload_n hx hb dX7_thought_36 rfl (lv_at hl 0 rfl) ?_
      refine va_get (D := D) (ci := 7) (v := .ref (a 53)) (C := RX7) (T := TX7) (N := 12) hx hb hts inX7 hown hK hP 0 rfl rfl 7 (by decide) (hts _ tw_312) (fun _ h9 => h9) rfl dX7_thought_37 ?_
      refine ro_i (D := D) (va_runV (As := [.ref (a 9), .ref (a 14), .ref (a 53)]) (rest := []) ⟨hx, hb, hml, hown, hts⟩ ((y_thoughtOf l D k st lo (a 64) (a 65) (a 66) (a 67) wt wc (a 9) (a 10) (a 11) (a 12) (a 13) n1 see1 tm1 g1 ff1 fp1 (a 14) (a 15) (a 16) (a 17) (a 18) n2 see2 tm2 g2 ff2 fp2 (a 53) (a 54) (a 55) cc rz ro sd fr (by first | assumption | omega) (by first | assumption | omega) (by first | assumption | omega) hro (hok 1 (by omega)) (hok 2 (by omega))) H.size) (cwV 3 hts (gV tw_765 tw_766 tw_767 tw_83 tw_768) rfl rfl rfl (by decide +kernel) ⟨Nat.le_of_ble_eq_true rfl, Nat.le_of_ble_eq_true rfl⟩) (pV hS hAlo hlo hP hK hDL hZ [15, 6, 7, 8, 9, 10, 11, 12, 13, 14] (by decide +kernel) rfl (ci := 2) (q := (RX2, TX2, 5)) (q0 := 0) rfl rfl) rfl rfl hl.1 rfl (lv_room (Nat.le_of_ble_eq_true rfl)) dX7_thought_40 ⟨Nat.le_of_ble_eq_true rfl, Nat.le_of_ble_eq_true rfl⟩) hS hA hP (fun r_9 H locs hw_9 hP hS => ?_)
      try dsimp only at hw_9
      exact W.iret (v := r_9) hx hb hr (fun t ht hW => ⟨⟨r_9, (), rfl, th_at (s := 1) (t := 2) (by omega) (by omega) (show 0 < n1 by omega) (show 0 < n2 by omega) hw_9, trivial⟩, hS.F ht⟩) hS.2.2 dX7_thought_43
    · refine lv_if_ne (tgt := 20) hx hb dX7_thought_13 (by decide) (fun h => absurd (by decide) h) (fun _ => ?_)
      refine lv_sipush (v := (-1001)) hx hb dX7_thought_16 (by decide) ?_
      exact W.iret (v := (-1001)) hx hb hr (fun t ht hW => ⟨⟨(-1001), (), rfl, th_no1 (fun s h1 h2 h3 => hw_6 s h1 h2 (by rw [d3_n] at h3; exact h3)), trivial⟩, hS.F ht⟩) hS.2.2 dX7_thought_19
  · refine lv_if_eq (tgt := 16) hx hb dX7_thought_5 (by decide) (fun h => absurd h (by decide)) (fun _ => ?_)
    refine lv_aload_n hx hb dX7_thought_8 rfl (lv_at hl 0 rfl) ?_
    refine lv_iload_n hx hb dX7_thought_9 rfl (lv_at hl 2 rfl) ?_
    refine ro_i (D := D) (va_runV (As := [.int p1]) (rest := []) ⟨hx, hb, hml, hown, hts⟩ ((y_isStreet l D k st lo a rk lfa n0 see0 tm0 g0 n1 see1 tm1 g1 n2 see2 tm2 g2 p1 (by first | assumption | omega) (by first | assumption | omega) (by first | assumption | omega)) H.size) (cwV 1 hts (gV tw_589 tw_591 tw_8 tw_79 tw_592) rfl rfl rfl (by decide +kernel) ⟨Nat.le_of_ble_eq_true rfl, Nat.le_of_ble_eq_true rfl⟩) (pV hS hAlo hlo hP hK hDL hZ [0, 1, 2, 3, 6, 7, 10, 11] (by decide) rfl (ci := 7) (q := (RX7, TX7, 12)) (q0 := 0) rfl rfl) rfl rfl hl.1 rfl (lv_room (Nat.le_of_ble_eq_true rfl)) dX7_thought_10 ⟨Nat.le_of_ble_eq_true rfl, Nat.le_of_ble_eq_true rfl⟩) hS hA hP (fun r_10 H locs hw_10 hP hS => ?_)
    try dsimp only at hw_10
    rcases hw_10 with ⟨rfl, ⟨rfl, hw_10⟩ | ⟨rfl, hw_10⟩ | ⟨rfl, hw_10⟩⟩ | ⟨rfl, hw_10⟩
    · refine lv_if_ne (tgt := 20) hx hb dX7_thought_13 (by decide) (fun _ => ?_) (fun h => absurd h (by decide))
      refine lv_aload_n hx hb dX7_thought_20 rfl (lv_at hl 0 rfl) ?_
      refine va_get (D := D) (ci := 7) (v := .ref (a 64)) (C := RX7) (T := TX7) (N := 12) hx hb hts inX7 hown hK hP 0 rfl rfl 10 (by decide) (hts _ tw_315) (fun _ h9 => h9) rfl dX7_thought_21 ?_
      refine lv_aload_n hx hb dX7_thought_24 rfl (lv_at hl 0 rfl) ?_
      refine va_get (D := D) (ci := 7) (v := .ref (a 3)) (C := RX7) (T := TX7) (N := 12) hx hb hts inX7 hown hK hP 0 rfl rfl 1 (by decide) (hts _ tw_306) (fun _ h9 => h9) rfl dX7_thought_25 ?_
      refine lv_iload_n hx hb dX7_thought_28 rfl (lv_at hl 1 rfl) ?_
      refine va_aldq hx hb hK hP 1 3 rfl rfl (by unfold vp_in; decide) dX7_thought_29 ?_
      refine lv_tr (y := .ref (a 14)) rfl ?_
      refine lv_aload_n hx hb dX7_thought_30 rfl (lv_at hl 0 rfl) ?_
      refine va_get (D := D) (ci := 7) (v := .ref (a 3)) (C := RX7) (T := TX7) (N := 12) hx hb hts inX7 hown hK hP 0 rfl rfl 1 (by decide) (hts _ tw_306) (fun _ h9 => h9) rfl dX7_thought_31 ?_
      refine lv_iload_n hx hb dX7_thought_34 rfl (lv_at hl 2 rfl) ?_
      refine va_aldq hx hb hK hP 1 3 rfl rfl (by unfold vp_in; decide) dX7_thought_35 ?_
      refine lv_tr (y := .ref (a 4)) rfl ?_
      refine lv_aload_n hx hb dX7_thought_36 rfl (lv_at hl 0 rfl) ?_
      refine va_get (D := D) (ci := 7) (v := .ref (a 53)) (C := RX7) (T := TX7) (N := 12) hx hb hts inX7 hown hK hP 0 rfl rfl 7 (by decide) (hts _ tw_312) (fun _ h9 => h9) rfl dX7_thought_37 ?_
      refine ro_i (D := D) (va_runV (As := [.ref (a 14), .ref (a 4), .ref (a 53)]) (rest := []) ⟨hx, hb, hml, hown, hts⟩ ((y_thoughtOf l D k st lo (a 64) (a 65) (a 66) (a 67) wt wc (a 14) (a 15) (a 16) (a 17) (a 18) n2 see2 tm2 g2 ff2 fp2 (a 4) (a 5) (a 6) (a 7) (a 8) n0 see0 tm0 g0 ff0 fp0 (a 53) (a 54) (a 55) cc rz ro sd fr (by first | assumption | omega) (by first | assumption | omega) (by first | assumption | omega) hro (hok 2 (by omega)) (hok 0 (by omega))) H.size) (cwV 3 hts (gV tw_765 tw_766 tw_767 tw_83 tw_768) rfl rfl rfl (by decide +kernel) ⟨Nat.le_of_ble_eq_true rfl, Nat.le_of_ble_eq_true rfl⟩) (pV hS hAlo hlo hP hK hDL hZ [15, 10, 11, 12, 13, 2, 3, 4, 5, 14] (by decide +kernel) rfl (ci := 2) (q := (RX2, TX2, 5)) (q0 := 0) rfl rfl) rfl rfl hl.1 rfl (lv_room (Nat.le_of_ble_eq_true rfl)) dX7_thought_40 ⟨Nat.le_of_ble_eq_true rfl, Nat.le_of_ble_eq_true rfl⟩) hS hA hP (fun r_11 H locs hw_11 hP hS => ?_)
      try dsimp only at hw_11
      exact W.iret (v := r_11) hx hb hr (fun t ht hW => ⟨⟨r_11, (), rfl, th_at (s := 2) (t := 0) (by omega) (by omega) (show 0 < n2 by omega) (show 0 < n0 by omega) hw_11, trivial⟩, hS.F ht⟩) hS.2.2 dX7_thought_43
    · refine lv_if_ne (tgt := 20) hx hb dX7_thought_13 (by decide) (fun _ => ?_) (fun h => absurd h (by decide))
      refine lv_aload_n hx hb dX7_thought_20 rfl (lv_at hl 0 rfl) ?_
      refine va_get (D := D) (ci := 7) (v := .ref (a 64)) (C := RX7) (T := TX7) (N := 12) hx hb hts inX7 hown hK hP 0 rfl rfl 10 (by decide) (hts _ tw_315) (fun _ h9 => h9) rfl dX7_thought_21 ?_
      refine lv_aload_n hx hb dX7_thought_24 rfl (lv_at hl 0 rfl) ?_
      refine va_get (D := D) (ci := 7) (v := .ref (a 3)) (C := RX7) (T := TX7) (N := 12) hx hb hts inX7 hown hK hP 0 rfl rfl 1 (by decide) (hts _ tw_306) (fun _ h9 => h9) rfl dX7_thought_25 ?_
      refine lv_iload_n hx hb dX7_thought_28 rfl (lv_at hl 1 rfl) ?_
      refine va_aldq hx hb hK hP 1 3 rfl rfl (by unfold vp_in; decide) dX7_thought_29 ?_
      refine lv_tr (y := .ref (a 14)) rfl ?_
      refine lv_aload_n hx hb dX7_thought_30 rfl (lv_at hl 0 rfl) ?_
      refine va_get (D := D) (ci := 7) (v := .ref (a 3)) (C := RX7) (T := TX7) (N := 12) hx hb hts inX7 hown hK hP 0 rfl rfl 1 (by decide) (hts _ tw_306) (fun _ h9 => h9) rfl dX7_thought_31 ?_
      refine lv_iload_n hx hb dX7_thought_34 rfl (lv_at hl 2 rfl) ?_
      refine va_aldq hx hb hK hP 1 3 rfl rfl (by unfold vp_in; decide) dX7_thought_35 ?_
      refine lv_tr (y := .ref (a 9)) rfl ?_
      refine lv_aload_n hx hb dX7_thought_36 rfl (lv_at hl 0 rfl) ?_
      refine va_get (D := D) (ci := 7) (v := .ref (a 53)) (C := RX7) (T := TX7) (N := 12) hx hb hts inX7 hown hK hP 0 rfl rfl 7 (by decide) (hts _ tw_312) (fun _ h9 => h9) rfl dX7_thought_37 ?_
      refine ro_i (D := D) (va_runV (As := [.ref (a 14), .ref (a 9), .ref (a 53)]) (rest := []) ⟨hx, hb, hml, hown, hts⟩ ((y_thoughtOf l D k st lo (a 64) (a 65) (a 66) (a 67) wt wc (a 14) (a 15) (a 16) (a 17) (a 18) n2 see2 tm2 g2 ff2 fp2 (a 9) (a 10) (a 11) (a 12) (a 13) n1 see1 tm1 g1 ff1 fp1 (a 53) (a 54) (a 55) cc rz ro sd fr (by first | assumption | omega) (by first | assumption | omega) (by first | assumption | omega) hro (hok 2 (by omega)) (hok 1 (by omega))) H.size) (cwV 3 hts (gV tw_765 tw_766 tw_767 tw_83 tw_768) rfl rfl rfl (by decide +kernel) ⟨Nat.le_of_ble_eq_true rfl, Nat.le_of_ble_eq_true rfl⟩) (pV hS hAlo hlo hP hK hDL hZ [15, 10, 11, 12, 13, 6, 7, 8, 9, 14] (by decide +kernel) rfl (ci := 2) (q := (RX2, TX2, 5)) (q0 := 0) rfl rfl) rfl rfl hl.1 rfl (lv_room (Nat.le_of_ble_eq_true rfl)) dX7_thought_40 ⟨Nat.le_of_ble_eq_true rfl, Nat.le_of_ble_eq_true rfl⟩) hS hA hP (fun r_12 H locs hw_12 hP hS => ?_)
      try dsimp only at hw_12
      exact W.iret (v := r_12) hx hb hr (fun t ht hW => ⟨⟨r_12, (), rfl, th_at (s := 2) (t := 1) (by omega) (by omega) (show 0 < n2 by omega) (show 0 < n1 by omega) hw_12, trivial⟩, hS.F ht⟩) hS.2.2 dX7_thought_43
    · refine lv_if_ne (tgt := 20) hx hb dX7_thought_13 (by decide) (fun _ => ?_) (fun h => absurd h (by decide))
      refine lv_aload_n hx hb dX7_thought_20 rfl (lv_at hl 0 rfl) ?_
      refine va_get (D := D) (ci := 7) (v := .ref (a 64)) (C := RX7) (T := TX7) (N := 12) hx hb hts inX7 hown hK hP 0 rfl rfl 10 (by decide) (hts _ tw_315) (fun _ h9 => h9) rfl dX7_thought_21 ?_
      refine lv_aload_n hx hb dX7_thought_24 rfl (lv_at hl 0 rfl) ?_
      refine va_get (D := D) (ci := 7) (v := .ref (a 3)) (C := RX7) (T := TX7) (N := 12) hx hb hts inX7 hown hK hP 0 rfl rfl 1 (by decide) (hts _ tw_306) (fun _ h9 => h9) rfl dX7_thought_25 ?_
      refine lv_iload_n hx hb dX7_thought_28 rfl (lv_at hl 1 rfl) ?_
      refine va_aldq hx hb hK hP 1 3 rfl rfl (by unfold vp_in; decide) dX7_thought_29 ?_
      refine lv_tr (y := .ref (a 14)) rfl ?_
      refine lv_aload_n hx hb dX7_thought_30 rfl (lv_at hl 0 rfl) ?_
      refine va_get (D := D) (ci := 7) (v := .ref (a 3)) (C := RX7) (T := TX7) (N := 12) hx hb hts inX7 hown hK hP 0 rfl rfl 1 (by decide) (hts _ tw_306) (fun _ h9 => h9) rfl dX7_thought_31 ?_
      refine lv_iload_n hx hb dX7_thought_34 rfl (lv_at hl 2 rfl) ?_
      refine va_aldq hx hb hK hP 1 3 rfl rfl (by unfold vp_in; decide) dX7_thought_35 ?_
      refine lv_tr (y := .ref (a 14)) rfl ?_
      refine lv_aload_n hx hb dX7_thought_36 rfl (lv_at hl 0 rfl) ?_
      refine va_get (D := D) (ci := 7) (v := .ref (a 53)) (C := RX7) (T := TX7) (N := 12) hx hb hts inX7 hown hK hP 0 rfl rfl 7 (by decide) (hts _ tw_312) (fun _ h9 => h9) rfl dX7_thought_37 ?_
      refine ro_i (D := D) (va_runV (As := [.ref (a 14), .ref (a 14), .ref (a 53)]) (rest := []) ⟨hx, hb, hml, hown, hts⟩ ((y_thoughtOf1 l D k st lo (a 64) (a 65) (a 66) (a 67) wt wc (a 14) (a 15) (a 16) (a 17) (a 18) n2 see2 tm2 g2 ff2 fp2 (a 53) (a 54) (a 55) cc rz ro sd fr (by first | assumption | omega) (by first | assumption | omega) hro (hok 2 (by omega))) H.size) (cwV 3 hts (gV tw_765 tw_766 tw_767 tw_83 tw_768) rfl rfl rfl (by decide +kernel) ⟨Nat.le_of_ble_eq_true rfl, Nat.le_of_ble_eq_true rfl⟩) (pV hS hAlo hlo hP hK hDL hZ [15, 10, 11, 12, 13, 14] (by decide) rfl (ci := 2) (q := (RX2, TX2, 5)) (q0 := 0) rfl rfl) rfl rfl hl.1 rfl (lv_room (Nat.le_of_ble_eq_true rfl)) dX7_thought_40 ⟨Nat.le_of_ble_eq_true rfl, Nat.le_of_ble_eq_true rfl⟩) hS hA hP (fun r_13 H locs hw_13 hP hS => ?_)
      try dsimp only at hw_13
      exact W.iret (v := r_13) hx hb hr (fun t ht hW => ⟨⟨r_13, (), rfl, th_at (s := 2) (t := 2) (by omega) (by omega) (show 0 < n2 by omega) (show 0 < n2 by omega) hw_13, trivial⟩, hS.F ht⟩) hS.2.2 dX7_thought_43
    · refine lv_if_ne (tgt := 20) hx hb dX7_thought_13 (by decide) (fun h => absurd (by decide) h) (fun _ => ?_)
      refine lv_sipush (v := (-1001)) hx hb dX7_thought_16 (by decide) ?_
      exact W.iret (v := (-1001)) hx hb hr (fun t ht hW => ⟨⟨(-1001), (), rfl, th_no1 (fun s h1 h2 h3 => hw_10 s h1 h2 (by rw [d3_n] at h3; exact h3)), trivial⟩, hS.F ht⟩) hS.2.2 dX7_thought_19
  · refine lv_if_eq (tgt := 16) hx hb dX7_thought_5 (by decide) (fun _ => ?_) (fun h => absurd (by decide) h)
    refine lv_sipush (v := (-1001)) hx hb dX7_thought_16 (by decide) ?_
    exact W.iret (v := (-1001)) hx hb hr (fun t ht hW => ⟨⟨(-1001), (), rfl, th_no0 (fun s h1 h2 h3 => hw_1 s h1 h2 (by rw [d3_n] at h3; exact h3)), trivial⟩, hS.F ht⟩) hS.2.2 dX7_thought_19


set_option maxHeartbeats 4000000 in
set_option maxRecDepth 100000 in
theorem n_thought (l : Launch) (D : va_G) (k : Nat → ClassId) (st : Nat → Nat) (lo : Nat) (a : Nat → Nat) (tx : Nat) (t0 : Nat) (we : Nat) (rd : Nat) (ru : Nat) (rw : Nat) (ca : Nat) (fp : Int32) (wd : Int64) (nu : Int32) (na : Int32) (ts : Int32) (df : Int32) (db : Int32) (sd : Int32) (dn : Nat → Nat) (se : Nat → Nat) (tm : Nat → Nat) (gs : Nat → Int32) (ffrees : Nat → Int32) (fprices : Nat → Int32) (frow : Nat → Int32) (p0 : Int32) (p1 : Int32) (hdn : ∀ j, dn j ≤ 24) (hrw : rw ≤ 24) (hfr : ∀ i, i < 24 → frow i = 0 ∨ frow i = 1) : CRi l D k st lo yX8_thought cX8_thought 13 (some .int) ({ frames := 2, cells := 0, slots := 0, locals := 47 }) [.ref (a 0), .int p0, .int p1] [((a 0), .inr (8, (fX8 a (nI tx) fp (nI t0) wd (nI we) nu na (nI rd) ts (nI ru) (nI rw) (nI ca) df db sd))), (aI k (a 1) 3 (nF dn)), (aI k (a 4) 27 (sg se tm gs)), (aI k (a 2) 72 ffrees), (aI k (a 3) 72 fprices), (aZ k (a 32) 24 frow)] (fun r => thP (sdM dn (sg se tm gs) ffrees fprices) p0 p1 frow rw r) := by
  intro sz
  refine Met.ofW (cc := cX8_thought) (maxL := 13) (ret := (some .int)) (by decide) rfl ?_
  intro p e s m args below meth c s₁ B hml hv
  obtain ⟨rfl, hsz, hlo, hP, hK, hDL, hZ⟩ := hv
  have hx := B.exec
  have hb := B.bytes
  have hr := B.returns
  have hts := WS_ts B.pre
  have hown : s.vm.findClass RX8 = some m.cls := findClass_of_methodNamed B.named
  have hlocks := B.notSynchronized
  subst hsz
  have hA : ∀ q : Nat, s.heap.size ≤ q → (fun q : Nat => s.heap.size ≤ q) q := fun _ h => h
  have hAlo : ∀ q : Nat, (fun q : Nat => s.heap.size ≤ q) q → lo ≤ q := fun q h => Nat.le_trans hlo h
  have hS : va_S (fun q : Nat => s.heap.size ≤ q) s.heap s.heap [] := va_S.rf
  have hl := lv_entry ([.ref (a 0), .int p0, .int p1]) (n := 13) (Nat.le_of_ble_eq_true rfl)
  rw [lg_entry_eq]
  generalize (lg_sl ([.ref (a 0), .int p0, .int p1]) ++ List.replicate (13 - (lg_sl ([.ref (a 0), .int p0, .int p1])).length) Slot.unset).toArray = ls at hl ⊢
  have hl : lv_has ls 13 [(0, .ref (a 0)), (1, .int p0), (2, .int p1)] := hl
  refine lv_aload_n hx hb dX8_thought_0 rfl (lv_at hl 0 rfl) ?_
  refine lv_iload_n hx hb dX8_thought_1 rfl (lv_at hl 1 rfl) ?_
  refine ro_i (D := D) (va_runV (As := [.int p0]) (rest := []) ⟨hx, hb, hml, hown, hts⟩ ((n_isStreet l D k st lo a tx t0 we rd ru rw ca fp wd nu na ts df db sd dn p0 hdn) s.heap.size) (cwV 1 hts (gV tw_1189 tw_1191 tw_38 tw_87 tw_1192) rfl rfl rfl (by decide +kernel) ⟨Nat.le_of_ble_eq_true rfl, Nat.le_of_ble_eq_true rfl⟩) (pV hS hAlo hlo hP hK hDL hZ [0, 1] (by decide) rfl (ci := 8) (q := (RX8, TX8, 44)) (q0 := 0) rfl rfl) rfl rfl hl.1 rfl (lv_room (Nat.le_of_ble_eq_true rfl)) dX8_thought_2 ⟨Nat.le_of_ble_eq_true rfl, Nat.le_of_ble_eq_true rfl⟩) hS hA hP (fun r_1 H locs hw_1 hP hS => ?_)
  try dsimp only at hw_1
  rcases hw_1 with ⟨rfl, j_2, hj_2, rfl, hw_1⟩ | ⟨rfl, hw_1⟩
  · have hdj_2 := hdn j_2
    refine lv_if_eq (tgt := 16) hx hb dX8_thought_5 (by decide) (fun h => absurd h (by decide)) (fun _ => ?_)
    refine lv_aload_n hx hb dX8_thought_8 rfl (lv_at hl 0 rfl) ?_
    refine lv_iload_n hx hb dX8_thought_9 rfl (lv_at hl 2 rfl) ?_
    refine ro_i (D := D) (va_runV (As := [.int p1]) (rest := []) ⟨hx, hb, hml, hown, hts⟩ ((n_isStreet l D k st lo a tx t0 we rd ru rw ca fp wd nu na ts df db sd dn p1 hdn) H.size) (cwV 1 hts (gV tw_1189 tw_1191 tw_38 tw_87 tw_1192) rfl rfl rfl (by decide +kernel) ⟨Nat.le_of_ble_eq_true rfl, Nat.le_of_ble_eq_true rfl⟩) (pV hS hAlo hlo hP hK hDL hZ [0, 1] (by decide) rfl (ci := 8) (q := (RX8, TX8, 44)) (q0 := 0) rfl rfl) rfl rfl hl.1 rfl (lv_room (Nat.le_of_ble_eq_true rfl)) dX8_thought_10 ⟨Nat.le_of_ble_eq_true rfl, Nat.le_of_ble_eq_true rfl⟩) hS hA hP (fun r_3 H locs hw_3 hP hS => ?_)
    try dsimp only at hw_3
    rcases hw_3 with ⟨rfl, j_4, hj_4, rfl, hw_3⟩ | ⟨rfl, hw_3⟩
    · have hdj_4 := hdn j_4
      refine lv_if_ne (tgt := 20) hx hb dX8_thought_13 (by decide) (fun _ => ?_) (fun h => absurd h (by decide))
      refine lv_ldc2 hx hb hown (hts _ tw_1362) dX8_thought_20 ?_
      refine lv_lstore_n (lv' := [(3, .long 500000), (0, .ref (a 0)), (1, .int (nI j_2)), (2, .int (nI j_4))]) hx hb dX8_thought_23 rfl hl (by decide) rfl (fun ls hl => ?_)
      refine lv_ldc2 hx hb hown (hts _ tw_1362) dX8_thought_24 ?_
      refine lv_lstore (lv' := [(5, .long 500000), (3, .long 500000), (0, .ref (a 0)), (1, .int (nI j_2)), (2, .int (nI j_4))]) hx hb dX8_thought_27 hl (by decide) rfl (fun ls hl => ?_)
      refine lv_iconst (v := 0) hx hb dX8_thought_29 (by decide) ?_
      refine lv_istore (lv' := [(7, .int 0), (5, .long 500000), (3, .long 500000), (0, .ref (a 0)), (1, .int (nI j_2)), (2, .int (nI j_4))]) hx hb dX8_thought_30 hl (by decide) rfl (fun ls hl => ?_)
      refine W_loop (σ := Nat × Int64 × Int64) (fun (n_ : Nat) (x_ : Nat × Int64 × Int64) (H : Heap) (locs : List Loc) (ls : Array Slot) => match x_ with | (ii_5, w2_5, v2_5) => n_ = 25 - ii_5 ∧ ((ii_5 ≤ rw ∧ ii_5 ≤ dn j_2 ∧ ii_5 ≤ dn j_4) ∧ w2_5 = (thN (sdM dn (sg se tm gs) ffrees fprices j_2) (sdM dn (sg se tm gs) ffrees fprices j_4) frow ii_5).1 ∧ v2_5 = (thN (sdM dn (sg se tm gs) ffrees fprices j_2) (sdM dn (sg se tm gs) ffrees fprices j_4) frow ii_5).2) ∧ va_P D classes [((a 0), .inr (8, (fX8 a (nI tx) fp (nI t0) wd (nI we) nu na (nI rd) ts (nI ru) (nI rw) (nI ca) df db sd))), (aI k (a 1) 3 (nF dn)), (aI k (a 4) 27 (sg se tm gs)), (aI k (a 2) 72 ffrees), (aI k (a 3) 72 fprices), (aZ k (a 32) 24 frow)] H ∧ va_S (fun q : Nat => s.heap.size ≤ q) s.heap H locs ∧ lv_has ls 13 [(7, .int (nI ii_5)), (5, .long v2_5), (3, .long w2_5), (0, .ref (a 0)), (1, .int (nI j_2)), (2, .int (nI j_4))]) (fun n_5 x_5 H locs ls hI ih_5 => ?_) _ (0, 500000, 500000) ⟨rfl, ⟨⟨by omega, by omega, by omega⟩, rfl, rfl⟩, hP, hS, (lv_sub hl [0, 1, 2, 3, 4, 5] rfl)⟩
      obtain ⟨ii_5, w2_5, v2_5⟩ := x_5
      obtain ⟨hm_5, hv_5, hP, hS, hl⟩ := hI
      subst hm_5
      refine lv_iload hx hb dX8_thought_32 (lv_at hl 0 rfl) ?_
      refine lv_aload_n hx hb dX8_thought_34 rfl (lv_at hl 3 rfl) ?_
      refine va_get (D := D) (ci := 8) (v := .int (nI rw)) (C := RX8) (T := TX8) (N := 44) hx hb hts inX8 hown hK hP 0 rfl rfl 30 (by decide) (hts _ tw_1003) (fun _ h9 => h9) rfl dX8_thought_35 ?_
      refine lv_icmp_ge (tgt := 224) hx hb dX8_thought_38 (by decide) (fun c_6 => ?_) (fun c_6 => ?_)
      · have c_6 := (nI_leI (a := rw) (b := ii_5) (by omega) (by omega)).mp c_6
        refine lv_lload_n hx hb dX8_thought_224 rfl (lv_at hl 2 rfl) ?_
        refine lv_lload hx hb dX8_thought_225 (lv_at hl 1 rfl) ?_
        refine lv_ladd hx hb dX8_thought_227 ?_
        refine lv_topl (fun x_7 ex_7 => ?_)
        refine lv_lconst (v := 0) hx hb dX8_thought_228 (by decide) ?_
        refine W.lcmp hx hb dX8_thought_229 ?_
        refine lv_if_ne (tgt := 237) hx hb dX8_thought_230 (by decide) (fun c_8 => ?_) (fun c_8 => ?_)
        · refine lv_lload_n hx hb dX8_thought_237 rfl (lv_at hl 2 rfl) ?_
          refine lv_ldc2 hx hb hown (hts _ tw_1363) dX8_thought_238 ?_
          refine lv_lmul hx hb dX8_thought_241 ?_
          refine lv_topl (fun x_9 ex_9 => ?_)
          refine lv_lload_n hx hb dX8_thought_242 rfl (lv_at hl 2 rfl) ?_
          refine lv_lload hx hb dX8_thought_243 (lv_at hl 1 rfl) ?_
          refine lv_ladd hx hb dX8_thought_245 ?_
          refine lv_topl (fun x_10 ex_10 => ?_)
          refine lv_ldiv hx hb dX8_thought_246 (fun h => c_8 (by rw [ex_7, ← ex_10, h]; decide)) ?_
          refine lv_topl (fun x_11 ex_11 => ?_)
          refine lv_l2i hx hb dX8_thought_247 rfl ?_
          refine lv_topi (fun x_12 ex_12 => ?_)
          exact W.iret (v := x_12) hx hb hr (fun t ht hW => ⟨⟨x_12, (), rfl, th_at (s := j_2) (t := j_4) (by omega) (by omega) (show 0 < dn j_2 by omega) (show 0 < dn j_4 by omega) (thM_1 (d := (sdM dn (sg se tm gs) ffrees fprices j_2)) (e := (sdM dn (sg se tm gs) ffrees fprices j_4)) (show ii_5 = min rw (min (dn j_2) (dn j_4)) by omega) hv_5.2.1 hv_5.2.2 ex_7 c_8 ex_10 ex_9 ex_11 ex_12), trivial⟩, hS.F ht⟩) hS.2.2 dX8_thought_248
        · refine lv_iconst (v := 0) hx hb dX8_thought_233 (by decide) ?_
          refine lv_goto (tgt := 248) hx hb dX8_thought_234 (by decide) ?_
          exact W.iret (v := 0) hx hb hr (fun t ht hW => ⟨⟨0, (), rfl, th_at (s := j_2) (t := j_4) (by omega) (by omega) (show 0 < dn j_2 by omega) (show 0 < dn j_4 by omega) (thM_0 (d := (sdM dn (sg se tm gs) ffrees fprices j_2)) (e := (sdM dn (sg se tm gs) ffrees fprices j_4)) (show ii_5 = min rw (min (dn j_2) (dn j_4)) by omega) hv_5.2.1 hv_5.2.2 ex_7 c_8), trivial⟩, hS.F ht⟩) hS.2.2 dX8_thought_248
      · have c_6 : ¬ (rw ≤ ii_5) := fun h => c_6 ((nI_leI (a := rw) (b := ii_5) (by omega) (by omega)).mpr h)
        refine lv_iload hx hb dX8_thought_41 (lv_at hl 0 rfl) ?_
        refine lv_aload_n hx hb dX8_thought_43 rfl (lv_at hl 3 rfl) ?_
        refine va_get (D := D) (ci := 8) (v := .ref (a 1)) (C := RX8) (T := TX8) (N := 44) hx hb hts inX8 hown hK hP 0 rfl rfl 0 (by decide) (hts _ tw_973) (fun _ h9 => h9) rfl dX8_thought_44 ?_
        refine lv_iload_n hx hb dX8_thought_47 rfl (lv_at hl 4 rfl) ?_
        refine va_iald hx hb hK hP 1 1 rfl rfl (vp_in_nI (by omega) (by decide)) dX8_thought_48 ?_
        refine lv_ti (y := (nI (dn j_2))) (by rw [nI_clamp (by omega)]; rfl) ?_
        refine lv_icmp_ge (tgt := 224) hx hb dX8_thought_49 (by decide) (fun c_13 => ?_) (fun c_13 => ?_)
        · have c_13 := (nI_leI (a := (dn j_2)) (b := ii_5) (by omega) (by omega)).mp c_13
          refine lv_lload_n hx hb dX8_thought_224 rfl (lv_at hl 2 rfl) ?_
          refine lv_lload hx hb dX8_thought_225 (lv_at hl 1 rfl) ?_
          refine lv_ladd hx hb dX8_thought_227 ?_
          refine lv_topl (fun x_14 ex_14 => ?_)
          refine lv_lconst (v := 0) hx hb dX8_thought_228 (by decide) ?_
          refine W.lcmp hx hb dX8_thought_229 ?_
          refine lv_if_ne (tgt := 237) hx hb dX8_thought_230 (by decide) (fun c_15 => ?_) (fun c_15 => ?_)
          · refine lv_lload_n hx hb dX8_thought_237 rfl (lv_at hl 2 rfl) ?_
            refine lv_ldc2 hx hb hown (hts _ tw_1363) dX8_thought_238 ?_
            refine lv_lmul hx hb dX8_thought_241 ?_
            refine lv_topl (fun x_16 ex_16 => ?_)
            refine lv_lload_n hx hb dX8_thought_242 rfl (lv_at hl 2 rfl) ?_
            refine lv_lload hx hb dX8_thought_243 (lv_at hl 1 rfl) ?_
            refine lv_ladd hx hb dX8_thought_245 ?_
            refine lv_topl (fun x_17 ex_17 => ?_)
            refine lv_ldiv hx hb dX8_thought_246 (fun h => c_15 (by rw [ex_14, ← ex_17, h]; decide)) ?_
            refine lv_topl (fun x_18 ex_18 => ?_)
            refine lv_l2i hx hb dX8_thought_247 rfl ?_
            refine lv_topi (fun x_19 ex_19 => ?_)
            exact W.iret (v := x_19) hx hb hr (fun t ht hW => ⟨⟨x_19, (), rfl, th_at (s := j_2) (t := j_4) (by omega) (by omega) (show 0 < dn j_2 by omega) (show 0 < dn j_4 by omega) (thM_1 (d := (sdM dn (sg se tm gs) ffrees fprices j_2)) (e := (sdM dn (sg se tm gs) ffrees fprices j_4)) (show ii_5 = min rw (min (dn j_2) (dn j_4)) by omega) hv_5.2.1 hv_5.2.2 ex_14 c_15 ex_17 ex_16 ex_18 ex_19), trivial⟩, hS.F ht⟩) hS.2.2 dX8_thought_248
          · refine lv_iconst (v := 0) hx hb dX8_thought_233 (by decide) ?_
            refine lv_goto (tgt := 248) hx hb dX8_thought_234 (by decide) ?_
            exact W.iret (v := 0) hx hb hr (fun t ht hW => ⟨⟨0, (), rfl, th_at (s := j_2) (t := j_4) (by omega) (by omega) (show 0 < dn j_2 by omega) (show 0 < dn j_4 by omega) (thM_0 (d := (sdM dn (sg se tm gs) ffrees fprices j_2)) (e := (sdM dn (sg se tm gs) ffrees fprices j_4)) (show ii_5 = min rw (min (dn j_2) (dn j_4)) by omega) hv_5.2.1 hv_5.2.2 ex_14 c_15), trivial⟩, hS.F ht⟩) hS.2.2 dX8_thought_248
        · have c_13 : ¬ ((dn j_2) ≤ ii_5) := fun h => c_13 ((nI_leI (a := (dn j_2)) (b := ii_5) (by omega) (by omega)).mpr h)
          refine lv_iload hx hb dX8_thought_52 (lv_at hl 0 rfl) ?_
          refine lv_aload_n hx hb dX8_thought_54 rfl (lv_at hl 3 rfl) ?_
          refine va_get (D := D) (ci := 8) (v := .ref (a 1)) (C := RX8) (T := TX8) (N := 44) hx hb hts inX8 hown hK hP 0 rfl rfl 0 (by decide) (hts _ tw_973) (fun _ h9 => h9) rfl dX8_thought_55 ?_
          refine lv_iload_n hx hb dX8_thought_58 rfl (lv_at hl 5 rfl) ?_
          refine va_iald hx hb hK hP 1 1 rfl rfl (vp_in_nI (by omega) (by decide)) dX8_thought_59 ?_
          refine lv_ti (y := (nI (dn j_4))) (by rw [nI_clamp (by omega)]; rfl) ?_
          refine lv_icmp_ge (tgt := 224) hx hb dX8_thought_60 (by decide) (fun c_20 => ?_) (fun c_20 => ?_)
          · have c_20 := (nI_leI (a := (dn j_4)) (b := ii_5) (by omega) (by omega)).mp c_20
            refine lv_lload_n hx hb dX8_thought_224 rfl (lv_at hl 2 rfl) ?_
            refine lv_lload hx hb dX8_thought_225 (lv_at hl 1 rfl) ?_
            refine lv_ladd hx hb dX8_thought_227 ?_
            refine lv_topl (fun x_21 ex_21 => ?_)
            refine lv_lconst (v := 0) hx hb dX8_thought_228 (by decide) ?_
            refine W.lcmp hx hb dX8_thought_229 ?_
            refine lv_if_ne (tgt := 237) hx hb dX8_thought_230 (by decide) (fun c_22 => ?_) (fun c_22 => ?_)
            · refine lv_lload_n hx hb dX8_thought_237 rfl (lv_at hl 2 rfl) ?_
              refine lv_ldc2 hx hb hown (hts _ tw_1363) dX8_thought_238 ?_
              refine lv_lmul hx hb dX8_thought_241 ?_
              refine lv_topl (fun x_23 ex_23 => ?_)
              refine lv_lload_n hx hb dX8_thought_242 rfl (lv_at hl 2 rfl) ?_
              refine lv_lload hx hb dX8_thought_243 (lv_at hl 1 rfl) ?_
              refine lv_ladd hx hb dX8_thought_245 ?_
              refine lv_topl (fun x_24 ex_24 => ?_)
              refine lv_ldiv hx hb dX8_thought_246 (fun h => c_22 (by rw [ex_21, ← ex_24, h]; decide)) ?_
              refine lv_topl (fun x_25 ex_25 => ?_)
              refine lv_l2i hx hb dX8_thought_247 rfl ?_
              refine lv_topi (fun x_26 ex_26 => ?_)
              exact W.iret (v := x_26) hx hb hr (fun t ht hW => ⟨⟨x_26, (), rfl, th_at (s := j_2) (t := j_4) (by omega) (by omega) (show 0 < dn j_2 by omega) (show 0 < dn j_4 by omega) (thM_1 (d := (sdM dn (sg se tm gs) ffrees fprices j_2)) (e := (sdM dn (sg se tm gs) ffrees fprices j_4)) (show ii_5 = min rw (min (dn j_2) (dn j_4)) by omega) hv_5.2.1 hv_5.2.2 ex_21 c_22 ex_24 ex_23 ex_25 ex_26), trivial⟩, hS.F ht⟩) hS.2.2 dX8_thought_248
            · refine lv_iconst (v := 0) hx hb dX8_thought_233 (by decide) ?_
              refine lv_goto (tgt := 248) hx hb dX8_thought_234 (by decide) ?_
              exact W.iret (v := 0) hx hb hr (fun t ht hW => ⟨⟨0, (), rfl, th_at (s := j_2) (t := j_4) (by omega) (by omega) (show 0 < dn j_2 by omega) (show 0 < dn j_4 by omega) (thM_0 (d := (sdM dn (sg se tm gs) ffrees fprices j_2)) (e := (sdM dn (sg se tm gs) ffrees fprices j_4)) (show ii_5 = min rw (min (dn j_2) (dn j_4)) by omega) hv_5.2.1 hv_5.2.2 ex_21 c_22), trivial⟩, hS.F ht⟩) hS.2.2 dX8_thought_248
          · have c_20 : ¬ ((dn j_4) ≤ ii_5) := fun h => c_20 ((nI_leI (a := (dn j_4)) (b := ii_5) (by omega) (by omega)).mpr h)
            refine lv_iload hx hb dX8_thought_63 (lv_at hl 0 rfl) ?_
            refine lv_if_le (tgt := 93) hx hb dX8_thought_65 (by decide) (fun c_27 => ?_) (fun c_27 => ?_)
            · have c_27 := (nI_leI (a := ii_5) (b := 0) (by omega) (by omega)).mp c_27
              refine lv_iconst (v := 0) hx hb dX8_thought_93 (by decide) ?_
              have hah_28 : (0 : Int32) = pAhd frow ii_5 := thh_z (by omega)
              refine lv_istore (lv' := [(8, .int 0), (7, .int (nI ii_5)), (5, .long v2_5), (3, .long w2_5), (0, .ref (a 0)), (1, .int (nI j_2)), (2, .int (nI j_4))]) hx hb dX8_thought_94 hl (by decide) rfl (fun ls hl => ?_)
              refine lv_aload_n hx hb dX8_thought_96 rfl (lv_at hl 4 rfl) ?_
              refine lv_iload_n hx hb dX8_thought_97 rfl (lv_at hl 5 rfl) ?_
              refine lv_iload hx hb dX8_thought_98 (lv_at hl 1 rfl) ?_
              refine lv_iload hx hb dX8_thought_100 (lv_at hl 0 rfl) ?_
              refine ro_i (D := D) (va_runV (As := [.int (nI j_2), .int (nI ii_5), .int 0]) (rest := []) ⟨hx, hb, hml, hown, hts⟩ ((n_chanceOf l D k st lo a tx t0 we rd ru rw ca fp wd nu na ts df db sd ffrees se tm gs j_2 ii_5 0 (by first | assumption | omega) (by first | assumption | omega)) H.size) (cwV 3 hts (gV tw_1210 tw_1212 tw_41 tw_87 tw_1213) rfl rfl rfl (by decide +kernel) ⟨Nat.le_of_ble_eq_true rfl, Nat.le_of_ble_eq_true rfl⟩) (pV hS hAlo hlo hP hK hDL hZ [0, 3, 2] (by decide) rfl (ci := 8) (q := (RX8, TX8, 44)) (q0 := 0) rfl rfl) rfl rfl hl.1 rfl (lv_room (Nat.le_of_ble_eq_true rfl)) dX8_thought_102 ⟨Nat.le_of_ble_eq_true rfl, Nat.le_of_ble_eq_true rfl⟩) hS hA hP (fun r_29 H locs hw_29 hP hS => ?_)
              try dsimp only at hw_29
              refine lv_istore (lv' := [(9, .int r_29), (8, .int 0), (7, .int (nI ii_5)), (5, .long v2_5), (3, .long w2_5), (0, .ref (a 0)), (1, .int (nI j_2)), (2, .int (nI j_4))]) hx hb dX8_thought_105 hl (by decide) rfl (fun ls hl => ?_)
              refine lv_aload_n hx hb dX8_thought_107 rfl (lv_at hl 5 rfl) ?_
              refine lv_iload_n hx hb dX8_thought_108 rfl (lv_at hl 7 rfl) ?_
              refine lv_iload hx hb dX8_thought_109 (lv_at hl 2 rfl) ?_
              refine lv_iload hx hb dX8_thought_111 (lv_at hl 1 rfl) ?_
              refine ro_i (D := D) (va_runV (As := [.int (nI j_4), .int (nI ii_5), .int 0]) (rest := []) ⟨hx, hb, hml, hown, hts⟩ ((n_chanceOf l D k st lo a tx t0 we rd ru rw ca fp wd nu na ts df db sd ffrees se tm gs j_4 ii_5 0 (by first | assumption | omega) (by first | assumption | omega)) H.size) (cwV 3 hts (gV tw_1210 tw_1212 tw_41 tw_87 tw_1213) rfl rfl rfl (by decide +kernel) ⟨Nat.le_of_ble_eq_true rfl, Nat.le_of_ble_eq_true rfl⟩) (pV hS hAlo hlo hP hK hDL hZ [0, 3, 2] (by decide) rfl (ci := 8) (q := (RX8, TX8, 44)) (q0 := 0) rfl rfl) rfl rfl hl.1 rfl (lv_room (Nat.le_of_ble_eq_true rfl)) dX8_thought_113 ⟨Nat.le_of_ble_eq_true rfl, Nat.le_of_ble_eq_true rfl⟩) hS hA hP (fun r_30 H locs hw_30 hP hS => ?_)
              try dsimp only at hw_30
              refine lv_istore (lv' := [(10, .int r_30), (9, .int r_29), (8, .int 0), (7, .int (nI ii_5)), (5, .long v2_5), (3, .long w2_5), (0, .ref (a 0)), (1, .int (nI j_2)), (2, .int (nI j_4))]) hx hb dX8_thought_116 hl (by decide) rfl (fun ls hl => ?_)
              refine lv_lload_n hx hb dX8_thought_118 rfl (lv_at hl 5 rfl) ?_
              refine lv_aload_n hx hb dX8_thought_119 rfl (lv_at hl 6 rfl) ?_
              refine va_get (D := D) (ci := 8) (v := .ref (a 32)) (C := RX8) (T := TX8) (N := 44) hx hb hts inX8 hown hK hP 0 rfl rfl 31 (by decide) (hts _ tw_1004) (fun _ h9 => h9) rfl dX8_thought_120 ?_
              refine lv_iload hx hb dX8_thought_123 (lv_at hl 3 rfl) ?_
              refine va_zald hx hb hK hP 5 2 rfl rfl (vp_in_nI (by omega) (by decide)) dX8_thought_125 ?_
              refine lv_ti (y := (frow ii_5)) (by rw [nI_clamp (by omega)]) ?_
              refine lv_if_eq (tgt := 134) hx hb dX8_thought_126 (by decide) (fun c_31 => ?_) (fun c_31 => ?_)
              · refine lv_bipush (v := 100) hx hb dX8_thought_134 (by decide) ?_
                refine lv_iload hx hb dX8_thought_136 (lv_at hl 1 rfl) ?_
                refine lv_isub hx hb dX8_thought_138 ?_
                refine lv_topi (fun x_32 ex_32 => ?_)
                refine lv_i2l (v := x_32.toInt64) hx hb dX8_thought_139 rfl ?_
                refine lv_lmul hx hb dX8_thought_140 ?_
                refine lv_topl (fun x_33 ex_33 => ?_)
                refine lv_ldc2 hx hb hown (hts _ tw_1272) dX8_thought_141 ?_
                refine lv_ldiv hx hb dX8_thought_144 (by decide) ?_
                refine lv_topl (fun x_34 ex_34 => ?_)
                have hta_35 : x_34 = thA (thN (sdM dn (sg se tm gs) ffrees fprices j_2) (sdM dn (sg se tm gs) ffrees fprices j_4) frow ii_5).1 (pLk (sdM dn (sg se tm gs) ffrees fprices j_2) ii_5 (pAhd frow ii_5) (frow ii_5)) := by unfold thA pLk; rw [if_neg (by rw [c_31]; decide), ← hah_28, ex_34, ex_33, ex_32, hw_29, mChance (dn := dn) (fpr := fprices) (show ii_5 < dn j_2 by omega), hv_5.2.1]
                refine lv_lstore_n (lv' := [(3, .long x_34), (10, .int r_30), (9, .int r_29), (8, .int 0), (7, .int (nI ii_5)), (5, .long v2_5), (0, .ref (a 0)), (1, .int (nI j_2)), (2, .int (nI j_4))]) hx hb dX8_thought_145 rfl hl (by decide) rfl (fun ls hl => ?_)
                refine lv_lload hx hb dX8_thought_146 (lv_at hl 5 rfl) ?_
                refine lv_aload_n hx hb dX8_thought_148 rfl (lv_at hl 6 rfl) ?_
                refine va_get (D := D) (ci := 8) (v := .ref (a 32)) (C := RX8) (T := TX8) (N := 44) hx hb hts inX8 hown hK hP 0 rfl rfl 31 (by decide) (hts _ tw_1004) (fun _ h9 => h9) rfl dX8_thought_149 ?_
                refine lv_iload hx hb dX8_thought_152 (lv_at hl 4 rfl) ?_
                refine va_zald hx hb hK hP 5 2 rfl rfl (vp_in_nI (by omega) (by decide)) dX8_thought_154 ?_
                refine lv_ti (y := (frow ii_5)) (by rw [nI_clamp (by omega)]) ?_
                refine lv_if_eq (tgt := 163) hx hb dX8_thought_155 (by decide) (fun c_36 => ?_) (fun c_36 => absurd c_36 (fun h => h c_31))
                refine lv_bipush (v := 100) hx hb dX8_thought_163 (by decide) ?_
                refine lv_iload hx hb dX8_thought_165 (lv_at hl 1 rfl) ?_
                refine lv_isub hx hb dX8_thought_167 ?_
                refine lv_topi (fun x_37 ex_37 => ?_)
                refine lv_i2l (v := x_37.toInt64) hx hb dX8_thought_168 rfl ?_
                refine lv_lmul hx hb dX8_thought_169 ?_
                refine lv_topl (fun x_38 ex_38 => ?_)
                refine lv_ldc2 hx hb hown (hts _ tw_1272) dX8_thought_170 ?_
                refine lv_ldiv hx hb dX8_thought_173 (by decide) ?_
                refine lv_topl (fun x_39 ex_39 => ?_)
                have hta_40 : x_39 = thA (thN (sdM dn (sg se tm gs) ffrees fprices j_2) (sdM dn (sg se tm gs) ffrees fprices j_4) frow ii_5).2 (pLk (sdM dn (sg se tm gs) ffrees fprices j_4) ii_5 (pAhd frow ii_5) (frow ii_5)) := by unfold thA pLk; rw [if_neg (by rw [c_31]; decide), ← hah_28, ex_39, ex_38, ex_37, hw_30, mChance (dn := dn) (fpr := fprices) (show ii_5 < dn j_4 by omega), hv_5.2.2]
                refine lv_lstore (lv' := [(5, .long x_39), (3, .long x_34), (10, .int r_30), (9, .int r_29), (8, .int 0), (7, .int (nI ii_5)), (0, .ref (a 0)), (1, .int (nI j_2)), (2, .int (nI j_4))]) hx hb dX8_thought_174 hl (by decide) rfl (fun ls hl => ?_)
                refine lv_lload_n hx hb dX8_thought_176 rfl (lv_at hl 1 rfl) ?_
                refine lv_lload hx hb dX8_thought_177 (lv_at hl 0 rfl) ?_
                refine W.lcmp hx hb dX8_thought_179 ?_
                refine lv_if_le (tgt := 187) hx hb dX8_thought_180 (by decide) (fun c_41 => ?_) (fun c_41 => ?_)
                · refine lv_lload hx hb dX8_thought_187 (lv_at hl 0 rfl) ?_
                  refine lv_lstore (lv' := [(11, .long x_39), (5, .long x_39), (3, .long x_34), (10, .int r_30), (9, .int r_29), (8, .int 0), (7, .int (nI ii_5)), (0, .ref (a 0)), (1, .int (nI j_2)), (2, .int (nI j_4))]) hx hb dX8_thought_189 hl (by decide) rfl (fun ls hl => ?_)
                  refine lv_lload hx hb dX8_thought_191 (lv_at hl 0 rfl) ?_
                  refine lv_lconst (v := 0) hx hb dX8_thought_193 (by decide) ?_
                  refine W.lcmp hx hb dX8_thought_194 ?_
                  refine lv_if_le (tgt := 218) hx hb dX8_thought_195 (by decide) (fun c_42 => ?_) (fun c_42 => ?_)
                  · have hth_43 := th_neg hta_35 hta_40 (thg_le c_41) c_42
                    refine lv_iinc (v := (nI (ii_5 + 1))) (lv' := [(7, .int (nI (ii_5 + 1))), (11, .long x_39), (5, .long x_39), (3, .long x_34), (10, .int r_30), (9, .int r_29), (8, .int 0), (0, .ref (a 0)), (1, .int (nI j_2)), (2, .int (nI j_4))]) hx hb dX8_thought_218 hl (k := 6) rfl (nI_add ii_5 1) (by decide) rfl (fun ls hl => ?_)
                    refine lv_goto (tgt := 32) hx hb dX8_thought_221 (by decide) ?_
                    exact ih_5 _ (ii_5 + 1, x_34, x_39) _ _ _ (by omega) ⟨rfl, ⟨⟨by omega, by omega, by omega⟩, hth_43.1, hth_43.2⟩, hP, hS, (lv_sub hl [0, 2, 3, 7, 8, 9] rfl)⟩
                  · refine lv_lload_n hx hb dX8_thought_198 rfl (lv_at hl 2 rfl) ?_
                    refine lv_ldc2 hx hb hown (hts _ tw_1363) dX8_thought_199 ?_
                    refine lv_lmul hx hb dX8_thought_202 ?_
                    refine lv_topl (fun x_44 ex_44 => ?_)
                    refine lv_lload hx hb dX8_thought_203 (lv_at hl 0 rfl) ?_
                    refine lv_ldiv hx hb dX8_thought_205 (fun h => c_42 (by rw [h]; decide)) ?_
                    refine lv_topl (fun x_45 ex_45 => ?_)
                    refine lv_lstore_n (lv' := [(3, .long x_45), (11, .long x_39), (5, .long x_39), (10, .int r_30), (9, .int r_29), (8, .int 0), (7, .int (nI ii_5)), (0, .ref (a 0)), (1, .int (nI j_2)), (2, .int (nI j_4))]) hx hb dX8_thought_206 rfl hl (by decide) rfl (fun ls hl => ?_)
                    refine lv_lload hx hb dX8_thought_207 (lv_at hl 2 rfl) ?_
                    refine lv_ldc2 hx hb hown (hts _ tw_1363) dX8_thought_209 ?_
                    refine lv_lmul hx hb dX8_thought_212 ?_
                    refine lv_topl (fun x_46 ex_46 => ?_)
                    refine lv_lload hx hb dX8_thought_213 (lv_at hl 1 rfl) ?_
                    refine lv_ldiv hx hb dX8_thought_215 (fun h => c_42 (by rw [h]; decide)) ?_
                    refine lv_topl (fun x_47 ex_47 => ?_)
                    refine lv_lstore (lv' := [(5, .long x_47), (3, .long x_45), (11, .long x_39), (10, .int r_30), (9, .int r_29), (8, .int 0), (7, .int (nI ii_5)), (0, .ref (a 0)), (1, .int (nI j_2)), (2, .int (nI j_4))]) hx hb dX8_thought_216 hl (by decide) rfl (fun ls hl => ?_)
                    have hth_48 := th_pos hta_35 hta_40 (thg_le c_41) c_42 ex_44 ex_45 ex_46 ex_47
                    refine lv_iinc (v := (nI (ii_5 + 1))) (lv' := [(7, .int (nI (ii_5 + 1))), (5, .long x_47), (3, .long x_45), (11, .long x_39), (10, .int r_30), (9, .int r_29), (8, .int 0), (0, .ref (a 0)), (1, .int (nI j_2)), (2, .int (nI j_4))]) hx hb dX8_thought_218 hl (k := 6) rfl (nI_add ii_5 1) (by decide) rfl (fun ls hl => ?_)
                    refine lv_goto (tgt := 32) hx hb dX8_thought_221 (by decide) ?_
                    exact ih_5 _ (ii_5 + 1, x_45, x_47) _ _ _ (by omega) ⟨rfl, ⟨⟨by omega, by omega, by omega⟩, hth_48.1, hth_48.2⟩, hP, hS, (lv_sub hl [0, 1, 2, 7, 8, 9] rfl)⟩
                · refine lv_lload_n hx hb dX8_thought_183 rfl (lv_at hl 1 rfl) ?_
                  refine lv_goto (tgt := 189) hx hb dX8_thought_184 (by decide) ?_
                  refine lv_lstore (lv' := [(11, .long x_34), (5, .long x_39), (3, .long x_34), (10, .int r_30), (9, .int r_29), (8, .int 0), (7, .int (nI ii_5)), (0, .ref (a 0)), (1, .int (nI j_2)), (2, .int (nI j_4))]) hx hb dX8_thought_189 hl (by decide) rfl (fun ls hl => ?_)
                  refine lv_lload hx hb dX8_thought_191 (lv_at hl 0 rfl) ?_
                  refine lv_lconst (v := 0) hx hb dX8_thought_193 (by decide) ?_
                  refine W.lcmp hx hb dX8_thought_194 ?_
                  refine lv_if_le (tgt := 218) hx hb dX8_thought_195 (by decide) (fun c_49 => ?_) (fun c_49 => ?_)
                  · have hth_50 := th_neg hta_35 hta_40 (thg_gt c_41) c_49
                    refine lv_iinc (v := (nI (ii_5 + 1))) (lv' := [(7, .int (nI (ii_5 + 1))), (11, .long x_34), (5, .long x_39), (3, .long x_34), (10, .int r_30), (9, .int r_29), (8, .int 0), (0, .ref (a 0)), (1, .int (nI j_2)), (2, .int (nI j_4))]) hx hb dX8_thought_218 hl (k := 6) rfl (nI_add ii_5 1) (by decide) rfl (fun ls hl => ?_)
                    refine lv_goto (tgt := 32) hx hb dX8_thought_221 (by decide) ?_
                    exact ih_5 _ (ii_5 + 1, x_34, x_39) _ _ _ (by omega) ⟨rfl, ⟨⟨by omega, by omega, by omega⟩, hth_50.1, hth_50.2⟩, hP, hS, (lv_sub hl [0, 2, 3, 7, 8, 9] rfl)⟩
                  · refine lv_lload_n hx hb dX8_thought_198 rfl (lv_at hl 2 rfl) ?_
                    refine lv_ldc2 hx hb hown (hts _ tw_1363) dX8_thought_199 ?_
                    refine lv_lmul hx hb dX8_thought_202 ?_
                    refine lv_topl (fun x_51 ex_51 => ?_)
                    refine lv_lload hx hb dX8_thought_203 (lv_at hl 0 rfl) ?_
                    refine lv_ldiv hx hb dX8_thought_205 (fun h => c_49 (by rw [h]; decide)) ?_
                    refine lv_topl (fun x_52 ex_52 => ?_)
                    refine lv_lstore_n (lv' := [(3, .long x_52), (11, .long x_34), (5, .long x_39), (10, .int r_30), (9, .int r_29), (8, .int 0), (7, .int (nI ii_5)), (0, .ref (a 0)), (1, .int (nI j_2)), (2, .int (nI j_4))]) hx hb dX8_thought_206 rfl hl (by decide) rfl (fun ls hl => ?_)
                    refine lv_lload hx hb dX8_thought_207 (lv_at hl 2 rfl) ?_
                    refine lv_ldc2 hx hb hown (hts _ tw_1363) dX8_thought_209 ?_
                    refine lv_lmul hx hb dX8_thought_212 ?_
                    refine lv_topl (fun x_53 ex_53 => ?_)
                    refine lv_lload hx hb dX8_thought_213 (lv_at hl 1 rfl) ?_
                    refine lv_ldiv hx hb dX8_thought_215 (fun h => c_49 (by rw [h]; decide)) ?_
                    refine lv_topl (fun x_54 ex_54 => ?_)
                    refine lv_lstore (lv' := [(5, .long x_54), (3, .long x_52), (11, .long x_34), (10, .int r_30), (9, .int r_29), (8, .int 0), (7, .int (nI ii_5)), (0, .ref (a 0)), (1, .int (nI j_2)), (2, .int (nI j_4))]) hx hb dX8_thought_216 hl (by decide) rfl (fun ls hl => ?_)
                    have hth_55 := th_pos hta_35 hta_40 (thg_gt c_41) c_49 ex_51 ex_52 ex_53 ex_54
                    refine lv_iinc (v := (nI (ii_5 + 1))) (lv' := [(7, .int (nI (ii_5 + 1))), (5, .long x_54), (3, .long x_52), (11, .long x_34), (10, .int r_30), (9, .int r_29), (8, .int 0), (0, .ref (a 0)), (1, .int (nI j_2)), (2, .int (nI j_4))]) hx hb dX8_thought_218 hl (k := 6) rfl (nI_add ii_5 1) (by decide) rfl (fun ls hl => ?_)
                    refine lv_goto (tgt := 32) hx hb dX8_thought_221 (by decide) ?_
                    exact ih_5 _ (ii_5 + 1, x_52, x_54) _ _ _ (by omega) ⟨rfl, ⟨⟨by omega, by omega, by omega⟩, hth_55.1, hth_55.2⟩, hP, hS, (lv_sub hl [0, 1, 2, 7, 8, 9] rfl)⟩
              · refine lv_iload hx hb dX8_thought_129 (lv_at hl 1 rfl) ?_
                refine lv_goto (tgt := 139) hx hb dX8_thought_131 (by decide) ?_
                refine lv_i2l (v := r_29.toInt64) hx hb dX8_thought_139 rfl ?_
                refine lv_lmul hx hb dX8_thought_140 ?_
                refine lv_topl (fun x_56 ex_56 => ?_)
                refine lv_ldc2 hx hb hown (hts _ tw_1272) dX8_thought_141 ?_
                refine lv_ldiv hx hb dX8_thought_144 (by decide) ?_
                refine lv_topl (fun x_57 ex_57 => ?_)
                have hta_58 : x_57 = thA (thN (sdM dn (sg se tm gs) ffrees fprices j_2) (sdM dn (sg se tm gs) ffrees fprices j_4) frow ii_5).1 (pLk (sdM dn (sg se tm gs) ffrees fprices j_2) ii_5 (pAhd frow ii_5) (frow ii_5)) := by unfold thA pLk; rw [if_pos ((hfr _ (by omega)).resolve_left c_31), ← hah_28, ex_57, ex_56, hw_29, mChance (dn := dn) (fpr := fprices) (show ii_5 < dn j_2 by omega), hv_5.2.1]
                refine lv_lstore_n (lv' := [(3, .long x_57), (10, .int r_30), (9, .int r_29), (8, .int 0), (7, .int (nI ii_5)), (5, .long v2_5), (0, .ref (a 0)), (1, .int (nI j_2)), (2, .int (nI j_4))]) hx hb dX8_thought_145 rfl hl (by decide) rfl (fun ls hl => ?_)
                refine lv_lload hx hb dX8_thought_146 (lv_at hl 5 rfl) ?_
                refine lv_aload_n hx hb dX8_thought_148 rfl (lv_at hl 6 rfl) ?_
                refine va_get (D := D) (ci := 8) (v := .ref (a 32)) (C := RX8) (T := TX8) (N := 44) hx hb hts inX8 hown hK hP 0 rfl rfl 31 (by decide) (hts _ tw_1004) (fun _ h9 => h9) rfl dX8_thought_149 ?_
                refine lv_iload hx hb dX8_thought_152 (lv_at hl 4 rfl) ?_
                refine va_zald hx hb hK hP 5 2 rfl rfl (vp_in_nI (by omega) (by decide)) dX8_thought_154 ?_
                refine lv_ti (y := (frow ii_5)) (by rw [nI_clamp (by omega)]) ?_
                refine lv_if_eq (tgt := 163) hx hb dX8_thought_155 (by decide) (fun c_59 => absurd c_59 (c_31)) (fun c_59 => ?_)
                refine lv_iload hx hb dX8_thought_158 (lv_at hl 1 rfl) ?_
                refine lv_goto (tgt := 168) hx hb dX8_thought_160 (by decide) ?_
                refine lv_i2l (v := r_30.toInt64) hx hb dX8_thought_168 rfl ?_
                refine lv_lmul hx hb dX8_thought_169 ?_
                refine lv_topl (fun x_60 ex_60 => ?_)
                refine lv_ldc2 hx hb hown (hts _ tw_1272) dX8_thought_170 ?_
                refine lv_ldiv hx hb dX8_thought_173 (by decide) ?_
                refine lv_topl (fun x_61 ex_61 => ?_)
                have hta_62 : x_61 = thA (thN (sdM dn (sg se tm gs) ffrees fprices j_2) (sdM dn (sg se tm gs) ffrees fprices j_4) frow ii_5).2 (pLk (sdM dn (sg se tm gs) ffrees fprices j_4) ii_5 (pAhd frow ii_5) (frow ii_5)) := by unfold thA pLk; rw [if_pos ((hfr _ (by omega)).resolve_left c_31), ← hah_28, ex_61, ex_60, hw_30, mChance (dn := dn) (fpr := fprices) (show ii_5 < dn j_4 by omega), hv_5.2.2]
                refine lv_lstore (lv' := [(5, .long x_61), (3, .long x_57), (10, .int r_30), (9, .int r_29), (8, .int 0), (7, .int (nI ii_5)), (0, .ref (a 0)), (1, .int (nI j_2)), (2, .int (nI j_4))]) hx hb dX8_thought_174 hl (by decide) rfl (fun ls hl => ?_)
                refine lv_lload_n hx hb dX8_thought_176 rfl (lv_at hl 1 rfl) ?_
                refine lv_lload hx hb dX8_thought_177 (lv_at hl 0 rfl) ?_
                refine W.lcmp hx hb dX8_thought_179 ?_
                refine lv_if_le (tgt := 187) hx hb dX8_thought_180 (by decide) (fun c_63 => ?_) (fun c_63 => ?_)
                · refine lv_lload hx hb dX8_thought_187 (lv_at hl 0 rfl) ?_
                  refine lv_lstore (lv' := [(11, .long x_61), (5, .long x_61), (3, .long x_57), (10, .int r_30), (9, .int r_29), (8, .int 0), (7, .int (nI ii_5)), (0, .ref (a 0)), (1, .int (nI j_2)), (2, .int (nI j_4))]) hx hb dX8_thought_189 hl (by decide) rfl (fun ls hl => ?_)
                  refine lv_lload hx hb dX8_thought_191 (lv_at hl 0 rfl) ?_
                  refine lv_lconst (v := 0) hx hb dX8_thought_193 (by decide) ?_
                  refine W.lcmp hx hb dX8_thought_194 ?_
                  refine lv_if_le (tgt := 218) hx hb dX8_thought_195 (by decide) (fun c_64 => ?_) (fun c_64 => ?_)
                  · have hth_65 := th_neg hta_58 hta_62 (thg_le c_63) c_64
                    refine lv_iinc (v := (nI (ii_5 + 1))) (lv' := [(7, .int (nI (ii_5 + 1))), (11, .long x_61), (5, .long x_61), (3, .long x_57), (10, .int r_30), (9, .int r_29), (8, .int 0), (0, .ref (a 0)), (1, .int (nI j_2)), (2, .int (nI j_4))]) hx hb dX8_thought_218 hl (k := 6) rfl (nI_add ii_5 1) (by decide) rfl (fun ls hl => ?_)
                    refine lv_goto (tgt := 32) hx hb dX8_thought_221 (by decide) ?_
                    exact ih_5 _ (ii_5 + 1, x_57, x_61) _ _ _ (by omega) ⟨rfl, ⟨⟨by omega, by omega, by omega⟩, hth_65.1, hth_65.2⟩, hP, hS, (lv_sub hl [0, 2, 3, 7, 8, 9] rfl)⟩
                  · refine lv_lload_n hx hb dX8_thought_198 rfl (lv_at hl 2 rfl) ?_
                    refine lv_ldc2 hx hb hown (hts _ tw_1363) dX8_thought_199 ?_
                    refine lv_lmul hx hb dX8_thought_202 ?_
                    refine lv_topl (fun x_66 ex_66 => ?_)
                    refine lv_lload hx hb dX8_thought_203 (lv_at hl 0 rfl) ?_
                    refine lv_ldiv hx hb dX8_thought_205 (fun h => c_64 (by rw [h]; decide)) ?_
                    refine lv_topl (fun x_67 ex_67 => ?_)
                    refine lv_lstore_n (lv' := [(3, .long x_67), (11, .long x_61), (5, .long x_61), (10, .int r_30), (9, .int r_29), (8, .int 0), (7, .int (nI ii_5)), (0, .ref (a 0)), (1, .int (nI j_2)), (2, .int (nI j_4))]) hx hb dX8_thought_206 rfl hl (by decide) rfl (fun ls hl => ?_)
                    refine lv_lload hx hb dX8_thought_207 (lv_at hl 2 rfl) ?_
                    refine lv_ldc2 hx hb hown (hts _ tw_1363) dX8_thought_209 ?_
                    refine lv_lmul hx hb dX8_thought_212 ?_
                    refine lv_topl (fun x_68 ex_68 => ?_)
                    refine lv_lload hx hb dX8_thought_213 (lv_at hl 1 rfl) ?_
                    refine lv_ldiv hx hb dX8_thought_215 (fun h => c_64 (by rw [h]; decide)) ?_
                    refine lv_topl (fun x_69 ex_69 => ?_)
                    refine lv_lstore (lv' := [(5, .long x_69), (3, .long x_67), (11, .long x_61), (10, .int r_30), (9, .int r_29), (8, .int 0), (7, .int (nI ii_5)), (0, .ref (a 0)), (1, .int (nI j_2)), (2, .int (nI j_4))]) hx hb dX8_thought_216 hl (by decide) rfl (fun ls hl => ?_)
                    have hth_70 := th_pos hta_58 hta_62 (thg_le c_63) c_64 ex_66 ex_67 ex_68 ex_69
                    refine lv_iinc (v := (nI (ii_5 + 1))) (lv' := [(7, .int (nI (ii_5 + 1))), (5, .long x_69), (3, .long x_67), (11, .long x_61), (10, .int r_30), (9, .int r_29), (8, .int 0), (0, .ref (a 0)), (1, .int (nI j_2)), (2, .int (nI j_4))]) hx hb dX8_thought_218 hl (k := 6) rfl (nI_add ii_5 1) (by decide) rfl (fun ls hl => ?_)
                    refine lv_goto (tgt := 32) hx hb dX8_thought_221 (by decide) ?_
                    exact ih_5 _ (ii_5 + 1, x_67, x_69) _ _ _ (by omega) ⟨rfl, ⟨⟨by omega, by omega, by omega⟩, hth_70.1, hth_70.2⟩, hP, hS, (lv_sub hl [0, 1, 2, 7, 8, 9] rfl)⟩
                · refine lv_lload_n hx hb dX8_thought_183 rfl (lv_at hl 1 rfl) ?_
                  refine lv_goto (tgt := 189) hx hb dX8_thought_184 (by decide) ?_
                  refine lv_lstore (lv' := [(11, .long x_57), (5, .long x_61), (3, .long x_57), (10, .int r_30), (9, .int r_29), (8, .int 0), (7, .int (nI ii_5)), (0, .ref (a 0)), (1, .int (nI j_2)), (2, .int (nI j_4))]) hx hb dX8_thought_189 hl (by decide) rfl (fun ls hl => ?_)
                  refine lv_lload hx hb dX8_thought_191 (lv_at hl 0 rfl) ?_
                  refine lv_lconst (v := 0) hx hb dX8_thought_193 (by decide) ?_
                  refine W.lcmp hx hb dX8_thought_194 ?_
                  refine lv_if_le (tgt := 218) hx hb dX8_thought_195 (by decide) (fun c_71 => ?_) (fun c_71 => ?_)
                  · have hth_72 := th_neg hta_58 hta_62 (thg_gt c_63) c_71
                    refine lv_iinc (v := (nI (ii_5 + 1))) (lv' := [(7, .int (nI (ii_5 + 1))), (11, .long x_57), (5, .long x_61), (3, .long x_57), (10, .int r_30), (9, .int r_29), (8, .int 0), (0, .ref (a 0)), (1, .int (nI j_2)), (2, .int (nI j_4))]) hx hb dX8_thought_218 hl (k := 6) rfl (nI_add ii_5 1) (by decide) rfl (fun ls hl => ?_)
                    refine lv_goto (tgt := 32) hx hb dX8_thought_221 (by decide) ?_
                    exact ih_5 _ (ii_5 + 1, x_57, x_61) _ _ _ (by omega) ⟨rfl, ⟨⟨by omega, by omega, by omega⟩, hth_72.1, hth_72.2⟩, hP, hS, (lv_sub hl [0, 2, 3, 7, 8, 9] rfl)⟩
                  · refine lv_lload_n hx hb dX8_thought_198 rfl (lv_at hl 2 rfl) ?_
                    refine lv_ldc2 hx hb hown (hts _ tw_1363) dX8_thought_199 ?_
                    refine lv_lmul hx hb dX8_thought_202 ?_
                    refine lv_topl (fun x_73 ex_73 => ?_)
                    refine lv_lload hx hb dX8_thought_203 (lv_at hl 0 rfl) ?_
                    refine lv_ldiv hx hb dX8_thought_205 (fun h => c_71 (by rw [h]; decide)) ?_
                    refine lv_topl (fun x_74 ex_74 => ?_)
                    refine lv_lstore_n (lv' := [(3, .long x_74), (11, .long x_57), (5, .long x_61), (10, .int r_30), (9, .int r_29), (8, .int 0), (7, .int (nI ii_5)), (0, .ref (a 0)), (1, .int (nI j_2)), (2, .int (nI j_4))]) hx hb dX8_thought_206 rfl hl (by decide) rfl (fun ls hl => ?_)
                    refine lv_lload hx hb dX8_thought_207 (lv_at hl 2 rfl) ?_
                    refine lv_ldc2 hx hb hown (hts _ tw_1363) dX8_thought_209 ?_
                    refine lv_lmul hx hb dX8_thought_212 ?_
                    refine lv_topl (fun x_75 ex_75 => ?_)
                    refine lv_lload hx hb dX8_thought_213 (lv_at hl 1 rfl) ?_
                    refine lv_ldiv hx hb dX8_thought_215 (fun h => c_71 (by rw [h]; decide)) ?_
                    refine lv_topl (fun x_76 ex_76 => ?_)
                    refine lv_lstore (lv' := [(5, .long x_76), (3, .long x_74), (11, .long x_57), (10, .int r_30), (9, .int r_29), (8, .int 0), (7, .int (nI ii_5)), (0, .ref (a 0)), (1, .int (nI j_2)), (2, .int (nI j_4))]) hx hb dX8_thought_216 hl (by decide) rfl (fun ls hl => ?_)
                    have hth_77 := th_pos hta_58 hta_62 (thg_gt c_63) c_71 ex_73 ex_74 ex_75 ex_76
                    refine lv_iinc (v := (nI (ii_5 + 1))) (lv' := [(7, .int (nI (ii_5 + 1))), (5, .long x_76), (3, .long x_74), (11, .long x_57), (10, .int r_30), (9, .int r_29), (8, .int 0), (0, .ref (a 0)), (1, .int (nI j_2)), (2, .int (nI j_4))]) hx hb dX8_thought_218 hl (k := 6) rfl (nI_add ii_5 1) (by decide) rfl (fun ls hl => ?_)
                    refine lv_goto (tgt := 32) hx hb dX8_thought_221 (by decide) ?_
                    exact ih_5 _ (ii_5 + 1, x_74, x_76) _ _ _ (by omega) ⟨rfl, ⟨⟨by omega, by omega, by omega⟩, hth_77.1, hth_77.2⟩, hP, hS, (lv_sub hl [0, 1, 2, 7, 8, 9] rfl)⟩
            · have c_27 : ¬ (ii_5 ≤ 0) := fun h => c_27 ((nI_leI (a := ii_5) (b := 0) (by omega) (by omega)).mpr h)
              refine lv_aload_n hx hb dX8_thought_68 rfl (lv_at hl 3 rfl) ?_
              refine va_get (D := D) (ci := 8) (v := .ref (a 32)) (C := RX8) (T := TX8) (N := 44) hx hb hts inX8 hown hK hP 0 rfl rfl 31 (by decide) (hts _ tw_1004) (fun _ h9 => h9) rfl dX8_thought_69 ?_
              refine lv_iload hx hb dX8_thought_72 (lv_at hl 0 rfl) ?_
              refine lv_if_le (tgt := 84) hx hb dX8_thought_74 (by decide) (fun h => absurd ((nI_leI (a := ii_5) (b := 0) (by omega) (by omega)).mp h) (by omega)) (fun _ => ?_)
              refine lv_iload hx hb dX8_thought_77 (lv_at hl 0 rfl) ?_
              refine lv_iconst (v := 1) hx hb dX8_thought_79 (by decide) ?_
              refine lv_isub hx hb dX8_thought_80 ?_
              refine lv_ti (y := (nI (ii_5 - 1))) (pk_sub (a := ii_5) (b := 1) (by omega)) ?_
              refine lv_goto (tgt := 85) hx hb dX8_thought_81 (by decide) ?_
              refine va_zald hx hb hK hP 5 2 rfl rfl (vp_in_nI (by omega) (by decide)) dX8_thought_85 ?_
              refine lv_ti (y := (frow (ii_5 - 1))) (by rw [nI_clamp (by omega)]) ?_
              refine lv_if_eq (tgt := 93) hx hb dX8_thought_86 (by decide) (fun c_79 => ?_) (fun c_79 => ?_)
              · refine lv_iconst (v := 0) hx hb dX8_thought_93 (by decide) ?_
                have hah_80 : (0 : Int32) = pAhd frow ii_5 := thh_0 (by omega) c_79
                refine lv_istore (lv' := [(8, .int 0), (7, .int (nI ii_5)), (5, .long v2_5), (3, .long w2_5), (0, .ref (a 0)), (1, .int (nI j_2)), (2, .int (nI j_4))]) hx hb dX8_thought_94 hl (by decide) rfl (fun ls hl => ?_)
                refine lv_aload_n hx hb dX8_thought_96 rfl (lv_at hl 4 rfl) ?_
                refine lv_iload_n hx hb dX8_thought_97 rfl (lv_at hl 5 rfl) ?_
                refine lv_iload hx hb dX8_thought_98 (lv_at hl 1 rfl) ?_
                refine lv_iload hx hb dX8_thought_100 (lv_at hl 0 rfl) ?_
                refine ro_i (D := D) (va_runV (As := [.int (nI j_2), .int (nI ii_5), .int 0]) (rest := []) ⟨hx, hb, hml, hown, hts⟩ ((n_chanceOf l D k st lo a tx t0 we rd ru rw ca fp wd nu na ts df db sd ffrees se tm gs j_2 ii_5 0 (by first | assumption | omega) (by first | assumption | omega)) H.size) (cwV 3 hts (gV tw_1210 tw_1212 tw_41 tw_87 tw_1213) rfl rfl rfl (by decide +kernel) ⟨Nat.le_of_ble_eq_true rfl, Nat.le_of_ble_eq_true rfl⟩) (pV hS hAlo hlo hP hK hDL hZ [0, 3, 2] (by decide) rfl (ci := 8) (q := (RX8, TX8, 44)) (q0 := 0) rfl rfl) rfl rfl hl.1 rfl (lv_room (Nat.le_of_ble_eq_true rfl)) dX8_thought_102 ⟨Nat.le_of_ble_eq_true rfl, Nat.le_of_ble_eq_true rfl⟩) hS hA hP (fun r_81 H locs hw_81 hP hS => ?_)
                try dsimp only at hw_81
                refine lv_istore (lv' := [(9, .int r_81), (8, .int 0), (7, .int (nI ii_5)), (5, .long v2_5), (3, .long w2_5), (0, .ref (a 0)), (1, .int (nI j_2)), (2, .int (nI j_4))]) hx hb dX8_thought_105 hl (by decide) rfl (fun ls hl => ?_)
                refine lv_aload_n hx hb dX8_thought_107 rfl (lv_at hl 5 rfl) ?_
                refine lv_iload_n hx hb dX8_thought_108 rfl (lv_at hl 7 rfl) ?_
                refine lv_iload hx hb dX8_thought_109 (lv_at hl 2 rfl) ?_
                refine lv_iload hx hb dX8_thought_111 (lv_at hl 1 rfl) ?_
                refine ro_i (D := D) (va_runV (As := [.int (nI j_4), .int (nI ii_5), .int 0]) (rest := []) ⟨hx, hb, hml, hown, hts⟩ ((n_chanceOf l D k st lo a tx t0 we rd ru rw ca fp wd nu na ts df db sd ffrees se tm gs j_4 ii_5 0 (by first | assumption | omega) (by first | assumption | omega)) H.size) (cwV 3 hts (gV tw_1210 tw_1212 tw_41 tw_87 tw_1213) rfl rfl rfl (by decide +kernel) ⟨Nat.le_of_ble_eq_true rfl, Nat.le_of_ble_eq_true rfl⟩) (pV hS hAlo hlo hP hK hDL hZ [0, 3, 2] (by decide) rfl (ci := 8) (q := (RX8, TX8, 44)) (q0 := 0) rfl rfl) rfl rfl hl.1 rfl (lv_room (Nat.le_of_ble_eq_true rfl)) dX8_thought_113 ⟨Nat.le_of_ble_eq_true rfl, Nat.le_of_ble_eq_true rfl⟩) hS hA hP (fun r_82 H locs hw_82 hP hS => ?_)
                try dsimp only at hw_82
                refine lv_istore (lv' := [(10, .int r_82), (9, .int r_81), (8, .int 0), (7, .int (nI ii_5)), (5, .long v2_5), (3, .long w2_5), (0, .ref (a 0)), (1, .int (nI j_2)), (2, .int (nI j_4))]) hx hb dX8_thought_116 hl (by decide) rfl (fun ls hl => ?_)
                refine lv_lload_n hx hb dX8_thought_118 rfl (lv_at hl 5 rfl) ?_
                refine lv_aload_n hx hb dX8_thought_119 rfl (lv_at hl 6 rfl) ?_
                refine va_get (D := D) (ci := 8) (v := .ref (a 32)) (C := RX8) (T := TX8) (N := 44) hx hb hts inX8 hown hK hP 0 rfl rfl 31 (by decide) (hts _ tw_1004) (fun _ h9 => h9) rfl dX8_thought_120 ?_
                refine lv_iload hx hb dX8_thought_123 (lv_at hl 3 rfl) ?_
                refine va_zald hx hb hK hP 5 2 rfl rfl (vp_in_nI (by omega) (by decide)) dX8_thought_125 ?_
                refine lv_ti (y := (frow ii_5)) (by rw [nI_clamp (by omega)]) ?_
                refine lv_if_eq (tgt := 134) hx hb dX8_thought_126 (by decide) (fun c_83 => ?_) (fun c_83 => ?_)
                · refine lv_bipush (v := 100) hx hb dX8_thought_134 (by decide) ?_
                  refine lv_iload hx hb dX8_thought_136 (lv_at hl 1 rfl) ?_
                  refine lv_isub hx hb dX8_thought_138 ?_
                  refine lv_topi (fun x_84 ex_84 => ?_)
                  refine lv_i2l (v := x_84.toInt64) hx hb dX8_thought_139 rfl ?_
                  refine lv_lmul hx hb dX8_thought_140 ?_
                  refine lv_topl (fun x_85 ex_85 => ?_)
                  refine lv_ldc2 hx hb hown (hts _ tw_1272) dX8_thought_141 ?_
                  refine lv_ldiv hx hb dX8_thought_144 (by decide) ?_
                  refine lv_topl (fun x_86 ex_86 => ?_)
                  have hta_87 : x_86 = thA (thN (sdM dn (sg se tm gs) ffrees fprices j_2) (sdM dn (sg se tm gs) ffrees fprices j_4) frow ii_5).1 (pLk (sdM dn (sg se tm gs) ffrees fprices j_2) ii_5 (pAhd frow ii_5) (frow ii_5)) := by unfold thA pLk; rw [if_neg (by rw [c_83]; decide), ← hah_80, ex_86, ex_85, ex_84, hw_81, mChance (dn := dn) (fpr := fprices) (show ii_5 < dn j_2 by omega), hv_5.2.1]
                  refine lv_lstore_n (lv' := [(3, .long x_86), (10, .int r_82), (9, .int r_81), (8, .int 0), (7, .int (nI ii_5)), (5, .long v2_5), (0, .ref (a 0)), (1, .int (nI j_2)), (2, .int (nI j_4))]) hx hb dX8_thought_145 rfl hl (by decide) rfl (fun ls hl => ?_)
                  refine lv_lload hx hb dX8_thought_146 (lv_at hl 5 rfl) ?_
                  refine lv_aload_n hx hb dX8_thought_148 rfl (lv_at hl 6 rfl) ?_
                  refine va_get (D := D) (ci := 8) (v := .ref (a 32)) (C := RX8) (T := TX8) (N := 44) hx hb hts inX8 hown hK hP 0 rfl rfl 31 (by decide) (hts _ tw_1004) (fun _ h9 => h9) rfl dX8_thought_149 ?_
                  refine lv_iload hx hb dX8_thought_152 (lv_at hl 4 rfl) ?_
                  refine va_zald hx hb hK hP 5 2 rfl rfl (vp_in_nI (by omega) (by decide)) dX8_thought_154 ?_
                  refine lv_ti (y := (frow ii_5)) (by rw [nI_clamp (by omega)]) ?_
                  refine lv_if_eq (tgt := 163) hx hb dX8_thought_155 (by decide) (fun c_88 => ?_) (fun c_88 => absurd c_88 (fun h => h c_83))
                  refine lv_bipush (v := 100) hx hb dX8_thought_163 (by decide) ?_
                  refine lv_iload hx hb dX8_thought_165 (lv_at hl 1 rfl) ?_
                  refine lv_isub hx hb dX8_thought_167 ?_
                  refine lv_topi (fun x_89 ex_89 => ?_)
                  refine lv_i2l (v := x_89.toInt64) hx hb dX8_thought_168 rfl ?_
                  refine lv_lmul hx hb dX8_thought_169 ?_
                  refine lv_topl (fun x_90 ex_90 => ?_)
                  refine lv_ldc2 hx hb hown (hts _ tw_1272) dX8_thought_170 ?_
                  refine lv_ldiv hx hb dX8_thought_173 (by decide) ?_
                  refine lv_topl (fun x_91 ex_91 => ?_)
                  have hta_92 : x_91 = thA (thN (sdM dn (sg se tm gs) ffrees fprices j_2) (sdM dn (sg se tm gs) ffrees fprices j_4) frow ii_5).2 (pLk (sdM dn (sg se tm gs) ffrees fprices j_4) ii_5 (pAhd frow ii_5) (frow ii_5)) := by unfold thA pLk; rw [if_neg (by rw [c_83]; decide), ← hah_80, ex_91, ex_90, ex_89, hw_82, mChance (dn := dn) (fpr := fprices) (show ii_5 < dn j_4 by omega), hv_5.2.2]
                  refine lv_lstore (lv' := [(5, .long x_91), (3, .long x_86), (10, .int r_82), (9, .int r_81), (8, .int 0), (7, .int (nI ii_5)), (0, .ref (a 0)), (1, .int (nI j_2)), (2, .int (nI j_4))]) hx hb dX8_thought_174 hl (by decide) rfl (fun ls hl => ?_)
                  refine lv_lload_n hx hb dX8_thought_176 rfl (lv_at hl 1 rfl) ?_
                  refine lv_lload hx hb dX8_thought_177 (lv_at hl 0 rfl) ?_
                  refine W.lcmp hx hb dX8_thought_179 ?_
                  refine lv_if_le (tgt := 187) hx hb dX8_thought_180 (by decide) (fun c_93 => ?_) (fun c_93 => ?_)
                  · refine lv_lload hx hb dX8_thought_187 (lv_at hl 0 rfl) ?_
                    refine lv_lstore (lv' := [(11, .long x_91), (5, .long x_91), (3, .long x_86), (10, .int r_82), (9, .int r_81), (8, .int 0), (7, .int (nI ii_5)), (0, .ref (a 0)), (1, .int (nI j_2)), (2, .int (nI j_4))]) hx hb dX8_thought_189 hl (by decide) rfl (fun ls hl => ?_)
                    refine lv_lload hx hb dX8_thought_191 (lv_at hl 0 rfl) ?_
                    refine lv_lconst (v := 0) hx hb dX8_thought_193 (by decide) ?_
                    refine W.lcmp hx hb dX8_thought_194 ?_
                    refine lv_if_le (tgt := 218) hx hb dX8_thought_195 (by decide) (fun c_94 => ?_) (fun c_94 => ?_)
                    · have hth_95 := th_neg hta_87 hta_92 (thg_le c_93) c_94
                      refine lv_iinc (v := (nI (ii_5 + 1))) (lv' := [(7, .int (nI (ii_5 + 1))), (11, .long x_91), (5, .long x_91), (3, .long x_86), (10, .int r_82), (9, .int r_81), (8, .int 0), (0, .ref (a 0)), (1, .int (nI j_2)), (2, .int (nI j_4))]) hx hb dX8_thought_218 hl (k := 6) rfl (nI_add ii_5 1) (by decide) rfl (fun ls hl => ?_)
                      refine lv_goto (tgt := 32) hx hb dX8_thought_221 (by decide) ?_
                      exact ih_5 _ (ii_5 + 1, x_86, x_91) _ _ _ (by omega) ⟨rfl, ⟨⟨by omega, by omega, by omega⟩, hth_95.1, hth_95.2⟩, hP, hS, (lv_sub hl [0, 2, 3, 7, 8, 9] rfl)⟩
                    · refine lv_lload_n hx hb dX8_thought_198 rfl (lv_at hl 2 rfl) ?_
                      refine lv_ldc2 hx hb hown (hts _ tw_1363) dX8_thought_199 ?_
                      refine lv_lmul hx hb dX8_thought_202 ?_
                      refine lv_topl (fun x_96 ex_96 => ?_)
                      refine lv_lload hx hb dX8_thought_203 (lv_at hl 0 rfl) ?_
                      refine lv_ldiv hx hb dX8_thought_205 (fun h => c_94 (by rw [h]; decide)) ?_
                      refine lv_topl (fun x_97 ex_97 => ?_)
                      refine lv_lstore_n (lv' := [(3, .long x_97), (11, .long x_91), (5, .long x_91), (10, .int r_82), (9, .int r_81), (8, .int 0), (7, .int (nI ii_5)), (0, .ref (a 0)), (1, .int (nI j_2)), (2, .int (nI j_4))]) hx hb dX8_thought_206 rfl hl (by decide) rfl (fun ls hl => ?_)
                      refine lv_lload hx hb dX8_thought_207 (lv_at hl 2 rfl) ?_
                      refine lv_ldc2 hx hb hown (hts _ tw_1363) dX8_thought_209 ?_
                      refine lv_lmul hx hb dX8_thought_212 ?_
                      refine lv_topl (fun x_98 ex_98 => ?_)
                      refine lv_lload hx hb dX8_thought_213 (lv_at hl 1 rfl) ?_
                      refine lv_ldiv hx hb dX8_thought_215 (fun h => c_94 (by rw [h]; decide)) ?_
                      refine lv_topl (fun x_99 ex_99 => ?_)
                      refine lv_lstore (lv' := [(5, .long x_99), (3, .long x_97), (11, .long x_91), (10, .int r_82), (9, .int r_81), (8, .int 0), (7, .int (nI ii_5)), (0, .ref (a 0)), (1, .int (nI j_2)), (2, .int (nI j_4))]) hx hb dX8_thought_216 hl (by decide) rfl (fun ls hl => ?_)
                      have hth_100 := th_pos hta_87 hta_92 (thg_le c_93) c_94 ex_96 ex_97 ex_98 ex_99
                      refine lv_iinc (v := (nI (ii_5 + 1))) (lv' := [(7, .int (nI (ii_5 + 1))), (5, .long x_99), (3, .long x_97), (11, .long x_91), (10, .int r_82), (9, .int r_81), (8, .int 0), (0, .ref (a 0)), (1, .int (nI j_2)), (2, .int (nI j_4))]) hx hb dX8_thought_218 hl (k := 6) rfl (nI_add ii_5 1) (by decide) rfl (fun ls hl => ?_)
                      refine lv_goto (tgt := 32) hx hb dX8_thought_221 (by decide) ?_
                      exact ih_5 _ (ii_5 + 1, x_97, x_99) _ _ _ (by omega) ⟨rfl, ⟨⟨by omega, by omega, by omega⟩, hth_100.1, hth_100.2⟩, hP, hS, (lv_sub hl [0, 1, 2, 7, 8, 9] rfl)⟩
                  · refine lv_lload_n hx hb dX8_thought_183 rfl (lv_at hl 1 rfl) ?_
                    refine lv_goto (tgt := 189) hx hb dX8_thought_184 (by decide) ?_
                    refine lv_lstore (lv' := [(11, .long x_86), (5, .long x_91), (3, .long x_86), (10, .int r_82), (9, .int r_81), (8, .int 0), (7, .int (nI ii_5)), (0, .ref (a 0)), (1, .int (nI j_2)), (2, .int (nI j_4))]) hx hb dX8_thought_189 hl (by decide) rfl (fun ls hl => ?_)
                    refine lv_lload hx hb dX8_thought_191 (lv_at hl 0 rfl) ?_
                    refine lv_lconst (v := 0) hx hb dX8_thought_193 (by decide) ?_
                    refine W.lcmp hx hb dX8_thought_194 ?_
                    refine lv_if_le (tgt := 218) hx hb dX8_thought_195 (by decide) (fun c_101 => ?_) (fun c_101 => ?_)
                    · have hth_102 := th_neg hta_87 hta_92 (thg_gt c_93) c_101
                      refine lv_iinc (v := (nI (ii_5 + 1))) (lv' := [(7, .int (nI (ii_5 + 1))), (11, .long x_86), (5, .long x_91), (3, .long x_86), (10, .int r_82), (9, .int r_81), (8, .int 0), (0, .ref (a 0)), (1, .int (nI j_2)), (2, .int (nI j_4))]) hx hb dX8_thought_218 hl (k := 6) rfl (nI_add ii_5 1) (by decide) rfl (fun ls hl => ?_)
                      refine lv_goto (tgt := 32) hx hb dX8_thought_221 (by decide) ?_
                      exact ih_5 _ (ii_5 + 1, x_86, x_91) _ _ _ (by omega) ⟨rfl, ⟨⟨by omega, by omega, by omega⟩, hth_102.1, hth_102.2⟩, hP, hS, (lv_sub hl [0, 2, 3, 7, 8, 9] rfl)⟩
                    · refine lv_lload_n hx hb dX8_thought_198 rfl (lv_at hl 2 rfl) ?_
                      refine lv_ldc2 hx hb hown (hts _ tw_1363) dX8_thought_199 ?_
                      refine lv_lmul hx hb dX8_thought_202 ?_
                      refine lv_topl (fun x_103 ex_103 => ?_)
                      refine lv_lload hx hb dX8_thought_203 (lv_at hl 0 rfl) ?_
                      refine lv_ldiv hx hb dX8_thought_205 (fun h => c_101 (by rw [h]; decide)) ?_
                      refine lv_topl (fun x_104 ex_104 => ?_)
                      refine lv_lstore_n (lv' := [(3, .long x_104), (11, .long x_86), (5, .long x_91), (10, .int r_82), (9, .int r_81), (8, .int 0), (7, .int (nI ii_5)), (0, .ref (a 0)), (1, .int (nI j_2)), (2, .int (nI j_4))]) hx hb dX8_thought_206 rfl hl (by decide) rfl (fun ls hl => ?_)
                      refine lv_lload hx hb dX8_thought_207 (lv_at hl 2 rfl) ?_
                      refine lv_ldc2 hx hb hown (hts _ tw_1363) dX8_thought_209 ?_
                      refine lv_lmul hx hb dX8_thought_212 ?_
                      refine lv_topl (fun x_105 ex_105 => ?_)
                      refine lv_lload hx hb dX8_thought_213 (lv_at hl 1 rfl) ?_
                      refine lv_ldiv hx hb dX8_thought_215 (fun h => c_101 (by rw [h]; decide)) ?_
                      refine lv_topl (fun x_106 ex_106 => ?_)
                      refine lv_lstore (lv' := [(5, .long x_106), (3, .long x_104), (11, .long x_86), (10, .int r_82), (9, .int r_81), (8, .int 0), (7, .int (nI ii_5)), (0, .ref (a 0)), (1, .int (nI j_2)), (2, .int (nI j_4))]) hx hb dX8_thought_216 hl (by decide) rfl (fun ls hl => ?_)
                      have hth_107 := th_pos hta_87 hta_92 (thg_gt c_93) c_101 ex_103 ex_104 ex_105 ex_106
                      refine lv_iinc (v := (nI (ii_5 + 1))) (lv' := [(7, .int (nI (ii_5 + 1))), (5, .long x_106), (3, .long x_104), (11, .long x_86), (10, .int r_82), (9, .int r_81), (8, .int 0), (0, .ref (a 0)), (1, .int (nI j_2)), (2, .int (nI j_4))]) hx hb dX8_thought_218 hl (k := 6) rfl (nI_add ii_5 1) (by decide) rfl (fun ls hl => ?_)
                      refine lv_goto (tgt := 32) hx hb dX8_thought_221 (by decide) ?_
                      exact ih_5 _ (ii_5 + 1, x_104, x_106) _ _ _ (by omega) ⟨rfl, ⟨⟨by omega, by omega, by omega⟩, hth_107.1, hth_107.2⟩, hP, hS, (lv_sub hl [0, 1, 2, 7, 8, 9] rfl)⟩
                · refine lv_iload hx hb dX8_thought_129 (lv_at hl 1 rfl) ?_
                  refine lv_goto (tgt := 139) hx hb dX8_thought_131 (by decide) ?_
                  refine lv_i2l (v := r_81.toInt64) hx hb dX8_thought_139 rfl ?_
                  refine lv_lmul hx hb dX8_thought_140 ?_
                  refine lv_topl (fun x_108 ex_108 => ?_)
                  refine lv_ldc2 hx hb hown (hts _ tw_1272) dX8_thought_141 ?_
                  refine lv_ldiv hx hb dX8_thought_144 (by decide) ?_
                  refine lv_topl (fun x_109 ex_109 => ?_)
                  have hta_110 : x_109 = thA (thN (sdM dn (sg se tm gs) ffrees fprices j_2) (sdM dn (sg se tm gs) ffrees fprices j_4) frow ii_5).1 (pLk (sdM dn (sg se tm gs) ffrees fprices j_2) ii_5 (pAhd frow ii_5) (frow ii_5)) := by unfold thA pLk; rw [if_pos ((hfr _ (by omega)).resolve_left c_83), ← hah_80, ex_109, ex_108, hw_81, mChance (dn := dn) (fpr := fprices) (show ii_5 < dn j_2 by omega), hv_5.2.1]
                  refine lv_lstore_n (lv' := [(3, .long x_109), (10, .int r_82), (9, .int r_81), (8, .int 0), (7, .int (nI ii_5)), (5, .long v2_5), (0, .ref (a 0)), (1, .int (nI j_2)), (2, .int (nI j_4))]) hx hb dX8_thought_145 rfl hl (by decide) rfl (fun ls hl => ?_)
                  refine lv_lload hx hb dX8_thought_146 (lv_at hl 5 rfl) ?_
                  refine lv_aload_n hx hb dX8_thought_148 rfl (lv_at hl 6 rfl) ?_
                  refine va_get (D := D) (ci := 8) (v := .ref (a 32)) (C := RX8) (T := TX8) (N := 44) hx hb hts inX8 hown hK hP 0 rfl rfl 31 (by decide) (hts _ tw_1004) (fun _ h9 => h9) rfl dX8_thought_149 ?_
                  refine lv_iload hx hb dX8_thought_152 (lv_at hl 4 rfl) ?_
                  refine va_zald hx hb hK hP 5 2 rfl rfl (vp_in_nI (by omega) (by decide)) dX8_thought_154 ?_
                  refine lv_ti (y := (frow ii_5)) (by rw [nI_clamp (by omega)]) ?_
                  refine lv_if_eq (tgt := 163) hx hb dX8_thought_155 (by decide) (fun c_111 => absurd c_111 (c_83)) (fun c_111 => ?_)
                  refine lv_iload hx hb dX8_thought_158 (lv_at hl 1 rfl) ?_
                  refine lv_goto (tgt := 168) hx hb dX8_thought_160 (by decide) ?_
                  refine lv_i2l (v := r_82.toInt64) hx hb dX8_thought_168 rfl ?_
                  refine lv_lmul hx hb dX8_thought_169 ?_
                  refine lv_topl (fun x_112 ex_112 => ?_)
                  refine lv_ldc2 hx hb hown (hts _ tw_1272) dX8_thought_170 ?_
                  refine lv_ldiv hx hb dX8_thought_173 (by decide) ?_
                  refine lv_topl (fun x_113 ex_113 => ?_)
                  have hta_114 : x_113 = thA (thN (sdM dn (sg se tm gs) ffrees fprices j_2) (sdM dn (sg se tm gs) ffrees fprices j_4) frow ii_5).2 (pLk (sdM dn (sg se tm gs) ffrees fprices j_4) ii_5 (pAhd frow ii_5) (frow ii_5)) := by unfold thA pLk; rw [if_pos ((hfr _ (by omega)).resolve_left c_83), ← hah_80, ex_113, ex_112, hw_82, mChance (dn := dn) (fpr := fprices) (show ii_5 < dn j_4 by omega), hv_5.2.2]
                  refine lv_lstore (lv' := [(5, .long x_113), (3, .long x_109), (10, .int r_82), (9, .int r_81), (8, .int 0), (7, .int (nI ii_5)), (0, .ref (a 0)), (1, .int (nI j_2)), (2, .int (nI j_4))]) hx hb dX8_thought_174 hl (by decide) rfl (fun ls hl => ?_)
                  refine lv_lload_n hx hb dX8_thought_176 rfl (lv_at hl 1 rfl) ?_
                  refine lv_lload hx hb dX8_thought_177 (lv_at hl 0 rfl) ?_
                  refine W.lcmp hx hb dX8_thought_179 ?_
                  refine lv_if_le (tgt := 187) hx hb dX8_thought_180 (by decide) (fun c_115 => ?_) (fun c_115 => ?_)
                  · refine lv_lload hx hb dX8_thought_187 (lv_at hl 0 rfl) ?_
                    refine lv_lstore (lv' := [(11, .long x_113), (5, .long x_113), (3, .long x_109), (10, .int r_82), (9, .int r_81), (8, .int 0), (7, .int (nI ii_5)), (0, .ref (a 0)), (1, .int (nI j_2)), (2, .int (nI j_4))]) hx hb dX8_thought_189 hl (by decide) rfl (fun ls hl => ?_)
                    refine lv_lload hx hb dX8_thought_191 (lv_at hl 0 rfl) ?_
                    refine lv_lconst (v := 0) hx hb dX8_thought_193 (by decide) ?_
                    refine W.lcmp hx hb dX8_thought_194 ?_
                    refine lv_if_le (tgt := 218) hx hb dX8_thought_195 (by decide) (fun c_116 => ?_) (fun c_116 => ?_)
                    · have hth_117 := th_neg hta_110 hta_114 (thg_le c_115) c_116
                      refine lv_iinc (v := (nI (ii_5 + 1))) (lv' := [(7, .int (nI (ii_5 + 1))), (11, .long x_113), (5, .long x_113), (3, .long x_109), (10, .int r_82), (9, .int r_81), (8, .int 0), (0, .ref (a 0)), (1, .int (nI j_2)), (2, .int (nI j_4))]) hx hb dX8_thought_218 hl (k := 6) rfl (nI_add ii_5 1) (by decide) rfl (fun ls hl => ?_)
                      refine lv_goto (tgt := 32) hx hb dX8_thought_221 (by decide) ?_
                      exact ih_5 _ (ii_5 + 1, x_109, x_113) _ _ _ (by omega) ⟨rfl, ⟨⟨by omega, by omega, by omega⟩, hth_117.1, hth_117.2⟩, hP, hS, (lv_sub hl [0, 2, 3, 7, 8, 9] rfl)⟩
                    · refine lv_lload_n hx hb dX8_thought_198 rfl (lv_at hl 2 rfl) ?_
                      refine lv_ldc2 hx hb hown (hts _ tw_1363) dX8_thought_199 ?_
                      refine lv_lmul hx hb dX8_thought_202 ?_
                      refine lv_topl (fun x_118 ex_118 => ?_)
                      refine lv_lload hx hb dX8_thought_203 (lv_at hl 0 rfl) ?_
                      refine lv_ldiv hx hb dX8_thought_205 (fun h => c_116 (by rw [h]; decide)) ?_
                      refine lv_topl (fun x_119 ex_119 => ?_)
                      refine lv_lstore_n (lv' := [(3, .long x_119), (11, .long x_113), (5, .long x_113), (10, .int r_82), (9, .int r_81), (8, .int 0), (7, .int (nI ii_5)), (0, .ref (a 0)), (1, .int (nI j_2)), (2, .int (nI j_4))]) hx hb dX8_thought_206 rfl hl (by decide) rfl (fun ls hl => ?_)
                      refine lv_lload hx hb dX8_thought_207 (lv_at hl 2 rfl) ?_
                      refine lv_ldc2 hx hb hown (hts _ tw_1363) dX8_thought_209 ?_
                      refine lv_lmul hx hb dX8_thought_212 ?_
                      refine lv_topl (fun x_120 ex_120 => ?_)
                      refine lv_lload hx hb dX8_thought_213 (lv_at hl 1 rfl) ?_
                      refine lv_ldiv hx hb dX8_thought_215 (fun h => c_116 (by rw [h]; decide)) ?_
                      refine lv_topl (fun x_121 ex_121 => ?_)
                      refine lv_lstore (lv' := [(5, .long x_121), (3, .long x_119), (11, .long x_113), (10, .int r_82), (9, .int r_81), (8, .int 0), (7, .int (nI ii_5)), (0, .ref (a 0)), (1, .int (nI j_2)), (2, .int (nI j_4))]) hx hb dX8_thought_216 hl (by decide) rfl (fun ls hl => ?_)
                      have hth_122 := th_pos hta_110 hta_114 (thg_le c_115) c_116 ex_118 ex_119 ex_120 ex_121
                      refine lv_iinc (v := (nI (ii_5 + 1))) (lv' := [(7, .int (nI (ii_5 + 1))), (5, .long x_121), (3, .long x_119), (11, .long x_113), (10, .int r_82), (9, .int r_81), (8, .int 0), (0, .ref (a 0)), (1, .int (nI j_2)), (2, .int (nI j_4))]) hx hb dX8_thought_218 hl (k := 6) rfl (nI_add ii_5 1) (by decide) rfl (fun ls hl => ?_)
                      refine lv_goto (tgt := 32) hx hb dX8_thought_221 (by decide) ?_
                      exact ih_5 _ (ii_5 + 1, x_119, x_121) _ _ _ (by omega) ⟨rfl, ⟨⟨by omega, by omega, by omega⟩, hth_122.1, hth_122.2⟩, hP, hS, (lv_sub hl [0, 1, 2, 7, 8, 9] rfl)⟩
                  · refine lv_lload_n hx hb dX8_thought_183 rfl (lv_at hl 1 rfl) ?_
                    refine lv_goto (tgt := 189) hx hb dX8_thought_184 (by decide) ?_
                    refine lv_lstore (lv' := [(11, .long x_109), (5, .long x_113), (3, .long x_109), (10, .int r_82), (9, .int r_81), (8, .int 0), (7, .int (nI ii_5)), (0, .ref (a 0)), (1, .int (nI j_2)), (2, .int (nI j_4))]) hx hb dX8_thought_189 hl (by decide) rfl (fun ls hl => ?_)
                    refine lv_lload hx hb dX8_thought_191 (lv_at hl 0 rfl) ?_
                    refine lv_lconst (v := 0) hx hb dX8_thought_193 (by decide) ?_
                    refine W.lcmp hx hb dX8_thought_194 ?_
                    refine lv_if_le (tgt := 218) hx hb dX8_thought_195 (by decide) (fun c_123 => ?_) (fun c_123 => ?_)
                    · have hth_124 := th_neg hta_110 hta_114 (thg_gt c_115) c_123
                      refine lv_iinc (v := (nI (ii_5 + 1))) (lv' := [(7, .int (nI (ii_5 + 1))), (11, .long x_109), (5, .long x_113), (3, .long x_109), (10, .int r_82), (9, .int r_81), (8, .int 0), (0, .ref (a 0)), (1, .int (nI j_2)), (2, .int (nI j_4))]) hx hb dX8_thought_218 hl (k := 6) rfl (nI_add ii_5 1) (by decide) rfl (fun ls hl => ?_)
                      refine lv_goto (tgt := 32) hx hb dX8_thought_221 (by decide) ?_
                      exact ih_5 _ (ii_5 + 1, x_109, x_113) _ _ _ (by omega) ⟨rfl, ⟨⟨by omega, by omega, by omega⟩, hth_124.1, hth_124.2⟩, hP, hS, (lv_sub hl [0, 2, 3, 7, 8, 9] rfl)⟩
                    · refine lv_lload_n hx hb dX8_thought_198 rfl (lv_at hl 2 rfl) ?_
                      refine lv_ldc2 hx hb hown (hts _ tw_1363) dX8_thought_199 ?_
                      refine lv_lmul hx hb dX8_thought_202 ?_
                      refine lv_topl (fun x_125 ex_125 => ?_)
                      refine lv_lload hx hb dX8_thought_203 (lv_at hl 0 rfl) ?_
                      refine lv_ldiv hx hb dX8_thought_205 (fun h => c_123 (by rw [h]; decide)) ?_
                      refine lv_topl (fun x_126 ex_126 => ?_)
                      refine lv_lstore_n (lv' := [(3, .long x_126), (11, .long x_109), (5, .long x_113), (10, .int r_82), (9, .int r_81), (8, .int 0), (7, .int (nI ii_5)), (0, .ref (a 0)), (1, .int (nI j_2)), (2, .int (nI j_4))]) hx hb dX8_thought_206 rfl hl (by decide) rfl (fun ls hl => ?_)
                      refine lv_lload hx hb dX8_thought_207 (lv_at hl 2 rfl) ?_
                      refine lv_ldc2 hx hb hown (hts _ tw_1363) dX8_thought_209 ?_
                      refine lv_lmul hx hb dX8_thought_212 ?_
                      refine lv_topl (fun x_127 ex_127 => ?_)
                      refine lv_lload hx hb dX8_thought_213 (lv_at hl 1 rfl) ?_
                      refine lv_ldiv hx hb dX8_thought_215 (fun h => c_123 (by rw [h]; decide)) ?_
                      refine lv_topl (fun x_128 ex_128 => ?_)
                      refine lv_lstore (lv' := [(5, .long x_128), (3, .long x_126), (11, .long x_109), (10, .int r_82), (9, .int r_81), (8, .int 0), (7, .int (nI ii_5)), (0, .ref (a 0)), (1, .int (nI j_2)), (2, .int (nI j_4))]) hx hb dX8_thought_216 hl (by decide) rfl (fun ls hl => ?_)
                      have hth_129 := th_pos hta_110 hta_114 (thg_gt c_115) c_123 ex_125 ex_126 ex_127 ex_128
                      refine lv_iinc (v := (nI (ii_5 + 1))) (lv' := [(7, .int (nI (ii_5 + 1))), (5, .long x_128), (3, .long x_126), (11, .long x_109), (10, .int r_82), (9, .int r_81), (8, .int 0), (0, .ref (a 0)), (1, .int (nI j_2)), (2, .int (nI j_4))]) hx hb dX8_thought_218 hl (k := 6) rfl (nI_add ii_5 1) (by decide) rfl (fun ls hl => ?_)
                      refine lv_goto (tgt := 32) hx hb dX8_thought_221 (by decide) ?_
                      exact ih_5 _ (ii_5 + 1, x_126, x_128) _ _ _ (by omega) ⟨rfl, ⟨⟨by omega, by omega, by omega⟩, hth_129.1, hth_129.2⟩, hP, hS, (lv_sub hl [0, 1, 2, 7, 8, 9] rfl)⟩
              · refine lv_iconst (v := 1) hx hb dX8_thought_89 (by decide) ?_
                refine lv_goto (tgt := 94) hx hb dX8_thought_90 (by decide) ?_
                have hah_130 : (1 : Int32) = pAhd frow ii_5 := thh_1 (by omega) ((hfr _ (by omega)).resolve_left c_79)
                refine lv_istore (lv' := [(8, .int 1), (7, .int (nI ii_5)), (5, .long v2_5), (3, .long w2_5), (0, .ref (a 0)), (1, .int (nI j_2)), (2, .int (nI j_4))]) hx hb dX8_thought_94 hl (by decide) rfl (fun ls hl => ?_)
                refine lv_aload_n hx hb dX8_thought_96 rfl (lv_at hl 4 rfl) ?_
                refine lv_iload_n hx hb dX8_thought_97 rfl (lv_at hl 5 rfl) ?_
                refine lv_iload hx hb dX8_thought_98 (lv_at hl 1 rfl) ?_
                refine lv_iload hx hb dX8_thought_100 (lv_at hl 0 rfl) ?_
                refine ro_i (D := D) (va_runV (As := [.int (nI j_2), .int (nI ii_5), .int 1]) (rest := []) ⟨hx, hb, hml, hown, hts⟩ ((n_chanceOf l D k st lo a tx t0 we rd ru rw ca fp wd nu na ts df db sd ffrees se tm gs j_2 ii_5 1 (by first | assumption | omega) (by first | assumption | omega)) H.size) (cwV 3 hts (gV tw_1210 tw_1212 tw_41 tw_87 tw_1213) rfl rfl rfl (by decide +kernel) ⟨Nat.le_of_ble_eq_true rfl, Nat.le_of_ble_eq_true rfl⟩) (pV hS hAlo hlo hP hK hDL hZ [0, 3, 2] (by decide) rfl (ci := 8) (q := (RX8, TX8, 44)) (q0 := 0) rfl rfl) rfl rfl hl.1 rfl (lv_room (Nat.le_of_ble_eq_true rfl)) dX8_thought_102 ⟨Nat.le_of_ble_eq_true rfl, Nat.le_of_ble_eq_true rfl⟩) hS hA hP (fun r_131 H locs hw_131 hP hS => ?_)
                try dsimp only at hw_131
                refine lv_istore (lv' := [(9, .int r_131), (8, .int 1), (7, .int (nI ii_5)), (5, .long v2_5), (3, .long w2_5), (0, .ref (a 0)), (1, .int (nI j_2)), (2, .int (nI j_4))]) hx hb dX8_thought_105 hl (by decide) rfl (fun ls hl => ?_)
                refine lv_aload_n hx hb dX8_thought_107 rfl (lv_at hl 5 rfl) ?_
                refine lv_iload_n hx hb dX8_thought_108 rfl (lv_at hl 7 rfl) ?_
                refine lv_iload hx hb dX8_thought_109 (lv_at hl 2 rfl) ?_
                refine lv_iload hx hb dX8_thought_111 (lv_at hl 1 rfl) ?_
                refine ro_i (D := D) (va_runV (As := [.int (nI j_4), .int (nI ii_5), .int 1]) (rest := []) ⟨hx, hb, hml, hown, hts⟩ ((n_chanceOf l D k st lo a tx t0 we rd ru rw ca fp wd nu na ts df db sd ffrees se tm gs j_4 ii_5 1 (by first | assumption | omega) (by first | assumption | omega)) H.size) (cwV 3 hts (gV tw_1210 tw_1212 tw_41 tw_87 tw_1213) rfl rfl rfl (by decide +kernel) ⟨Nat.le_of_ble_eq_true rfl, Nat.le_of_ble_eq_true rfl⟩) (pV hS hAlo hlo hP hK hDL hZ [0, 3, 2] (by decide) rfl (ci := 8) (q := (RX8, TX8, 44)) (q0 := 0) rfl rfl) rfl rfl hl.1 rfl (lv_room (Nat.le_of_ble_eq_true rfl)) dX8_thought_113 ⟨Nat.le_of_ble_eq_true rfl, Nat.le_of_ble_eq_true rfl⟩) hS hA hP (fun r_132 H locs hw_132 hP hS => ?_)
                try dsimp only at hw_132
                refine lv_istore (lv' := [(10, .int r_132), (9, .int r_131), (8, .int 1), (7, .int (nI ii_5)), (5, .long v2_5), (3, .long w2_5), (0, .ref (a 0)), (1, .int (nI j_2)), (2, .int (nI j_4))]) hx hb dX8_thought_116 hl (by decide) rfl (fun ls hl => ?_)
                refine lv_lload_n hx hb dX8_thought_118 rfl (lv_at hl 5 rfl) ?_
                refine lv_aload_n hx hb dX8_thought_119 rfl (lv_at hl 6 rfl) ?_
                refine va_get (D := D) (ci := 8) (v := .ref (a 32)) (C := RX8) (T := TX8) (N := 44) hx hb hts inX8 hown hK hP 0 rfl rfl 31 (by decide) (hts _ tw_1004) (fun _ h9 => h9) rfl dX8_thought_120 ?_
                refine lv_iload hx hb dX8_thought_123 (lv_at hl 3 rfl) ?_
                refine va_zald hx hb hK hP 5 2 rfl rfl (vp_in_nI (by omega) (by decide)) dX8_thought_125 ?_
                refine lv_ti (y := (frow ii_5)) (by rw [nI_clamp (by omega)]) ?_
                refine lv_if_eq (tgt := 134) hx hb dX8_thought_126 (by decide) (fun c_133 => ?_) (fun c_133 => ?_)
                · refine lv_bipush (v := 100) hx hb dX8_thought_134 (by decide) ?_
                  refine lv_iload hx hb dX8_thought_136 (lv_at hl 1 rfl) ?_
                  refine lv_isub hx hb dX8_thought_138 ?_
                  refine lv_topi (fun x_134 ex_134 => ?_)
                  refine lv_i2l (v := x_134.toInt64) hx hb dX8_thought_139 rfl ?_
                  refine lv_lmul hx hb dX8_thought_140 ?_
                  refine lv_topl (fun x_135 ex_135 => ?_)
                  refine lv_ldc2 hx hb hown (hts _ tw_1272) dX8_thought_141 ?_
                  refine lv_ldiv hx hb dX8_thought_144 (by decide) ?_
                  refine lv_topl (fun x_136 ex_136 => ?_)
                  have hta_137 : x_136 = thA (thN (sdM dn (sg se tm gs) ffrees fprices j_2) (sdM dn (sg se tm gs) ffrees fprices j_4) frow ii_5).1 (pLk (sdM dn (sg se tm gs) ffrees fprices j_2) ii_5 (pAhd frow ii_5) (frow ii_5)) := by unfold thA pLk; rw [if_neg (by rw [c_133]; decide), ← hah_130, ex_136, ex_135, ex_134, hw_131, mChance (dn := dn) (fpr := fprices) (show ii_5 < dn j_2 by omega), hv_5.2.1]
                  refine lv_lstore_n (lv' := [(3, .long x_136), (10, .int r_132), (9, .int r_131), (8, .int 1), (7, .int (nI ii_5)), (5, .long v2_5), (0, .ref (a 0)), (1, .int (nI j_2)), (2, .int (nI j_4))]) hx hb dX8_thought_145 rfl hl (by decide) rfl (fun ls hl => ?_)
                  refine lv_lload hx hb dX8_thought_146 (lv_at hl 5 rfl) ?_
                  refine lv_aload_n hx hb dX8_thought_148 rfl (lv_at hl 6 rfl) ?_
                  refine va_get (D := D) (ci := 8) (v := .ref (a 32)) (C := RX8) (T := TX8) (N := 44) hx hb hts inX8 hown hK hP 0 rfl rfl 31 (by decide) (hts _ tw_1004) (fun _ h9 => h9) rfl dX8_thought_149 ?_
                  refine lv_iload hx hb dX8_thought_152 (lv_at hl 4 rfl) ?_
                  refine va_zald hx hb hK hP 5 2 rfl rfl (vp_in_nI (by omega) (by decide)) dX8_thought_154 ?_
                  refine lv_ti (y := (frow ii_5)) (by rw [nI_clamp (by omega)]) ?_
                  refine lv_if_eq (tgt := 163) hx hb dX8_thought_155 (by decide) (fun c_138 => ?_) (fun c_138 => absurd c_138 (fun h => h c_133))
                  refine lv_bipush (v := 100) hx hb dX8_thought_163 (by decide) ?_
                  refine lv_iload hx hb dX8_thought_165 (lv_at hl 1 rfl) ?_
                  refine lv_isub hx hb dX8_thought_167 ?_
                  refine lv_topi (fun x_139 ex_139 => ?_)
                  refine lv_i2l (v := x_139.toInt64) hx hb dX8_thought_168 rfl ?_
                  refine lv_lmul hx hb dX8_thought_169 ?_
                  refine lv_topl (fun x_140 ex_140 => ?_)
                  refine lv_ldc2 hx hb hown (hts _ tw_1272) dX8_thought_170 ?_
                  refine lv_ldiv hx hb dX8_thought_173 (by decide) ?_
                  refine lv_topl (fun x_141 ex_141 => ?_)
                  have hta_142 : x_141 = thA (thN (sdM dn (sg se tm gs) ffrees fprices j_2) (sdM dn (sg se tm gs) ffrees fprices j_4) frow ii_5).2 (pLk (sdM dn (sg se tm gs) ffrees fprices j_4) ii_5 (pAhd frow ii_5) (frow ii_5)) := by unfold thA pLk; rw [if_neg (by rw [c_133]; decide), ← hah_130, ex_141, ex_140, ex_139, hw_132, mChance (dn := dn) (fpr := fprices) (show ii_5 < dn j_4 by omega), hv_5.2.2]
                  refine lv_lstore (lv' := [(5, .long x_141), (3, .long x_136), (10, .int r_132), (9, .int r_131), (8, .int 1), (7, .int (nI ii_5)), (0, .ref (a 0)), (1, .int (nI j_2)), (2, .int (nI j_4))]) hx hb dX8_thought_174 hl (by decide) rfl (fun ls hl => ?_)
                  refine lv_lload_n hx hb dX8_thought_176 rfl (lv_at hl 1 rfl) ?_
                  refine lv_lload hx hb dX8_thought_177 (lv_at hl 0 rfl) ?_
                  refine W.lcmp hx hb dX8_thought_179 ?_
                  refine lv_if_le (tgt := 187) hx hb dX8_thought_180 (by decide) (fun c_143 => ?_) (fun c_143 => ?_)
                  · refine lv_lload hx hb dX8_thought_187 (lv_at hl 0 rfl) ?_
                    refine lv_lstore (lv' := [(11, .long x_141), (5, .long x_141), (3, .long x_136), (10, .int r_132), (9, .int r_131), (8, .int 1), (7, .int (nI ii_5)), (0, .ref (a 0)), (1, .int (nI j_2)), (2, .int (nI j_4))]) hx hb dX8_thought_189 hl (by decide) rfl (fun ls hl => ?_)
                    refine lv_lload hx hb dX8_thought_191 (lv_at hl 0 rfl) ?_
                    refine lv_lconst (v := 0) hx hb dX8_thought_193 (by decide) ?_
                    refine W.lcmp hx hb dX8_thought_194 ?_
                    refine lv_if_le (tgt := 218) hx hb dX8_thought_195 (by decide) (fun c_144 => ?_) (fun c_144 => ?_)
                    · have hth_145 := th_neg hta_137 hta_142 (thg_le c_143) c_144
                      refine lv_iinc (v := (nI (ii_5 + 1))) (lv' := [(7, .int (nI (ii_5 + 1))), (11, .long x_141), (5, .long x_141), (3, .long x_136), (10, .int r_132), (9, .int r_131), (8, .int 1), (0, .ref (a 0)), (1, .int (nI j_2)), (2, .int (nI j_4))]) hx hb dX8_thought_218 hl (k := 6) rfl (nI_add ii_5 1) (by decide) rfl (fun ls hl => ?_)
                      refine lv_goto (tgt := 32) hx hb dX8_thought_221 (by decide) ?_
                      exact ih_5 _ (ii_5 + 1, x_136, x_141) _ _ _ (by omega) ⟨rfl, ⟨⟨by omega, by omega, by omega⟩, hth_145.1, hth_145.2⟩, hP, hS, (lv_sub hl [0, 2, 3, 7, 8, 9] rfl)⟩
                    · refine lv_lload_n hx hb dX8_thought_198 rfl (lv_at hl 2 rfl) ?_
                      refine lv_ldc2 hx hb hown (hts _ tw_1363) dX8_thought_199 ?_
                      refine lv_lmul hx hb dX8_thought_202 ?_
                      refine lv_topl (fun x_146 ex_146 => ?_)
                      refine lv_lload hx hb dX8_thought_203 (lv_at hl 0 rfl) ?_
                      refine lv_ldiv hx hb dX8_thought_205 (fun h => c_144 (by rw [h]; decide)) ?_
                      refine lv_topl (fun x_147 ex_147 => ?_)
                      refine lv_lstore_n (lv' := [(3, .long x_147), (11, .long x_141), (5, .long x_141), (10, .int r_132), (9, .int r_131), (8, .int 1), (7, .int (nI ii_5)), (0, .ref (a 0)), (1, .int (nI j_2)), (2, .int (nI j_4))]) hx hb dX8_thought_206 rfl hl (by decide) rfl (fun ls hl => ?_)
                      refine lv_lload hx hb dX8_thought_207 (lv_at hl 2 rfl) ?_
                      refine lv_ldc2 hx hb hown (hts _ tw_1363) dX8_thought_209 ?_
                      refine lv_lmul hx hb dX8_thought_212 ?_
                      refine lv_topl (fun x_148 ex_148 => ?_)
                      refine lv_lload hx hb dX8_thought_213 (lv_at hl 1 rfl) ?_
                      refine lv_ldiv hx hb dX8_thought_215 (fun h => c_144 (by rw [h]; decide)) ?_
                      refine lv_topl (fun x_149 ex_149 => ?_)
                      refine lv_lstore (lv' := [(5, .long x_149), (3, .long x_147), (11, .long x_141), (10, .int r_132), (9, .int r_131), (8, .int 1), (7, .int (nI ii_5)), (0, .ref (a 0)), (1, .int (nI j_2)), (2, .int (nI j_4))]) hx hb dX8_thought_216 hl (by decide) rfl (fun ls hl => ?_)
                      have hth_150 := th_pos hta_137 hta_142 (thg_le c_143) c_144 ex_146 ex_147 ex_148 ex_149
                      refine lv_iinc (v := (nI (ii_5 + 1))) (lv' := [(7, .int (nI (ii_5 + 1))), (5, .long x_149), (3, .long x_147), (11, .long x_141), (10, .int r_132), (9, .int r_131), (8, .int 1), (0, .ref (a 0)), (1, .int (nI j_2)), (2, .int (nI j_4))]) hx hb dX8_thought_218 hl (k := 6) rfl (nI_add ii_5 1) (by decide) rfl (fun ls hl => ?_)
                      refine lv_goto (tgt := 32) hx hb dX8_thought_221 (by decide) ?_
                      exact ih_5 _ (ii_5 + 1, x_147, x_149) _ _ _ (by omega) ⟨rfl, ⟨⟨by omega, by omega, by omega⟩, hth_150.1, hth_150.2⟩, hP, hS, (lv_sub hl [0, 1, 2, 7, 8, 9] rfl)⟩
                  · refine lv_lload_n hx hb dX8_thought_183 rfl (lv_at hl 1 rfl) ?_
                    refine lv_goto (tgt := 189) hx hb dX8_thought_184 (by decide) ?_
                    refine lv_lstore (lv' := [(11, .long x_136), (5, .long x_141), (3, .long x_136), (10, .int r_132), (9, .int r_131), (8, .int 1), (7, .int (nI ii_5)), (0, .ref (a 0)), (1, .int (nI j_2)), (2, .int (nI j_4))]) hx hb dX8_thought_189 hl (by decide) rfl (fun ls hl => ?_)
                    refine lv_lload hx hb dX8_thought_191 (lv_at hl 0 rfl) ?_
                    refine lv_lconst (v := 0) hx hb dX8_thought_193 (by decide) ?_
                    refine W.lcmp hx hb dX8_thought_194 ?_
                    refine lv_if_le (tgt := 218) hx hb dX8_thought_195 (by decide) (fun c_151 => ?_) (fun c_151 => ?_)
                    · have hth_152 := th_neg hta_137 hta_142 (thg_gt c_143) c_151
                      refine lv_iinc (v := (nI (ii_5 + 1))) (lv' := [(7, .int (nI (ii_5 + 1))), (11, .long x_136), (5, .long x_141), (3, .long x_136), (10, .int r_132), (9, .int r_131), (8, .int 1), (0, .ref (a 0)), (1, .int (nI j_2)), (2, .int (nI j_4))]) hx hb dX8_thought_218 hl (k := 6) rfl (nI_add ii_5 1) (by decide) rfl (fun ls hl => ?_)
                      refine lv_goto (tgt := 32) hx hb dX8_thought_221 (by decide) ?_
                      exact ih_5 _ (ii_5 + 1, x_136, x_141) _ _ _ (by omega) ⟨rfl, ⟨⟨by omega, by omega, by omega⟩, hth_152.1, hth_152.2⟩, hP, hS, (lv_sub hl [0, 2, 3, 7, 8, 9] rfl)⟩
                    · refine lv_lload_n hx hb dX8_thought_198 rfl (lv_at hl 2 rfl) ?_
                      refine lv_ldc2 hx hb hown (hts _ tw_1363) dX8_thought_199 ?_
                      refine lv_lmul hx hb dX8_thought_202 ?_
                      refine lv_topl (fun x_153 ex_153 => ?_)
                      refine lv_lload hx hb dX8_thought_203 (lv_at hl 0 rfl) ?_
                      refine lv_ldiv hx hb dX8_thought_205 (fun h => c_151 (by rw [h]; decide)) ?_
                      refine lv_topl (fun x_154 ex_154 => ?_)
                      refine lv_lstore_n (lv' := [(3, .long x_154), (11, .long x_136), (5, .long x_141), (10, .int r_132), (9, .int r_131), (8, .int 1), (7, .int (nI ii_5)), (0, .ref (a 0)), (1, .int (nI j_2)), (2, .int (nI j_4))]) hx hb dX8_thought_206 rfl hl (by decide) rfl (fun ls hl => ?_)
                      refine lv_lload hx hb dX8_thought_207 (lv_at hl 2 rfl) ?_
                      refine lv_ldc2 hx hb hown (hts _ tw_1363) dX8_thought_209 ?_
                      refine lv_lmul hx hb dX8_thought_212 ?_
                      refine lv_topl (fun x_155 ex_155 => ?_)
                      refine lv_lload hx hb dX8_thought_213 (lv_at hl 1 rfl) ?_
                      refine lv_ldiv hx hb dX8_thought_215 (fun h => c_151 (by rw [h]; decide)) ?_
                      refine lv_topl (fun x_156 ex_156 => ?_)
                      refine lv_lstore (lv' := [(5, .long x_156), (3, .long x_154), (11, .long x_136), (10, .int r_132), (9, .int r_131), (8, .int 1), (7, .int (nI ii_5)), (0, .ref (a 0)), (1, .int (nI j_2)), (2, .int (nI j_4))]) hx hb dX8_thought_216 hl (by decide) rfl (fun ls hl => ?_)
                      have hth_157 := th_pos hta_137 hta_142 (thg_gt c_143) c_151 ex_153 ex_154 ex_155 ex_156
                      refine lv_iinc (v := (nI (ii_5 + 1))) (lv' := [(7, .int (nI (ii_5 + 1))), (5, .long x_156), (3, .long x_154), (11, .long x_136), (10, .int r_132), (9, .int r_131), (8, .int 1), (0, .ref (a 0)), (1, .int (nI j_2)), (2, .int (nI j_4))]) hx hb dX8_thought_218 hl (k := 6) rfl (nI_add ii_5 1) (by decide) rfl (fun ls hl => ?_)
                      refine lv_goto (tgt := 32) hx hb dX8_thought_221 (by decide) ?_
                      exact ih_5 _ (ii_5 + 1, x_154, x_156) _ _ _ (by omega) ⟨rfl, ⟨⟨by omega, by omega, by omega⟩, hth_157.1, hth_157.2⟩, hP, hS, (lv_sub hl [0, 1, 2, 7, 8, 9] rfl)⟩
                · refine lv_iload hx hb dX8_thought_129 (lv_at hl 1 rfl) ?_
                  refine lv_goto (tgt := 139) hx hb dX8_thought_131 (by decide) ?_
                  refine lv_i2l (v := r_131.toInt64) hx hb dX8_thought_139 rfl ?_
                  refine lv_lmul hx hb dX8_thought_140 ?_
                  refine lv_topl (fun x_158 ex_158 => ?_)
                  refine lv_ldc2 hx hb hown (hts _ tw_1272) dX8_thought_141 ?_
                  refine lv_ldiv hx hb dX8_thought_144 (by decide) ?_
                  refine lv_topl (fun x_159 ex_159 => ?_)
                  have hta_160 : x_159 = thA (thN (sdM dn (sg se tm gs) ffrees fprices j_2) (sdM dn (sg se tm gs) ffrees fprices j_4) frow ii_5).1 (pLk (sdM dn (sg se tm gs) ffrees fprices j_2) ii_5 (pAhd frow ii_5) (frow ii_5)) := by unfold thA pLk; rw [if_pos ((hfr _ (by omega)).resolve_left c_133), ← hah_130, ex_159, ex_158, hw_131, mChance (dn := dn) (fpr := fprices) (show ii_5 < dn j_2 by omega), hv_5.2.1]
                  refine lv_lstore_n (lv' := [(3, .long x_159), (10, .int r_132), (9, .int r_131), (8, .int 1), (7, .int (nI ii_5)), (5, .long v2_5), (0, .ref (a 0)), (1, .int (nI j_2)), (2, .int (nI j_4))]) hx hb dX8_thought_145 rfl hl (by decide) rfl (fun ls hl => ?_)
                  refine lv_lload hx hb dX8_thought_146 (lv_at hl 5 rfl) ?_
                  refine lv_aload_n hx hb dX8_thought_148 rfl (lv_at hl 6 rfl) ?_
                  refine va_get (D := D) (ci := 8) (v := .ref (a 32)) (C := RX8) (T := TX8) (N := 44) hx hb hts inX8 hown hK hP 0 rfl rfl 31 (by decide) (hts _ tw_1004) (fun _ h9 => h9) rfl dX8_thought_149 ?_
                  refine lv_iload hx hb dX8_thought_152 (lv_at hl 4 rfl) ?_
                  refine va_zald hx hb hK hP 5 2 rfl rfl (vp_in_nI (by omega) (by decide)) dX8_thought_154 ?_
                  refine lv_ti (y := (frow ii_5)) (by rw [nI_clamp (by omega)]) ?_
                  refine lv_if_eq (tgt := 163) hx hb dX8_thought_155 (by decide) (fun c_161 => absurd c_161 (c_133)) (fun c_161 => ?_)
                  refine lv_iload hx hb dX8_thought_158 (lv_at hl 1 rfl) ?_
                  refine lv_goto (tgt := 168) hx hb dX8_thought_160 (by decide) ?_
                  refine lv_i2l (v := r_132.toInt64) hx hb dX8_thought_168 rfl ?_
                  refine lv_lmul hx hb dX8_thought_169 ?_
                  refine lv_topl (fun x_162 ex_162 => ?_)
                  refine lv_ldc2 hx hb hown (hts _ tw_1272) dX8_thought_170 ?_
                  refine lv_ldiv hx hb dX8_thought_173 (by decide) ?_
                  refine lv_topl (fun x_163 ex_163 => ?_)
                  have hta_164 : x_163 = thA (thN (sdM dn (sg se tm gs) ffrees fprices j_2) (sdM dn (sg se tm gs) ffrees fprices j_4) frow ii_5).2 (pLk (sdM dn (sg se tm gs) ffrees fprices j_4) ii_5 (pAhd frow ii_5) (frow ii_5)) := by unfold thA pLk; rw [if_pos ((hfr _ (by omega)).resolve_left c_133), ← hah_130, ex_163, ex_162, hw_132, mChance (dn := dn) (fpr := fprices) (show ii_5 < dn j_4 by omega), hv_5.2.2]
                  refine lv_lstore (lv' := [(5, .long x_163), (3, .long x_159), (10, .int r_132), (9, .int r_131), (8, .int 1), (7, .int (nI ii_5)), (0, .ref (a 0)), (1, .int (nI j_2)), (2, .int (nI j_4))]) hx hb dX8_thought_174 hl (by decide) rfl (fun ls hl => ?_)
                  refine lv_lload_n hx hb dX8_thought_176 rfl (lv_at hl 1 rfl) ?_
                  refine lv_lload hx hb dX8_thought_177 (lv_at hl 0 rfl) ?_
                  refine W.lcmp hx hb dX8_thought_179 ?_
                  refine lv_if_le (tgt := 187) hx hb dX8_thought_180 (by decide) (fun c_165 => ?_) (fun c_165 => ?_)
                  · refine lv_lload hx hb dX8_thought_187 (lv_at hl 0 rfl) ?_
                    refine lv_lstore (lv' := [(11, .long x_163), (5, .long x_163), (3, .long x_159), (10, .int r_132), (9, .int r_131), (8, .int 1), (7, .int (nI ii_5)), (0, .ref (a 0)), (1, .int (nI j_2)), (2, .int (nI j_4))]) hx hb dX8_thought_189 hl (by decide) rfl (fun ls hl => ?_)
                    refine lv_lload hx hb dX8_thought_191 (lv_at hl 0 rfl) ?_
                    refine lv_lconst (v := 0) hx hb dX8_thought_193 (by decide) ?_
                    refine W.lcmp hx hb dX8_thought_194 ?_
                    refine lv_if_le (tgt := 218) hx hb dX8_thought_195 (by decide) (fun c_166 => ?_) (fun c_166 => ?_)
                    · have hth_167 := th_neg hta_160 hta_164 (thg_le c_165) c_166
                      refine lv_iinc (v := (nI (ii_5 + 1))) (lv' := [(7, .int (nI (ii_5 + 1))), (11, .long x_163), (5, .long x_163), (3, .long x_159), (10, .int r_132), (9, .int r_131), (8, .int 1), (0, .ref (a 0)), (1, .int (nI j_2)), (2, .int (nI j_4))]) hx hb dX8_thought_218 hl (k := 6) rfl (nI_add ii_5 1) (by decide) rfl (fun ls hl => ?_)
                      refine lv_goto (tgt := 32) hx hb dX8_thought_221 (by decide) ?_
                      exact ih_5 _ (ii_5 + 1, x_159, x_163) _ _ _ (by omega) ⟨rfl, ⟨⟨by omega, by omega, by omega⟩, hth_167.1, hth_167.2⟩, hP, hS, (lv_sub hl [0, 2, 3, 7, 8, 9] rfl)⟩
                    · refine lv_lload_n hx hb dX8_thought_198 rfl (lv_at hl 2 rfl) ?_
                      refine lv_ldc2 hx hb hown (hts _ tw_1363) dX8_thought_199 ?_
                      refine lv_lmul hx hb dX8_thought_202 ?_
                      refine lv_topl (fun x_168 ex_168 => ?_)
                      refine lv_lload hx hb dX8_thought_203 (lv_at hl 0 rfl) ?_
                      refine lv_ldiv hx hb dX8_thought_205 (fun h => c_166 (by rw [h]; decide)) ?_
                      refine lv_topl (fun x_169 ex_169 => ?_)
                      refine lv_lstore_n (lv' := [(3, .long x_169), (11, .long x_163), (5, .long x_163), (10, .int r_132), (9, .int r_131), (8, .int 1), (7, .int (nI ii_5)), (0, .ref (a 0)), (1, .int (nI j_2)), (2, .int (nI j_4))]) hx hb dX8_thought_206 rfl hl (by decide) rfl (fun ls hl => ?_)
                      refine lv_lload hx hb dX8_thought_207 (lv_at hl 2 rfl) ?_
                      refine lv_ldc2 hx hb hown (hts _ tw_1363) dX8_thought_209 ?_
                      refine lv_lmul hx hb dX8_thought_212 ?_
                      refine lv_topl (fun x_170 ex_170 => ?_)
                      refine lv_lload hx hb dX8_thought_213 (lv_at hl 1 rfl) ?_
                      refine lv_ldiv hx hb dX8_thought_215 (fun h => c_166 (by rw [h]; decide)) ?_
                      refine lv_topl (fun x_171 ex_171 => ?_)
                      refine lv_lstore (lv' := [(5, .long x_171), (3, .long x_169), (11, .long x_163), (10, .int r_132), (9, .int r_131), (8, .int 1), (7, .int (nI ii_5)), (0, .ref (a 0)), (1, .int (nI j_2)), (2, .int (nI j_4))]) hx hb dX8_thought_216 hl (by decide) rfl (fun ls hl => ?_)
                      have hth_172 := th_pos hta_160 hta_164 (thg_le c_165) c_166 ex_168 ex_169 ex_170 ex_171
                      refine lv_iinc (v := (nI (ii_5 + 1))) (lv' := [(7, .int (nI (ii_5 + 1))), (5, .long x_171), (3, .long x_169), (11, .long x_163), (10, .int r_132), (9, .int r_131), (8, .int 1), (0, .ref (a 0)), (1, .int (nI j_2)), (2, .int (nI j_4))]) hx hb dX8_thought_218 hl (k := 6) rfl (nI_add ii_5 1) (by decide) rfl (fun ls hl => ?_)
                      refine lv_goto (tgt := 32) hx hb dX8_thought_221 (by decide) ?_
                      exact ih_5 _ (ii_5 + 1, x_169, x_171) _ _ _ (by omega) ⟨rfl, ⟨⟨by omega, by omega, by omega⟩, hth_172.1, hth_172.2⟩, hP, hS, (lv_sub hl [0, 1, 2, 7, 8, 9] rfl)⟩
                  · refine lv_lload_n hx hb dX8_thought_183 rfl (lv_at hl 1 rfl) ?_
                    refine lv_goto (tgt := 189) hx hb dX8_thought_184 (by decide) ?_
                    refine lv_lstore (lv' := [(11, .long x_159), (5, .long x_163), (3, .long x_159), (10, .int r_132), (9, .int r_131), (8, .int 1), (7, .int (nI ii_5)), (0, .ref (a 0)), (1, .int (nI j_2)), (2, .int (nI j_4))]) hx hb dX8_thought_189 hl (by decide) rfl (fun ls hl => ?_)
                    refine lv_lload hx hb dX8_thought_191 (lv_at hl 0 rfl) ?_
                    refine lv_lconst (v := 0) hx hb dX8_thought_193 (by decide) ?_
                    refine W.lcmp hx hb dX8_thought_194 ?_
                    refine lv_if_le (tgt := 218) hx hb dX8_thought_195 (by decide) (fun c_173 => ?_) (fun c_173 => ?_)
                    · have hth_174 := th_neg hta_160 hta_164 (thg_gt c_165) c_173
                      refine lv_iinc (v := (nI (ii_5 + 1))) (lv' := [(7, .int (nI (ii_5 + 1))), (11, .long x_159), (5, .long x_163), (3, .long x_159), (10, .int r_132), (9, .int r_131), (8, .int 1), (0, .ref (a 0)), (1, .int (nI j_2)), (2, .int (nI j_4))]) hx hb dX8_thought_218 hl (k := 6) rfl (nI_add ii_5 1) (by decide) rfl (fun ls hl => ?_)
                      refine lv_goto (tgt := 32) hx hb dX8_thought_221 (by decide) ?_
                      exact ih_5 _ (ii_5 + 1, x_159, x_163) _ _ _ (by omega) ⟨rfl, ⟨⟨by omega, by omega, by omega⟩, hth_174.1, hth_174.2⟩, hP, hS, (lv_sub hl [0, 2, 3, 7, 8, 9] rfl)⟩
                    · refine lv_lload_n hx hb dX8_thought_198 rfl (lv_at hl 2 rfl) ?_
                      refine lv_ldc2 hx hb hown (hts _ tw_1363) dX8_thought_199 ?_
                      refine lv_lmul hx hb dX8_thought_202 ?_
                      refine lv_topl (fun x_175 ex_175 => ?_)
                      refine lv_lload hx hb dX8_thought_203 (lv_at hl 0 rfl) ?_
                      refine lv_ldiv hx hb dX8_thought_205 (fun h => c_173 (by rw [h]; decide)) ?_
                      refine lv_topl (fun x_176 ex_176 => ?_)
                      refine lv_lstore_n (lv' := [(3, .long x_176), (11, .long x_159), (5, .long x_163), (10, .int r_132), (9, .int r_131), (8, .int 1), (7, .int (nI ii_5)), (0, .ref (a 0)), (1, .int (nI j_2)), (2, .int (nI j_4))]) hx hb dX8_thought_206 rfl hl (by decide) rfl (fun ls hl => ?_)
                      refine lv_lload hx hb dX8_thought_207 (lv_at hl 2 rfl) ?_
                      refine lv_ldc2 hx hb hown (hts _ tw_1363) dX8_thought_209 ?_
                      refine lv_lmul hx hb dX8_thought_212 ?_
                      refine lv_topl (fun x_177 ex_177 => ?_)
                      refine lv_lload hx hb dX8_thought_213 (lv_at hl 1 rfl) ?_
                      refine lv_ldiv hx hb dX8_thought_215 (fun h => c_173 (by rw [h]; decide)) ?_
                      refine lv_topl (fun x_178 ex_178 => ?_)
                      refine lv_lstore (lv' := [(5, .long x_178), (3, .long x_176), (11, .long x_159), (10, .int r_132), (9, .int r_131), (8, .int 1), (7, .int (nI ii_5)), (0, .ref (a 0)), (1, .int (nI j_2)), (2, .int (nI j_4))]) hx hb dX8_thought_216 hl (by decide) rfl (fun ls hl => ?_)
                      have hth_179 := th_pos hta_160 hta_164 (thg_gt c_165) c_173 ex_175 ex_176 ex_177 ex_178
                      refine lv_iinc (v := (nI (ii_5 + 1))) (lv' := [(7, .int (nI (ii_5 + 1))), (5, .long x_178), (3, .long x_176), (11, .long x_159), (10, .int r_132), (9, .int r_131), (8, .int 1), (0, .ref (a 0)), (1, .int (nI j_2)), (2, .int (nI j_4))]) hx hb dX8_thought_218 hl (k := 6) rfl (nI_add ii_5 1) (by decide) rfl (fun ls hl => ?_)
                      refine lv_goto (tgt := 32) hx hb dX8_thought_221 (by decide) ?_
                      exact ih_5 _ (ii_5 + 1, x_176, x_178) _ _ _ (by omega) ⟨rfl, ⟨⟨by omega, by omega, by omega⟩, hth_179.1, hth_179.2⟩, hP, hS, (lv_sub hl [0, 1, 2, 7, 8, 9] rfl)⟩
    · refine lv_if_ne (tgt := 20) hx hb dX8_thought_13 (by decide) (fun h => absurd (by decide) h) (fun _ => ?_)
      refine lv_sipush (v := (-1001)) hx hb dX8_thought_16 (by decide) ?_
      exact W.iret (v := (-1001)) hx hb hr (fun t ht hW => ⟨⟨(-1001), (), rfl, th_no1 (fun s h1 h2 h3 => hw_3 s h1 h2 h3), trivial⟩, hS.F ht⟩) hS.2.2 dX8_thought_19
  · refine lv_if_eq (tgt := 16) hx hb dX8_thought_5 (by decide) (fun _ => ?_) (fun h => absurd (by decide) h)
    refine lv_sipush (v := (-1001)) hx hb dX8_thought_16 (by decide) ?_
    exact W.iret (v := (-1001)) hx hb hr (fun t ht hW => ⟨⟨(-1001), (), rfl, th_no0 (fun s h1 h2 h3 => hw_1 s h1 h2 h3), trivial⟩, hS.F ht⟩) hS.2.2 dX8_thought_19

theorem f_glueP28 : True := trivial
/-! evenings: what is drawn -/
def drN (v : Nat) : Nat := (v * 1103515245 + 12345) % 2147483648
theorem drN_lt {v : Nat} : drN v < 2147483648 := Nat.mod_lt _ (by decide)
theorem i64_ofN {x : Int64} {a : Nat} (h : a < 2 ^ 63) (e : x.toInt = (a : Int)) : x = Int64.ofNat a := Int64.toInt_inj.mp (by rw [e, Int64.toInt_ofNat_of_lt h])
theorem dr_t {v : Nat} (hv : v < 2147483648) : ((nI v).toInt64 * 1103515245 + 12345).toInt = ((v * 1103515245 + 12345 : Nat) : Int) := by
  have e1 : (nI v).toInt = (v : Int) := nI_toInt (by omega)
  have e2 : (1103515245 : Int64).toInt = 1103515245 := by decide
  have e3 : (12345 : Int64).toInt = 12345 := by decide
  have hb : ∀ z : Int, 0 ≤ z → z ≤ 4000000000000000000 → z.bmod (2 ^ 64) = z := fun z h2 h3 => Int.bmod_eq_of_le (by omega) (by omega)
  rw [Int64.toInt_add, Int64.toInt_mul, Int32.toInt_toInt64, e1, e2, e3, hb ((v : Int) * 1103515245) (by omega) (by omega), hb _ (by omega) (by omega)]
  omega
theorem i64_and {a b : Nat} : Int64.ofNat a &&& Int64.ofNat b = Int64.ofNat (a &&& b) := by
  apply Int64.toBitVec_inj.mp
  rw [Int64.toBitVec_and]
  show BitVec.ofNat 64 a &&& BitVec.ofNat 64 b = BitVec.ofNat 64 (a &&& b)
  exact (BitVec.ofNat_and).symm
theorem and31 (a : Nat) : a &&& 2147483647 = a % 2147483648 := Nat.and_two_pow_sub_one_eq_mod a 31
theorem dr_x {v : Nat} (hv : v < 2147483648) : (((nI v).toInt64 * 1103515245 + 12345) &&& 2147483647).toInt32 = nI (drN v) := by
  rw [i64_ofN (by omega) (dr_t hv), show (2147483647 : Int64) = Int64.ofNat 2147483647 from rfl, i64_and, and31, Int64.toInt32_ofNat']
  rfl
theorem rem31 {t : Int64} {T : Nat} (hT : T ≤ 4000000000000000000) (e : t.toInt = (T : Int)) : t - t / 2147483648 * 2147483648 = Int64.ofNat (T % 2147483648) := by
  have eb : (2147483648 : Int64).toInt = ((2147483648 : Nat) : Int) := by decide
  have hb : ∀ z : Int, 0 ≤ z → z ≤ 4000000000000000000 → z.bmod (2 ^ 64) = z := fun z h2 h3 => Int.bmod_eq_of_le (by omega) (by omega)
  have ed : (t / 2147483648).toInt = ((T / 2147483648 : Nat) : Int) := by
    rw [Int64.toInt_div_of_ne_right _ _ (by decide), e, eb]
    rfl
  have em : (t / 2147483648 * 2147483648).toInt = ((T / 2147483648 * 2147483648 : Nat) : Int) := by
    rw [Int64.toInt_mul, ed, eb, ← Int.natCast_mul]
    exact hb _ (by omega) (by omega)
  refine i64_ofN (by omega) ?_
  rw [Int64.toInt_sub, e, em, hb _ (by omega) (by omega)]
  omega
theorem dr_m {v : Nat} (hv : v < 2147483648) : (((nI v).toInt64 * 1103515245 + 12345) - ((nI v).toInt64 * 1103515245 + 12345) / 2147483648 * 2147483648).toInt32 = nI (drN v) := by
  rw [rem31 (by omega) (dr_t hv), Int64.toInt32_ofNat']
  rfl
/-! one evening -/
def evG (d : SDt) (u : RUt) (L : Nat) : Nat → Nat → Nat → Nat → Int32 → Int32 → Nat → Int32 × Nat
  | 0, _, _, _, _, co, v => (co, v)
  | k + 1, r, i, pa, ah, co, v => if i < d.1 then (if nI (drN v / 65536 % 100) < pChance d i ah then (if pBar u pa ≤ nI i then (co + pTake d r i, drN v) else evG d u L k r (i + 1) (pa + 1) 1 (co + pPass d) (drN v)) else evG d u L k r (i + 1) pa 0 (co + pPass d) (drN v)) else (if r < L then evG d u L k (r + 1) 0 0 0 (co + pRnd d) v else (co + pGar d r, v))
theorem evG_s {d : SDt} {u : RUt} {L k r i pa : Nat} {ah co : Int32} {v : Nat} : evG d u L (k + 1) r i pa ah co v = if i < d.1 then (if nI (drN v / 65536 % 100) < pChance d i ah then (if pBar u pa ≤ nI i then (co + pTake d r i, drN v) else evG d u L k r (i + 1) (pa + 1) 1 (co + pPass d) (drN v)) else evG d u L k r (i + 1) pa 0 (co + pPass d) (drN v)) else (if r < L then evG d u L k (r + 1) 0 0 0 (co + pRnd d) v else (co + pGar d r, v)) := rfl
def evK (d : SDt) (L r i : Nat) : Nat := (L - r) * (d.1 + 1) + (d.1 - i)
def evS (d : SDt) (u : RUt) (L r i pa : Nat) (ah co : Int32) (v : Nat) : Int32 × Nat := evG d u L (evK d L r i + 1) r i pa ah co v
def evF (d : SDt) (u : RUt) (L v : Nat) : Int32 × Nat := evS d u L 0 0 0 0 0 v
theorem evK_i {d : SDt} {L r i : Nat} (h : i < d.1) : evK d L r i = evK d L r (i + 1) + 1 := by
  unfold evK
  omega
theorem evK_r {d : SDt} {L r i : Nat} (h : ¬ i < d.1) (hr : r < L) : evK d L r i = evK d L (r + 1) 0 + 1 := by
  unfold evK
  rw [show L - r = (L - (r + 1)) + 1 by omega, Nat.add_mul, Nat.one_mul]
  omega
section EV
variable {d : SDt} {u : RUt} {L r i pa v w : Nat} {ah co c2 : Int32} {X : Int32 × Nat}
theorem evx_r (h : evS d u L r i pa ah co v = X) (hi : ¬ i < d.1) (hr : r < L) (hc : c2 = co + pRnd d) : evS d u L (r + 1) 0 0 0 c2 v = X := by
  unfold evS at h ⊢
  rw [evG_s, if_neg hi, if_pos hr, evK_r hi hr] at h
  rw [hc]
  exact h
theorem evx_e (h : evS d u L r i pa ah co v = X) (hi : ¬ i < d.1) (hr : ¬ r < L) (hc : c2 = co + pGar d r) : (c2, v) = X := by
  unfold evS at h
  rw [evG_s, if_neg hi, if_neg hr] at h
  rw [hc]
  exact h
theorem evx_t (h : evS d u L r i pa ah co v = X) (hi : i < d.1) (hc : nI (drN v / 65536 % 100) < pChance d i ah) (hb : pBar u pa ≤ nI i) (he : c2 = co + pTake d r i) (hv : w = drN v) : (c2, w) = X := by
  unfold evS at h
  rw [evG_s, if_pos hi, if_pos hc, if_pos hb] at h
  rw [he, hv]
  exact h
theorem evx_p (h : evS d u L r i pa ah co v = X) (hi : i < d.1) (hc : nI (drN v / 65536 % 100) < pChance d i ah) (hb : ¬ pBar u pa ≤ nI i) (he : c2 = co + pPass d) (hv : w = drN v) : evS d u L r (i + 1) (pa + 1) 1 c2 w = X := by
  unfold evS at h ⊢
  rw [evG_s, if_pos hi, if_pos hc, if_neg hb, evK_i hi] at h
  rw [he, hv]
  exact h
theorem evx_n (h : evS d u L r i pa ah co v = X) (hi : i < d.1) (hc : ¬ nI (drN v / 65536 % 100) < pChance d i ah) (he : c2 = co + pPass d) (hv : w = drN v) : evS d u L r (i + 1) pa 0 c2 w = X := by
  unfold evS at h ⊢
  rw [evG_s, if_pos hi, if_neg hc, evK_i hi] at h
  rw [he, hv]
  exact h
end EV
theorem chz_0 {d : SDt} {a b : Int32} : pChance d 0 a = pChance d 0 b := by
  unfold pChance
  rw [if_pos rfl, if_pos rfl]
theorem evx_0 {d : SDt} {u : RUt} {L r pa v : Nat} {ah a2 co : Int32} {X : Int32 × Nat} (h : evS d u L r 0 pa ah co v = X) : evS d u L r 0 pa a2 co v = X := by
  unfold evS at h ⊢
  rw [evG_s] at h ⊢
  rw [chz_0 (a := a2) (b := ah)]
  exact h
theorem evG_lt {d : SDt} {u : RUt} {L : Nat} : ∀ k r i pa ah co v, v < 2147483648 → (evG d u L k r i pa ah co v).2 < 2147483648 := by
  intro k
  induction k with
  | zero => intro r i pa ah co v h; exact h
  | succ k ih =>
    intro r i pa ah co v h
    rw [evG_s]
    by_cases a : i < d.1
    · rw [if_pos a]
      by_cases b : nI (drN v / 65536 % 100) < pChance d i ah
      · rw [if_pos b]
        by_cases c : pBar u pa ≤ nI i
        · rw [if_pos c]
          exact drN_lt
        · rw [if_neg c]
          exact ih _ _ _ _ _ _ drN_lt
      · rw [if_neg b]
        exact ih _ _ _ _ _ _ drN_lt
    · rw [if_neg a]
      by_cases b : r < L
      · rw [if_pos b]
        exact ih _ _ _ _ _ _ h
      · rw [if_neg b]
        exact h
/-! some evenings -/
def evN (d : SDt) (u : RUt) (L v : Nat) : Nat → Int64 × Nat
  | 0 => (0, v)
  | k + 1 => ((evN d u L v k).1 + (evF d u L (evN d u L v k).2).1.toInt64, (evF d u L (evN d u L v k).2).2)
theorem evN_s {d : SDt} {u : RUt} {L v k w : Nat} {a b : Int64} {x : Int32} (h1 : a = (evN d u L v k).1) {z : Nat} (h2 : z = (evN d u L v k).2) (h : (x, w) = evF d u L z) (hb : b = a + x.toInt64) : b = (evN d u L v (k + 1)).1 ∧ w = (evN d u L v (k + 1)).2 := by
  show b = (evN d u L v k).1 + (evF d u L (evN d u L v k).2).1.toInt64 ∧ w = (evF d u L (evN d u L v k).2).2
  rw [← h2, ← h, hb, h1]
  exact ⟨rfl, rfl⟩
theorem evN_lt {d : SDt} {u : RUt} {L v : Nat} (h : v < 2147483648) : ∀ k, (evN d u L v k).2 < 2147483648 := by
  intro k
  induction k with
  | zero => exact h
  | succ k ih => exact evG_lt _ _ _ _ _ _ _ ih
def evA (p2 s0 : Int32) (d : SDt) (u : RUt) (r s1 : Int32) : Prop := (¬ inB p2 1 50 → r = -1002 ∧ s1 = s0) ∧ ∀ n v : Nat, n ≤ 50 → p2 = nI n → inB p2 1 50 → v < 2147483648 → s0 = nI v → r = ((evN d u (muD d u) v n).1 / 1000).toInt32 ∧ s1 = nI (evN d u (muD d u) v n).2
theorem evA_fun {p2 s0 : Int32} {d : SDt} {u : RUt} {x y a b : Int32} (hs : ¬ s0 < 0) (h : evA p2 s0 d u x a) (k : evA p2 s0 d u y b) : x = y ∧ a = b := by
  obtain ⟨v, hv, ev⟩ := nI_of hs
  rcases Classical.em (inB p2 1 50) with c | c
  · obtain ⟨n, -, h2, e⟩ := inB_ofc (a := 1) (b := 50) (by omega) (by omega) c
    have h1 := h.2 n v h2 e c (by omega) ev
    have k1 := k.2 n v h2 e c (by omega) ev
    exact ⟨h1.1.trans k1.1.symm, h1.2.trans k1.2.symm⟩
  · exact ⟨(h.1 c).1.trans (k.1 c).1.symm, (h.1 c).2.trans (k.1 c).2.symm⟩
theorem evA_nn {p2 s0 : Int32} {d : SDt} {u : RUt} {x a : Int32} (hs : ¬ s0 < 0) (h : evA p2 s0 d u x a) : ¬ a < 0 := by
  obtain ⟨v, hv, ev⟩ := nI_of hs
  rcases Classical.em (inB p2 1 50) with c | c
  · obtain ⟨n, -, h2, e⟩ := inB_ofc (a := 1) (b := 50) (by omega) (by omega) c
    rw [(h.2 n v h2 e c (by omega) ev).2]
    exact Int32.not_lt.mpr (nI_ge0 (evN_lt (by omega) n))
  · rw [(h.1 c).2]
    exact hs
theorem ev_o {p2 s0 : Int32} {d : SDt} {u : RUt} (h : ¬ inB p2 1 50) : evA p2 s0 d u (-1002) s0 := ⟨fun _ => ⟨rfl, rfl⟩, fun _ _ _ _ c => absurd c h⟩
theorem ev_i {n v w : Nat} {d : SDt} {u : RUt} {r : Int32} {a : Int64} (hn : n ≤ 50) (hi : inB (nI n) 1 50) (hv : v < 2147483648) (ha : a = (evN d u (muD d u) v n).1) (hw : w = (evN d u (muD d u) v n).2) (hr : r = (a / 1000).toInt32) : evA (nI n) (nI v) d u r (nI w) := by
  refine ⟨fun c => absurd hi c, fun m z hm e _ hz ez => ?_⟩
  have e1 := nI_inj (by omega) (by omega) e
  have e2 := nI_inj (by omega) (by omega) ez
  subst e1 e2
  rw [hr, ha, hw]
  exact ⟨rfl, rfl⟩
def evP (sd : Nat → SDt) (k : Nat) (ru : Nat → RUt) (p0 p1 p2 s0 r s1 : Int32) : Prop := ((∀ s t, s < 3 → t < k → p0 = nI s → p1 = nI t → ¬ 0 < (sd s).1) → r = -1001 ∧ s1 = s0) ∧ ∀ s t, s < 3 → t < k → p0 = nI s → p1 = nI t → 0 < (sd s).1 → evA p2 s0 (sd s) (ru t) r s1
theorem evP_fun {sd se : Nat → SDt} {k : Nat} {ru rv : Nat → RUt} {p0 p1 p2 s0 r q a b : Int32} (hs : ¬ s0 < 0) (h : evP sd k ru p0 p1 p2 s0 r a) (g : evP se k rv p0 p1 p2 s0 q b) (e : ∀ i, i < 3 → sd i = se i) (e2 : ∀ i, i < k → ru i = rv i) : r = q ∧ a = b := by
  rcases Classical.em (∃ s t, s < 3 ∧ t < k ∧ p0 = nI s ∧ p1 = nI t ∧ 0 < (sd s).1) with ⟨s, t, h1, h2, h3, h4, h5⟩ | hn
  · have x := h.2 s t h1 h2 h3 h4 h5
    have y := g.2 s t h1 h2 h3 h4 (by rw [← e s h1]; exact h5)
    rw [← e s h1, ← e2 t h2] at y
    exact evA_fun hs x y
  · have x := h.1 (fun s t h1 h2 h3 h4 h5 => hn ⟨s, t, h1, h2, h3, h4, h5⟩)
    have y := g.1 (fun s t h1 h2 h3 h4 h5 => hn ⟨s, t, h1, h2, h3, h4, by rw [e s h1]; exact h5⟩)
    exact ⟨x.1.trans y.1.symm, x.2.trans y.2.symm⟩
theorem evP_nn {sd : Nat → SDt} {k : Nat} {ru : Nat → RUt} {p0 p1 p2 s0 r a : Int32} (hs : ¬ s0 < 0) (h : evP sd k ru p0 p1 p2 s0 r a) : ¬ a < 0 := by
  rcases Classical.em (∃ s t, s < 3 ∧ t < k ∧ p0 = nI s ∧ p1 = nI t ∧ 0 < (sd s).1) with ⟨s, t, h1, h2, h3, h4, h5⟩ | hn
  · exact evA_nn hs (h.2 s t h1 h2 h3 h4 h5)
  · rw [(h.1 (fun s t h1 h2 h3 h4 h5 => hn ⟨s, t, h1, h2, h3, h4, h5⟩)).2]
    exact hs
theorem ev_no0 {sd : Nat → SDt} {k : Nat} {ru : Nat → RUt} {p0 p1 p2 s0 : Int32} (h : ∀ s, s < 3 → p0 = nI s → ¬ 0 < (sd s).1) : evP sd k ru p0 p1 p2 s0 (-1001) s0 := ⟨fun _ => ⟨rfl, rfl⟩, fun s t h1 _ h3 _ h5 => absurd h5 (h s h1 h3)⟩
theorem ev_no1 {sd : Nat → SDt} {k : Nat} {ru : Nat → RUt} {p0 p1 p2 s0 : Int32} (h : ∀ t, t < k → ¬ p1 = nI t) : evP sd k ru p0 p1 p2 s0 (-1001) s0 := ⟨fun _ => ⟨rfl, rfl⟩, fun s t _ h2 _ h4 _ => absurd h4 (h t h2)⟩
theorem ev_at {sd : Nat → SDt} {k s t : Nat} {ru : Nat → RUt} {p2 s0 r s1 : Int32} (hk : k ≤ 4) (hs : s < 3) (ht : t < k) (hp : 0 < (sd s).1) (h : evA p2 s0 (sd s) (ru t) r s1) : evP sd k ru (nI s) (nI t) p2 s0 r s1 := by
  refine ⟨fun q => absurd hp (q s t hs ht rfl rfl), fun s2 t2 k1 k2 k3 k4 _ => ?_⟩
  have e1 := nI_inj (by omega) (by omega) k3
  have e2 := nI_inj (by omega) (by omega) k4
  subst e1 e2
  exact h


set_option maxHeartbeats 4000000 in
set_option maxRecDepth 100000 in
theorem y_draw (l : Launch) (D : va_G) (k : Nat → ClassId) (st : Nat → Nat) (lo : Nat) (c0 : Nat) (c1 : Nat) (c2 : Nat) (cc : Nat) (rz : Nat) (ro : Int32) (sd : Nat) (hsd : sd < 2147483648) : CWi l D k st lo yX4_draw cX4_draw 1 (some .int) ({ frames := 0, cells := 0, slots := 0, locals := 0 }) 0 0 [.ref c0] [(c0, .inr (4, (fX4 c1 c2 (nI cc) (nI rz) ro (nI sd))))] (fun (r : Int32) (sd_ : Nat) => r = nI (drN sd / 65536 % 100) ∧ sd_ = drN sd) (fun (sd_ : Nat) => [(c0, .inr (4, (fX4 c1 c2 (nI cc) (nI rz) ro (nI sd_))))]) := by
  intro sz
  refine Met.ofW (cc := cX4_draw) (maxL := 1) (ret := (some .int)) (by decide) rfl ?_
  intro p e s m args below meth c s₁ B hml hv
  obtain ⟨rfl, hsz, hlo, hP, hK, hDL, hZ⟩ := hv
  have hx := B.exec
  have hb := B.bytes
  have hr := B.returns
  have hts := WS_ts B.pre
  have hown : s.vm.findClass RX4 = some m.cls := findClass_of_methodNamed B.named
  have hlocks := B.notSynchronized
  subst hsz
  have hD := hDL.self (sz := s.heap.size)
  have hAlo := A_lo hDL hlo
  generalize hAe : va_A [(c0, .inr (4, (fX4 c1 c2 (nI cc) (nI rz) ro (nI sd))))] s.heap.size = A at hD hAlo ⊢
  have hA : ∀ q : Nat, s.heap.size ≤ q → A q := fun q h => by rw [← hAe]; exact Or.inr h
  have hS : va_S A s.heap s.heap [] := va_S.rf
  have hl := lv_entry ([.ref c0]) (n := 1) (Nat.le_of_ble_eq_true rfl)
  rw [lg_entry_eq]
  generalize (lg_sl ([.ref c0]) ++ List.replicate (1 - (lg_sl ([.ref c0])).length) Slot.unset).toArray = ls at hl ⊢
  have hl : lv_has ls 1 [(0, .ref c0)] := hl
  refine lv_aload_n hx hb dX4_draw_0 rfl (lv_at hl 0 rfl) ?_
  refine lv_aload_n hx hb dX4_draw_1 rfl (lv_at hl 0 rfl) ?_
  refine va_get (D := D) (ci := 4) (v := .int (nI sd)) (C := RX4) (T := TX4) (N := 6) hx hb hts inX4 hown hK hP 0 rfl rfl 5 (by decide) (hts _ tw_188) (fun _ h9 => h9) rfl dX4_draw_2 ?_
  refine lv_i2l (v := (nI sd).toInt64) hx hb dX4_draw_5 rfl ?_
  refine lv_ldc2 hx hb hown (hts _ tw_936) dX4_draw_6 ?_
  refine lv_lmul hx hb dX4_draw_9 ?_
  refine lv_topl (fun x_1 ex_1 => ?_)
  refine lv_ldc2 hx hb hown (hts _ tw_937) dX4_draw_10 ?_
  refine lv_ladd hx hb dX4_draw_13 ?_
  refine lv_topl (fun x_2 ex_2 => ?_)
  refine lv_ldc2 hx hb hown (hts _ tw_938) dX4_draw_14 ?_
  refine lv_land hx hb dX4_draw_17 ?_
  refine lv_topl (fun x_3 ex_3 => ?_)
  refine lv_l2i hx hb dX4_draw_18 rfl ?_
  refine lv_topi (fun x_4 ex_4 => ?_)
  have hx_9 : x_4 = nI (drN sd) := by rw [ex_4, ex_3, ex_2, ex_1]; exact dr_x hsd
  have hdl_9 := drN_lt (v := sd)
  subst hx_9
  refine va_put (D := D) (ci := 4) (v := .int (nI (drN sd))) (ty := .int) (C := RX4) (T := TX4) (N := 6) hx hb hts inX4 tyX4 tyX4_ok nmX4 hown hK hP hD hS 0 rfl rfl 5 (by decide) (hts _ tw_188) (fun _ h9 => h9) rfl (by decide +kernel) rfl rfl (Nat.le_of_ble_eq_true rfl) dX4_draw_19 (fun H locs hP hD hS => ?_)
  have hQ9 := pd_mk [(c0, .inr (4, (fX4 c1 c2 (nI cc) (nI rz) ro (nI (drN sd)))))] hP hD
  clear hP hD
  obtain ⟨hP, hD⟩ := hQ9
  refine lv_aload_n hx hb dX4_draw_22 rfl (lv_at hl 0 rfl) ?_
  refine va_get (D := D) (ci := 4) (v := .int (nI (drN sd))) (C := RX4) (T := TX4) (N := 6) hx hb hts inX4 hown hK hP 0 rfl rfl 5 (by decide) (hts _ tw_188) (fun _ h9 => h9) rfl dX4_draw_23 ?_
  refine lv_ldc hx hb hown (hts _ tw_939) dX4_draw_26 ?_
  refine lv_idiv hx hb dX4_draw_28 (by decide) ?_
  refine lv_ti (y := (nI ((drN sd) / 65536))) (pk_div (by omega) (by decide) (by decide)) ?_
  refine lv_bipush (v := 100) hx hb dX4_draw_29 (by decide) ?_
  refine lv_irem hx hb dX4_draw_31 (by decide) ?_
  refine lv_ti (y := (nI (((drN sd) / 65536) % 100))) (pk_rem (by omega) (by decide) (by decide)) ?_
  obtain ⟨hP9, hD9⟩ := pd_sub [(c0, .inr (4, (fX4 c1 c2 (nI cc) (nI rz) ro (nI (drN sd)))))] [0] hP hD (by decide) rfl
  exact W.iret (v := (nI (((drN sd) / 65536) % 100))) hx hb hr (fun t ht hW => ⟨⟨(nI (((drN sd) / 65536) % 100)), (drN sd), rfl, ⟨rfl, rfl⟩, by rw [ht]; exact hP9, hD9⟩, hS.F ht⟩) hS.2.2 dX4_draw_32


set_option maxHeartbeats 4000000 in
set_option maxRecDepth 100000 in
theorem n_draw (l : Launch) (D : va_G) (k : Nat → ClassId) (st : Nat → Nat) (lo : Nat) (a : Nat → Nat) (tx : Nat) (t0 : Nat) (we : Nat) (rd : Nat) (ru : Nat) (rw : Nat) (ca : Nat) (fp : Int32) (wd : Int64) (nu : Int32) (na : Int32) (ts : Int32) (df : Int32) (db : Int32) (sd : Nat)  (hsd : sd < 2147483648) : CWi l D k st lo yX8_draw cX8_draw 1 (some .int) ({ frames := 0, cells := 0, slots := 0, locals := 0 }) 0 0 [.ref (a 0)] [((a 0), .inr (8, (fX8 a (nI tx) fp (nI t0) wd (nI we) nu na (nI rd) ts (nI ru) (nI rw) (nI ca) df db (nI sd))))] (fun (r : Int32) (sd_ : Nat) => r = nI (drN sd / 65536 % 100) ∧ sd_ = drN sd) (fun (sd_ : Nat) => [((a 0), .inr (8, (fX8 a (nI tx) fp (nI t0) wd (nI we) nu na (nI rd) ts (nI ru) (nI rw) (nI ca) df db (nI sd_))))]) := by
  intro sz
  refine Met.ofW (cc := cX8_draw) (maxL := 1) (ret := (some .int)) (by decide) rfl ?_
  intro p e s m args below meth c s₁ B hml hv
  obtain ⟨rfl, hsz, hlo, hP, hK, hDL, hZ⟩ := hv
  have hx := B.exec
  have hb := B.bytes
  have hr := B.returns
  have hts := WS_ts B.pre
  have hown : s.vm.findClass RX8 = some m.cls := findClass_of_methodNamed B.named
  have hlocks := B.notSynchronized
  subst hsz
  have hD := hDL.self (sz := s.heap.size)
  have hAlo := A_lo hDL hlo
  generalize hAe : va_A [((a 0), .inr (8, (fX8 a (nI tx) fp (nI t0) wd (nI we) nu na (nI rd) ts (nI ru) (nI rw) (nI ca) df db (nI sd))))] s.heap.size = A at hD hAlo ⊢
  have hA : ∀ q : Nat, s.heap.size ≤ q → A q := fun q h => by rw [← hAe]; exact Or.inr h
  have hS : va_S A s.heap s.heap [] := va_S.rf
  have hl := lv_entry ([.ref (a 0)]) (n := 1) (Nat.le_of_ble_eq_true rfl)
  rw [lg_entry_eq]
  generalize (lg_sl ([.ref (a 0)]) ++ List.replicate (1 - (lg_sl ([.ref (a 0)])).length) Slot.unset).toArray = ls at hl ⊢
  have hl : lv_has ls 1 [(0, .ref (a 0))] := hl
  refine lv_aload_n hx hb dX8_draw_0 rfl (lv_at hl 0 rfl) ?_
  refine lv_aload_n hx hb dX8_draw_1 rfl (lv_at hl 0 rfl) ?_
  refine va_get (D := D) (ci := 8) (v := .int (nI sd)) (C := RX8) (T := TX8) (N := 44) hx hb hts inX8 hown hK hP 0 rfl rfl 41 (by decide) (hts _ tw_1014) (fun _ h9 => h9) rfl dX8_draw_2 ?_
  refine lv_i2l (v := (nI sd).toInt64) hx hb dX8_draw_5 rfl ?_
  refine lv_ldc2 hx hb hown (hts _ tw_1484) dX8_draw_6 ?_
  refine lv_lmul hx hb dX8_draw_9 ?_
  refine lv_topl (fun x_1 ex_1 => ?_)
  refine lv_ldc2 hx hb hown (hts _ tw_1485) dX8_draw_10 ?_
  refine lv_ladd hx hb dX8_draw_13 ?_
  refine lv_topl (fun x_2 ex_2 => ?_)
  refine lv_ldc2 hx hb hown (hts _ tw_1486) dX8_draw_14 ?_
  refine lv_lrem hx hb dX8_draw_17 (by decide) ?_
  refine lv_topl (fun x_3 ex_3 => ?_)
  refine lv_l2i hx hb dX8_draw_18 rfl ?_
  refine lv_topi (fun x_4 ex_4 => ?_)
  have hx_9 : x_4 = nI (drN sd) := by rw [ex_4, ex_3, ex_2, ex_1]; exact dr_m hsd
  have hdl_9 := drN_lt (v := sd)
  subst hx_9
  refine va_put (D := D) (ci := 8) (v := .int (nI (drN sd))) (ty := .int) (C := RX8) (T := TX8) (N := 44) hx hb hts inX8 tyX8 tyX8_ok nmX8 hown hK hP hD hS 0 rfl rfl 41 (by decide) (hts _ tw_1014) (fun _ h9 => h9) rfl (by decide +kernel) rfl rfl (Nat.le_of_ble_eq_true rfl) dX8_draw_19 (fun H locs hP hD hS => ?_)
  have hQ9 := pd_mk [((a 0), .inr (8, (fX8 a (nI tx) fp (nI t0) wd (nI we) nu na (nI rd) ts (nI ru) (nI rw) (nI ca) df db (nI (drN sd)))))] hP hD
  clear hP hD
  obtain ⟨hP, hD⟩ := hQ9
  refine lv_aload_n hx hb dX8_draw_22 rfl (lv_at hl 0 rfl) ?_
  refine va_get (D := D) (ci := 8) (v := .int (nI (drN sd))) (C := RX8) (T := TX8) (N := 44) hx hb hts inX8 hown hK hP 0 rfl rfl 41 (by decide) (hts _ tw_1014) (fun _ h9 => h9) rfl dX8_draw_23 ?_
  refine lv_ldcw hx hb hown (hts _ tw_1487) dX8_draw_26 ?_
  refine lv_idiv hx hb dX8_draw_29 (by decide) ?_
  refine lv_ti (y := (nI ((drN sd) / 65536))) (pk_div (by omega) (by decide) (by decide)) ?_
  refine lv_bipush (v := 100) hx hb dX8_draw_30 (by decide) ?_
  refine lv_irem hx hb dX8_draw_32 (by decide) ?_
  refine lv_ti (y := (nI (((drN sd) / 65536) % 100))) (pk_rem (by omega) (by decide) (by decide)) ?_
  obtain ⟨hP9, hD9⟩ := pd_sub [((a 0), .inr (8, (fX8 a (nI tx) fp (nI t0) wd (nI we) nu na (nI rd) ts (nI ru) (nI rw) (nI ca) df db (nI (drN sd)))))] [0] hP hD (by decide) rfl
  exact W.iret (v := (nI (((drN sd) / 65536) % 100))) hx hb hr (fun t ht hW => ⟨⟨(nI (((drN sd) / 65536) % 100)), (drN sd), rfl, ⟨rfl, rfl⟩, by rw [ht]; exact hP9, hD9⟩, hS.F ht⟩) hS.2.2 dX8_draw_33


set_option maxHeartbeats 4000000 in
set_option maxRecDepth 100000 in
theorem y_eveningOf (l : Launch) (D : va_G) (k : Nat → ClassId) (st : Nat → Nat) (lo : Nat) (y0 : Nat) (y1 : Nat) (y2 : Nat) (y3 : Nat) (wt : Int32) (wc : Int32) (h0 : Nat) (h1 : Nat) (h2 : Nat) (h3 : Nat) (h4 : Nat) (n : Nat) (see : Nat) (tm : Nat) (g : Nat → Int32) (ff : Nat → Int32) (fp : Nat → Int32) (fl : Nat → Int32) (u0 : Nat) (u1 : Nat) (u2 : Nat) (rf : Int32) (rc : Nat) (rr : Nat) (rs : Nat → Int32) (rb : Nat → Int32) (c0 : Nat) (c1 : Nat) (c2 : Nat) (cc : Nat) (rz : Nat) (ro : Int32) (sd : Nat) (hn : n ≤ 24) (hrc : rc ≤ 24) (hrr : rr ≤ 3) (htm9 : tm ≤ 3) (hl9 : ∀ r, r < 4 → fl r = pLate (sdX n see tm g ff fp) r) (hok9 : okD (sdX n see tm g ff fp)) (hsd : sd < 2147483648) : CWi l D k st lo yX2_eveningOf cX2_eveningOf 11 (some .int) ({ frames := 2, cells := 0, slots := 0, locals := 83 }) 0 0 [.ref y0, .ref h0, .ref u0, .ref c0] [(y0, .inr (2, (fX2 y1 y2 y3 wt wc))), (h0, .inr (5, (fX5 h1 h2 h3 h4))), (aI k h1 10 (vv n see tm g)), (aI k h2 24 ff), (aI k h3 24 fp), (aI k h4 4 fl), (u0, .inr (3, (fX3 u1 u2 rf (nI rc) (nI rr)))), (aI k u1 24 rs), (aI k u2 24 rb), (c0, .inr (4, (fX4 c1 c2 (nI cc) (nI rz) ro (nI sd))))] (fun (r : Int32) (sd_ : Nat) => (r, sd_) = evF (sdX n see tm g ff fp) (ruX rf rc rr rs rb) (min rr tm) sd ∧ sd_ < 2147483648) (fun (sd_ : Nat) => [(y0, .inr (2, (fX2 y1 y2 y3 wt wc))), (h0, .inr (5, (fX5 h1 h2 h3 h4))), (aI k h1 10 (vv n see tm g)), (aI k h2 24 ff), (aI k h3 24 fp), (aI k h4 4 fl), (u0, .inr (3, (fX3 u1 u2 rf (nI rc) (nI rr)))), (aI k u1 24 rs), (aI k u2 24 rb), (c0, .inr (4, (fX4 c1 c2 (nI cc) (nI rz) ro (nI sd_))))]) := by
  intro sz
  refine Met.ofW (cc := cX2_eveningOf) (maxL := 11) (ret := (some .int)) (by decide) rfl ?_
  intro p e s m args below meth c s₁ B hml hv
  obtain ⟨rfl, hsz, hlo, hP, hK, hDL, hZ⟩ := hv
  have hx := B.exec
  have hb := B.bytes
  have hr := B.returns
  have hts := WS_ts B.pre
  have hown : s.vm.findClass RX2 = some m.cls := findClass_of_methodNamed B.named
  have hlocks := B.notSynchronized
  subst hsz
  have hD := hDL.self (sz := s.heap.size)
  have hAlo := A_lo hDL hlo
  generalize hAe : va_A [(y0, .inr (2, (fX2 y1 y2 y3 wt wc))), (h0, .inr (5, (fX5 h1 h2 h3 h4))), (aI k h1 10 (vv n see tm g)), (aI k h2 24 ff), (aI k h3 24 fp), (aI k h4 4 fl), (u0, .inr (3, (fX3 u1 u2 rf (nI rc) (nI rr)))), (aI k u1 24 rs), (aI k u2 24 rb), (c0, .inr (4, (fX4 c1 c2 (nI cc) (nI rz) ro (nI sd))))] s.heap.size = A at hD hAlo ⊢
  have hA : ∀ q : Nat, s.heap.size ≤ q → A q := fun q h => by rw [← hAe]; exact Or.inr h
  have hS : va_S A s.heap s.heap [] := va_S.rf
  have hl := lv_entry ([.ref y0, .ref h0, .ref u0, .ref c0]) (n := 11) (Nat.le_of_ble_eq_true rfl)
  rw [lg_entry_eq]
  generalize (lg_sl ([.ref y0, .ref h0, .ref u0, .ref c0]) ++ List.replicate (11 - (lg_sl ([.ref y0, .ref h0, .ref u0, .ref c0])).length) Slot.unset).toArray = ls at hl ⊢
  have hl : lv_has ls 11 [(0, .ref y0), (1, .ref h0), (2, .ref u0), (3, .ref c0)] := hl
  refine lv_aload_n hx hb dX2_eveningOf_0 rfl (lv_at hl 2 rfl) ?_
  refine lv_aload_n hx hb dX2_eveningOf_1 rfl (lv_at hl 1 rfl) ?_
  refine ro_i (D := D) (va_runV (As := [.ref h0]) (rest := []) ⟨hx, hb, hml, hown, hts⟩ ((x_roundsIn l D k st lo u0 u1 u2 rf rc rr h0 h1 h2 h3 h4 n see tm g (by first | assumption | omega) (by first | assumption | omega)) s.heap.size) (cwV 1 hts (gV tw_705 tw_706 tw_707 tw_86 tw_708) rfl rfl rfl (by decide +kernel) ⟨Nat.le_of_ble_eq_true rfl, Nat.le_of_ble_eq_true rfl⟩) (pV hS hAlo hlo hP hK (va_Dlo hD hAlo) hZ [6, 1, 2] (by decide) rfl (ci := 3) (q := (RX3, TX3, 5)) (q0 := 0) rfl rfl) rfl rfl hl.1 rfl (lv_room (Nat.le_of_ble_eq_true rfl)) dX2_eveningOf_2 ⟨Nat.le_of_ble_eq_true rfl, Nat.le_of_ble_eq_true rfl⟩) hS hA hP (fun r_1 H locs hw_1 hP hS => ?_)
  try dsimp only at hw_1
  subst hw_1
  refine lv_istore (lv' := [(4, .int (nI (min rr tm))), (0, .ref y0), (1, .ref h0), (2, .ref u0), (3, .ref c0)]) hx hb dX2_eveningOf_5 hl (by decide) rfl (fun ls hl => ?_)
  refine lv_iconst (v := 0) hx hb dX2_eveningOf_7 (by decide) ?_
  refine lv_istore (lv' := [(5, .int 0), (4, .int (nI (min rr tm))), (0, .ref y0), (1, .ref h0), (2, .ref u0), (3, .ref c0)]) hx hb dX2_eveningOf_8 hl (by decide) rfl (fun ls hl => ?_)
  refine lv_iconst (v := 0) hx hb dX2_eveningOf_10 (by decide) ?_
  refine lv_istore (lv' := [(6, .int 0), (5, .int 0), (4, .int (nI (min rr tm))), (0, .ref y0), (1, .ref h0), (2, .ref u0), (3, .ref c0)]) hx hb dX2_eveningOf_11 hl (by decide) rfl (fun ls hl => ?_)
  refine W_loop (σ := Nat × Int32 × Nat) (fun (n_ : Nat) (x_ : Nat × Int32 × Nat) (H : Heap) (locs : List Loc) (ls : Array Slot) => match x_ with | (rn2_2, co_2, sd2_2) => n_ = (min rr tm) + 1 - rn2_2 ∧ (rn2_2 ≤ (min rr tm) + 1 ∧ sd2_2 < 2147483648 ∧ (rn2_2 ≤ (min rr tm) → evS (sdX n see tm g ff fp) (ruX rf rc rr rs rb) (min rr tm) rn2_2 0 0 0 co_2 sd2_2 = evF (sdX n see tm g ff fp) (ruX rf rc rr rs rb) (min rr tm) sd) ∧ (rn2_2 = (min rr tm) + 1 → (co_2 + pGar (sdX n see tm g ff fp) (min rr tm), sd2_2) = evF (sdX n see tm g ff fp) (ruX rf rc rr rs rb) (min rr tm) sd)) ∧ va_P D classes [(y0, .inr (2, (fX2 y1 y2 y3 wt wc))), (h0, .inr (5, (fX5 h1 h2 h3 h4))), (aI k h1 10 (vv n see tm g)), (aI k h2 24 ff), (aI k h3 24 fp), (aI k h4 4 fl), (u0, .inr (3, (fX3 u1 u2 rf (nI rc) (nI rr)))), (aI k u1 24 rs), (aI k u2 24 rb), (c0, .inr (4, (fX4 c1 c2 (nI cc) (nI rz) ro (nI sd2_2))))] H ∧ va_D A [(y0, .inr (2, (fX2 y1 y2 y3 wt wc))), (h0, .inr (5, (fX5 h1 h2 h3 h4))), (aI k h1 10 (vv n see tm g)), (aI k h2 24 ff), (aI k h3 24 fp), (aI k h4 4 fl), (u0, .inr (3, (fX3 u1 u2 rf (nI rc) (nI rr)))), (aI k u1 24 rs), (aI k u2 24 rb), (c0, .inr (4, (fX4 c1 c2 (nI cc) (nI rz) ro (nI sd2_2))))] ∧ va_S A s.heap H locs ∧ lv_has ls 11 [(6, .int (nI rn2_2)), (5, .int co_2), (4, .int (nI (min rr tm))), (0, .ref y0), (1, .ref h0), (2, .ref u0), (3, .ref c0)]) (fun n_2 x_2 H locs ls hI ih_2 => ?_) _ (0, 0, sd) ⟨rfl, ⟨by omega, hsd, fun _ => rfl, fun h => absurd h (by omega)⟩, hP, hD, hS, (lv_sub hl [0, 1, 2, 3, 4, 5, 6] rfl)⟩
  obtain ⟨rn2_2, co_2, sd2_2⟩ := x_2
  obtain ⟨hm_2, hv_2, hP, hD, hS, hl⟩ := hI
  subst hm_2
  refine lv_iload hx hb dX2_eveningOf_13 (lv_at hl 0 rfl) ?_
  refine lv_iload hx hb dX2_eveningOf_15 (lv_at hl 2 rfl) ?_
  refine lv_icmp_gt (tgt := 144) hx hb dX2_eveningOf_17 (by decide) (fun c_3 => ?_) (fun c_3 => ?_)
  · have c_3 := (nI_ltI (a := (min rr tm)) (b := rn2_2) (by omega) (by omega)).mp c_3
    refine lv_iload hx hb dX2_eveningOf_144 (lv_at hl 1 rfl) ?_
    refine lv_aload_n hx hb dX2_eveningOf_146 rfl (lv_at hl 4 rfl) ?_
    refine lv_iload hx hb dX2_eveningOf_147 (lv_at hl 2 rfl) ?_
    refine ro_i (D := D) (va_runV (As := [.int (nI (min rr tm))]) (rest := [.int co_2]) ⟨hx, hb, hml, hown, hts⟩ ((y_garageOf l D k st lo h0 h1 h2 h3 h4 n see tm g fl (min rr tm) (by first | assumption | omega)) H.size) (cwV 1 hts (gV tw_713 tw_521 tw_522 tw_81 tw_523) rfl rfl rfl (by decide +kernel) ⟨Nat.le_of_ble_eq_true rfl, Nat.le_of_ble_eq_true rfl⟩) (pV hS hAlo hlo hP hK (va_Dlo hD hAlo) hZ [1, 2, 5] (by decide) rfl (ci := 5) (q := (RX5, TX5, 4)) (q0 := 0) rfl rfl) rfl rfl hl.1 rfl (lv_room (Nat.le_of_ble_eq_true rfl)) dX2_eveningOf_149 ⟨Nat.le_of_ble_eq_true rfl, Nat.le_of_ble_eq_true rfl⟩) hS hA hP (fun r_4 H locs hw_4 hP hS => ?_)
    try dsimp only at hw_4
    refine lv_iadd hx hb dX2_eveningOf_152 ?_
    refine lv_topi (fun x_5 ex_5 => ?_)
    obtain ⟨hP9, hD9⟩ := pd_sub [(y0, .inr (2, (fX2 y1 y2 y3 wt wc))), (h0, .inr (5, (fX5 h1 h2 h3 h4))), (aI k h1 10 (vv n see tm g)), (aI k h2 24 ff), (aI k h3 24 fp), (aI k h4 4 fl), (u0, .inr (3, (fX3 u1 u2 rf (nI rc) (nI rr)))), (aI k u1 24 rs), (aI k u2 24 rb), (c0, .inr (4, (fX4 c1 c2 (nI cc) (nI rz) ro (nI sd2_2))))] [0, 1, 2, 3, 4, 5, 6, 7, 8, 9] hP hD (by decide +kernel) rfl
    exact W.iret (v := x_5) hx hb hr (fun t ht hW => ⟨⟨x_5, sd2_2, rfl, ⟨(by rw [ex_5, hw_4, xGar (see := see) (tm := tm) (ff := ff) (fp := fp) (hl9 (min rr tm) (by omega))]; exact hv_2.2.2.2 (by omega)), hv_2.2.1⟩, by rw [ht]; exact hP9, hD9⟩, hS.F ht⟩) hS.2.2 dX2_eveningOf_153
  · have c_3 : ¬ ((min rr tm) < rn2_2) := fun h => c_3 ((nI_ltI (a := (min rr tm)) (b := rn2_2) (by omega) (by omega)).mpr h)
    refine lv_iconst (v := 0) hx hb dX2_eveningOf_20 (by decide) ?_
    refine lv_istore (lv' := [(7, .int 0), (6, .int (nI rn2_2)), (5, .int co_2), (4, .int (nI (min rr tm))), (0, .ref y0), (1, .ref h0), (2, .ref u0), (3, .ref c0)]) hx hb dX2_eveningOf_21 hl (by decide) rfl (fun ls hl => ?_)
    refine lv_iconst (v := 0) hx hb dX2_eveningOf_23 (by decide) ?_
    refine lv_istore (lv' := [(8, .int 0), (7, .int 0), (6, .int (nI rn2_2)), (5, .int co_2), (4, .int (nI (min rr tm))), (0, .ref y0), (1, .ref h0), (2, .ref u0), (3, .ref c0)]) hx hb dX2_eveningOf_24 hl (by decide) rfl (fun ls hl => ?_)
    refine lv_iconst (v := 0) hx hb dX2_eveningOf_26 (by decide) ?_
    refine lv_istore (lv' := [(9, .int 0), (8, .int 0), (7, .int 0), (6, .int (nI rn2_2)), (5, .int co_2), (4, .int (nI (min rr tm))), (0, .ref y0), (1, .ref h0), (2, .ref u0), (3, .ref c0)]) hx hb dX2_eveningOf_27 hl (by decide) rfl (fun ls hl => ?_)
    refine W_loop (σ := Nat × Int32 × Nat × Int32 × Nat) (fun (n_ : Nat) (x_ : Nat × Int32 × Nat × Int32 × Nat) (H : Heap) (locs : List Loc) (ls : Array Slot) => match x_ with | (ii_6, co2_6, pa_6, ah_6, sd3_6) => n_ = n - ii_6 ∧ (ii_6 ≤ n ∧ pa_6 ≤ ii_6 ∧ sd3_6 < 2147483648 ∧ evS (sdX n see tm g ff fp) (ruX rf rc rr rs rb) (min rr tm) rn2_2 ii_6 pa_6 ah_6 co2_6 sd3_6 = evF (sdX n see tm g ff fp) (ruX rf rc rr rs rb) (min rr tm) sd) ∧ va_P D classes [(y0, .inr (2, (fX2 y1 y2 y3 wt wc))), (h0, .inr (5, (fX5 h1 h2 h3 h4))), (aI k h1 10 (vv n see tm g)), (aI k h2 24 ff), (aI k h3 24 fp), (aI k h4 4 fl), (u0, .inr (3, (fX3 u1 u2 rf (nI rc) (nI rr)))), (aI k u1 24 rs), (aI k u2 24 rb), (c0, .inr (4, (fX4 c1 c2 (nI cc) (nI rz) ro (nI sd3_6))))] H ∧ va_D A [(y0, .inr (2, (fX2 y1 y2 y3 wt wc))), (h0, .inr (5, (fX5 h1 h2 h3 h4))), (aI k h1 10 (vv n see tm g)), (aI k h2 24 ff), (aI k h3 24 fp), (aI k h4 4 fl), (u0, .inr (3, (fX3 u1 u2 rf (nI rc) (nI rr)))), (aI k u1 24 rs), (aI k u2 24 rb), (c0, .inr (4, (fX4 c1 c2 (nI cc) (nI rz) ro (nI sd3_6))))] ∧ va_S A s.heap H locs ∧ lv_has ls 11 [(9, .int (nI ii_6)), (8, .int ah_6), (7, .int (nI pa_6)), (6, .int (nI rn2_2)), (5, .int co2_6), (4, .int (nI (min rr tm))), (0, .ref y0), (1, .ref h0), (2, .ref u0), (3, .ref c0)]) (fun n_6 x_6 H locs ls hI ih_6 => ?_) _ (0, co_2, 0, 0, sd2_2) ⟨rfl, ⟨by omega, by omega, hv_2.2.1, hv_2.2.2.1 (by omega)⟩, hP, hD, hS, (lv_sub hl [0, 1, 2, 3, 4, 5, 6, 7, 8, 9] rfl)⟩
    obtain ⟨ii_6, co2_6, pa_6, ah_6, sd3_6⟩ := x_6
    obtain ⟨hm_6, hv_6, hP, hD, hS, hl⟩ := hI
    subst hm_6
    refine lv_iload hx hb dX2_eveningOf_29 (lv_at hl 0 rfl) ?_
    refine lv_aload_n hx hb dX2_eveningOf_31 rfl (lv_at hl 7 rfl) ?_
    refine ro_i (D := D) (va_runV (As := []) (rest := [.int (nI ii_6)]) ⟨hx, hb, hml, hown, hts⟩ ((x_doors l D k st lo h0 h1 h2 h3 h4 n see tm g) H.size) (cwV 0 hts (gV tw_723 tw_478 tw_479 tw_81 tw_480) rfl rfl rfl (by decide +kernel) ⟨Nat.le_of_ble_eq_true rfl, Nat.le_of_ble_eq_true rfl⟩) (pV hS hAlo hlo hP hK (va_Dlo hD hAlo) hZ [1, 2] (by decide) rfl (ci := 5) (q := (RX5, TX5, 4)) (q0 := 0) rfl rfl) rfl rfl hl.1 rfl (lv_room (Nat.le_of_ble_eq_true rfl)) dX2_eveningOf_32 ⟨Nat.le_of_ble_eq_true rfl, Nat.le_of_ble_eq_true rfl⟩) hS hA hP (fun r_7 H locs hw_7 hP hS => ?_)
    try dsimp only at hw_7
    subst hw_7
    refine lv_icmp_ge (tgt := 122) hx hb dX2_eveningOf_35 (by decide) (fun c_8 => ?_) (fun c_8 => ?_)
    · have c_8 := (nI_leI (a := n) (b := ii_6) (by omega) (by omega)).mp c_8
      refine lv_iload hx hb dX2_eveningOf_122 (lv_at hl 3 rfl) ?_
      refine lv_iload hx hb dX2_eveningOf_124 (lv_at hl 5 rfl) ?_
      refine lv_icmp_ge (tgt := 138) hx hb dX2_eveningOf_126 (by decide) (fun c_9 => ?_) (fun c_9 => ?_)
      · have c_9 := (nI_leI (a := (min rr tm)) (b := rn2_2) (by omega) (by omega)).mp c_9
        refine lv_iinc (v := (nI (rn2_2 + 1))) (lv' := [(6, .int (nI (rn2_2 + 1))), (9, .int (nI ii_6)), (8, .int ah_6), (7, .int (nI pa_6)), (5, .int co2_6), (4, .int (nI (min rr tm))), (0, .ref y0), (1, .ref h0), (2, .ref u0), (3, .ref c0)]) hx hb dX2_eveningOf_138 hl (k := 3) rfl (nI_add rn2_2 1) (by decide) rfl (fun ls hl => ?_)
        refine lv_goto (tgt := 13) hx hb dX2_eveningOf_141 (by decide) ?_
        exact ih_2 _ (rn2_2 + 1, co2_6, sd3_6) _ _ _ (by omega) ⟨rfl, ⟨by omega, hv_6.2.2.1, fun h => absurd h (by omega), fun _ => evx_e hv_6.2.2.2 (show ¬ ii_6 < n by omega) (show ¬ rn2_2 < (min rr tm) by omega) (by rw [show rn2_2 = (min rr tm) by omega])⟩, hP, hD, hS, (lv_sub hl [0, 4, 5, 6, 7, 8, 9] rfl)⟩
      · have c_9 : ¬ ((min rr tm) ≤ rn2_2) := fun h => c_9 ((nI_leI (a := (min rr tm)) (b := rn2_2) (by omega) (by omega)).mpr h)
        refine lv_iload hx hb dX2_eveningOf_129 (lv_at hl 4 rfl) ?_
        refine lv_aload_n hx hb dX2_eveningOf_131 rfl (lv_at hl 7 rfl) ?_
        refine ro_i (D := D) (va_runV (As := []) (rest := [.int co2_6]) ⟨hx, hb, hml, hown, hts⟩ ((y_roundDrive l D k st lo h0 h1 h2 h3 h4 n see tm g) H.size) (cwV 0 hts (gV tw_735 tw_525 tw_526 tw_81 tw_527) rfl rfl rfl (by decide +kernel) ⟨Nat.le_of_ble_eq_true rfl, Nat.le_of_ble_eq_true rfl⟩) (pV hS hAlo hlo hP hK (va_Dlo hD hAlo) hZ [1, 2] (by decide) rfl (ci := 5) (q := (RX5, TX5, 4)) (q0 := 0) rfl rfl) rfl rfl hl.1 rfl (lv_room (Nat.le_of_ble_eq_true rfl)) dX2_eveningOf_132 ⟨Nat.le_of_ble_eq_true rfl, Nat.le_of_ble_eq_true rfl⟩) hS hA hP (fun r_10 H locs hw_10 hP hS => ?_)
        try dsimp only at hw_10
        refine lv_iadd hx hb dX2_eveningOf_135 ?_
        refine lv_topi (fun x_11 ex_11 => ?_)
        refine lv_istore (lv' := [(5, .int x_11), (9, .int (nI ii_6)), (8, .int ah_6), (7, .int (nI pa_6)), (6, .int (nI rn2_2)), (4, .int (nI (min rr tm))), (0, .ref y0), (1, .ref h0), (2, .ref u0), (3, .ref c0)]) hx hb dX2_eveningOf_136 hl (by decide) rfl (fun ls hl => ?_)
        refine lv_iinc (v := (nI (rn2_2 + 1))) (lv' := [(6, .int (nI (rn2_2 + 1))), (5, .int x_11), (9, .int (nI ii_6)), (8, .int ah_6), (7, .int (nI pa_6)), (4, .int (nI (min rr tm))), (0, .ref y0), (1, .ref h0), (2, .ref u0), (3, .ref c0)]) hx hb dX2_eveningOf_138 hl (k := 4) rfl (nI_add rn2_2 1) (by decide) rfl (fun ls hl => ?_)
        refine lv_goto (tgt := 13) hx hb dX2_eveningOf_141 (by decide) ?_
        exact ih_2 _ (rn2_2 + 1, x_11, sd3_6) _ _ _ (by omega) ⟨rfl, ⟨by omega, hv_6.2.2.1, fun _ => evx_r hv_6.2.2.2 (show ¬ ii_6 < n by omega) (show rn2_2 < (min rr tm) by omega) (by rw [ex_11, hw_10]; exact congrArg (fun z => co2_6 + z) xRnd), fun h => absurd h (by omega)⟩, hP, hD, hS, (lv_sub hl [0, 1, 5, 6, 7, 8, 9] rfl)⟩
    · have c_8 : ¬ (n ≤ ii_6) := fun h => c_8 ((nI_leI (a := n) (b := ii_6) (by omega) (by omega)).mpr h)
      refine lv_aload_n hx hb dX2_eveningOf_38 rfl (lv_at hl 9 rfl) ?_
      refine rw_i (D := D) (wr := [(y0, .inr (2, (fX2 y1 y2 y3 wt wc))), (h0, .inr (5, (fX5 h1 h2 h3 h4))), (aI k h1 10 (vv n see tm g)), (aI k h2 24 ff), (aI k h3 24 fp), (aI k h4 4 fl), (u0, .inr (3, (fX3 u1 u2 rf (nI rc) (nI rr)))), (aI k u1 24 rs), (aI k u2 24 rb)]) (va_runV (As := []) (rest := []) ⟨hx, hb, hml, hown, hts⟩ ((y_draw l D k st lo c0 c1 c2 cc rz ro sd3_6 (by first | assumption | omega)) H.size) (cwV 0 hts (gV tw_932 tw_933 tw_934 tw_82 tw_935) rfl rfl rfl (by decide +kernel) ⟨Nat.le_of_ble_eq_true rfl, Nat.le_of_ble_eq_true rfl⟩) (pV hS hAlo hlo hP hK (va_Dlo hD hAlo) hZ [9] (by decide) rfl (ci := 4) (q := (RX4, TX4, 6)) (q0 := 0) rfl rfl) rfl rfl hl.1 rfl (lv_room (Nat.le_of_ble_eq_true rfl)) dX2_eveningOf_39 ⟨Nat.le_of_ble_eq_true rfl, Nat.le_of_ble_eq_true rfl⟩) hS hA hP hD [9] [0, 1, 2, 3, 4, 5, 6, 7, 8] rfl rfl (by decide +kernel) (by decide +kernel) (fun r_12 u H locs hw_12 hP hD hS => ?_)
      obtain ⟨sd__12, rfl⟩ : ∃ z, z = u := ⟨_, rfl⟩
      have hQ9 := pd_mk [(y0, .inr (2, (fX2 y1 y2 y3 wt wc))), (h0, .inr (5, (fX5 h1 h2 h3 h4))), (aI k h1 10 (vv n see tm g)), (aI k h2 24 ff), (aI k h3 24 fp), (aI k h4 4 fl), (u0, .inr (3, (fX3 u1 u2 rf (nI rc) (nI rr)))), (aI k u1 24 rs), (aI k u2 24 rb), (c0, .inr (4, (fX4 c1 c2 (nI cc) (nI rz) ro (nI sd__12))))] hP hD
      clear hP hD
      obtain ⟨hP, hD⟩ := hQ9
      try dsimp only at hw_12
      obtain ⟨hrv_13, hsv_13⟩ := hw_12
      have hsl_13 : sd__12 < 2147483648 := by rw [hsv_13]; exact drN_lt
      refine lv_aload_n hx hb dX2_eveningOf_42 rfl (lv_at hl 7 rfl) ?_
      refine lv_iload hx hb dX2_eveningOf_43 (lv_at hl 0 rfl) ?_
      refine lv_iload hx hb dX2_eveningOf_45 (lv_at hl 1 rfl) ?_
      refine ro_i (D := D) (va_runV (As := [.int (nI ii_6), .int ah_6]) (rest := [.int r_12]) ⟨hx, hb, hml, hown, hts⟩ ((y_chanceOf l D k st lo h0 h1 h2 h3 h4 n see tm g ff ii_6 ah_6 (by first | assumption | omega)) H.size) (cwV 2 hts (gV tw_733 tw_565 tw_566 tw_81 tw_567) rfl rfl rfl (by decide +kernel) ⟨Nat.le_of_ble_eq_true rfl, Nat.le_of_ble_eq_true rfl⟩) (pV hS hAlo hlo hP hK (va_Dlo hD hAlo) hZ [1, 2, 3] (by decide) rfl (ci := 5) (q := (RX5, TX5, 4)) (q0 := 0) rfl rfl) rfl rfl hl.1 rfl (lv_room (Nat.le_of_ble_eq_true rfl)) dX2_eveningOf_47 ⟨Nat.le_of_ble_eq_true rfl, Nat.le_of_ble_eq_true rfl⟩) hS hA hP (fun r_14 H locs hw_14 hP hS => ?_)
      try dsimp only at hw_14
      refine lv_icmp_ge (tgt := 57) hx hb dX2_eveningOf_50 (by decide) (fun c_15 => ?_) (fun c_15 => ?_)
      · have hdc_16 : ¬ nI (drN sd3_6 / 65536 % 100) < pChance (sdX n see tm g ff fp) ii_6 ah_6 := by rw [← hrv_13, ← xChance (see := see) (tm := tm) (fp := fp) (show ii_6 < n by omega) (okX hok9 (show ii_6 < n by omega)), ← hw_14]; exact Int32.not_lt.mpr c_15
        refine lv_iconst (v := 0) hx hb dX2_eveningOf_57 (by decide) ?_
        refine lv_istore (lv' := [(10, .int 0), (9, .int (nI ii_6)), (8, .int ah_6), (7, .int (nI pa_6)), (6, .int (nI rn2_2)), (5, .int co2_6), (4, .int (nI (min rr tm))), (0, .ref y0), (1, .ref h0), (2, .ref u0), (3, .ref c0)]) hx hb dX2_eveningOf_58 hl (by decide) rfl (fun ls hl => ?_)
        refine lv_iload hx hb dX2_eveningOf_60 (lv_at hl 0 rfl) ?_
        refine lv_if_eq (tgt := 88) hx hb dX2_eveningOf_62 (by decide) (fun _ => ?_) (fun h => absurd (by decide) h)
        refine lv_iload hx hb dX2_eveningOf_88 (lv_at hl 5 rfl) ?_
        refine lv_aload_n hx hb dX2_eveningOf_90 rfl (lv_at hl 8 rfl) ?_
        refine ro_i (D := D) (va_runV (As := []) (rest := [.int co2_6]) ⟨hx, hb, hml, hown, hts⟩ ((y_passing l D k st lo h0 h1 h2 h3 h4 n see tm g) H.size) (cwV 0 hts (gV tw_724 tw_573 tw_574 tw_81 tw_575) rfl rfl rfl (by decide +kernel) ⟨Nat.le_of_ble_eq_true rfl, Nat.le_of_ble_eq_true rfl⟩) (pV hS hAlo hlo hP hK (va_Dlo hD hAlo) hZ [1, 2] (by decide) rfl (ci := 5) (q := (RX5, TX5, 4)) (q0 := 0) rfl rfl) rfl rfl hl.1 rfl (lv_room (Nat.le_of_ble_eq_true rfl)) dX2_eveningOf_91 ⟨Nat.le_of_ble_eq_true rfl, Nat.le_of_ble_eq_true rfl⟩) hS hA hP (fun r_17 H locs hw_17 hP hS => ?_)
        try dsimp only at hw_17
        refine lv_iadd hx hb dX2_eveningOf_94 ?_
        refine lv_topi (fun x_18 ex_18 => ?_)
        refine lv_istore (lv' := [(5, .int x_18), (10, .int 0), (9, .int (nI ii_6)), (8, .int ah_6), (7, .int (nI pa_6)), (6, .int (nI rn2_2)), (4, .int (nI (min rr tm))), (0, .ref y0), (1, .ref h0), (2, .ref u0), (3, .ref c0)]) hx hb dX2_eveningOf_95 hl (by decide) rfl (fun ls hl => ?_)
        have hev_19 := evx_n hv_6.2.2.2 (show ii_6 < n by omega) hdc_16 (c2 := x_18) (by rw [ex_18, hw_17]; exact congrArg (fun z => co2_6 + z) xPass) hsv_13
        refine lv_iload hx hb dX2_eveningOf_97 (lv_at hl 4 rfl) ?_
        refine lv_iload hx hb dX2_eveningOf_99 (lv_at hl 1 rfl) ?_
        refine lv_if_eq (tgt := 108) hx hb dX2_eveningOf_101 (by decide) (fun _ => ?_) (fun h => absurd (by decide) h)
        refine lv_iconst (v := 0) hx hb dX2_eveningOf_108 (by decide) ?_
        refine lv_iadd hx hb dX2_eveningOf_109 ?_
        refine lv_ti (y := (nI (pa_6 + 0))) (nI_add pa_6 0) ?_
        refine lv_istore (lv' := [(7, .int (nI (pa_6 + 0))), (5, .int x_18), (10, .int 0), (9, .int (nI ii_6)), (8, .int ah_6), (6, .int (nI rn2_2)), (4, .int (nI (min rr tm))), (0, .ref y0), (1, .ref h0), (2, .ref u0), (3, .ref c0)]) hx hb dX2_eveningOf_110 hl (by decide) rfl (fun ls hl => ?_)
        refine lv_iload hx hb dX2_eveningOf_112 (lv_at hl 2 rfl) ?_
        refine lv_istore (lv' := [(8, .int 0), (7, .int (nI (pa_6 + 0))), (5, .int x_18), (10, .int 0), (9, .int (nI ii_6)), (6, .int (nI rn2_2)), (4, .int (nI (min rr tm))), (0, .ref y0), (1, .ref h0), (2, .ref u0), (3, .ref c0)]) hx hb dX2_eveningOf_114 hl (by decide) rfl (fun ls hl => ?_)
        refine lv_iinc (v := (nI (ii_6 + 1))) (lv' := [(9, .int (nI (ii_6 + 1))), (8, .int 0), (7, .int (nI (pa_6 + 0))), (5, .int x_18), (10, .int 0), (6, .int (nI rn2_2)), (4, .int (nI (min rr tm))), (0, .ref y0), (1, .ref h0), (2, .ref u0), (3, .ref c0)]) hx hb dX2_eveningOf_116 hl (k := 4) rfl (nI_add ii_6 1) (by decide) rfl (fun ls hl => ?_)
        refine lv_goto (tgt := 29) hx hb dX2_eveningOf_119 (by decide) ?_
        exact ih_6 _ (ii_6 + 1, x_18, pa_6 + 0, 0, sd__12) _ _ _ (by omega) ⟨rfl, ⟨by omega, by omega, hsl_13, hev_19⟩, hP, hD, hS, (lv_sub hl [0, 1, 2, 5, 3, 6, 7, 8, 9, 10] rfl)⟩
      · have hdc_20 : nI (drN sd3_6 / 65536 % 100) < pChance (sdX n see tm g ff fp) ii_6 ah_6 := by rw [← hrv_13, ← xChance (see := see) (tm := tm) (fp := fp) (show ii_6 < n by omega) (okX hok9 (show ii_6 < n by omega)), ← hw_14]; exact Int32.not_le.mp c_15
        refine lv_iconst (v := 1) hx hb dX2_eveningOf_53 (by decide) ?_
        refine lv_goto (tgt := 58) hx hb dX2_eveningOf_54 (by decide) ?_
        refine lv_istore (lv' := [(10, .int 1), (9, .int (nI ii_6)), (8, .int ah_6), (7, .int (nI pa_6)), (6, .int (nI rn2_2)), (5, .int co2_6), (4, .int (nI (min rr tm))), (0, .ref y0), (1, .ref h0), (2, .ref u0), (3, .ref c0)]) hx hb dX2_eveningOf_58 hl (by decide) rfl (fun ls hl => ?_)
        refine lv_iload hx hb dX2_eveningOf_60 (lv_at hl 0 rfl) ?_
        refine lv_if_eq (tgt := 88) hx hb dX2_eveningOf_62 (by decide) (fun h => absurd h (by decide)) (fun _ => ?_)
        refine lv_iload hx hb dX2_eveningOf_65 (lv_at hl 1 rfl) ?_
        refine lv_aload_n hx hb dX2_eveningOf_67 rfl (lv_at hl 9 rfl) ?_
        refine lv_iload hx hb dX2_eveningOf_68 (lv_at hl 3 rfl) ?_
        refine ro_i (D := D) (va_runV (As := [.int (nI pa_6)]) (rest := [.int (nI ii_6)]) ⟨hx, hb, hml, hown, hts⟩ ((y_barAfter l D k st lo u0 u1 u2 rf rc rr rs rb pa_6 (by first | assumption | omega)) H.size) (cwV 1 hts (gV tw_729 tw_730 tw_731 tw_86 tw_732) rfl rfl rfl (by decide +kernel) ⟨Nat.le_of_ble_eq_true rfl, Nat.le_of_ble_eq_true rfl⟩) (pV hS hAlo hlo hP hK (va_Dlo hD hAlo) hZ [6, 7, 8] (by decide) rfl (ci := 3) (q := (RX3, TX3, 5)) (q0 := 0) rfl rfl) rfl rfl hl.1 rfl (lv_room (Nat.le_of_ble_eq_true rfl)) dX2_eveningOf_70 ⟨Nat.le_of_ble_eq_true rfl, Nat.le_of_ble_eq_true rfl⟩) hS hA hP (fun r_21 H locs hw_21 hP hS => ?_)
        try dsimp only at hw_21
        refine lv_icmp_lt (tgt := 88) hx hb dX2_eveningOf_73 (by decide) (fun c_22 => ?_) (fun c_22 => ?_)
        · refine lv_iload hx hb dX2_eveningOf_88 (lv_at hl 5 rfl) ?_
          refine lv_aload_n hx hb dX2_eveningOf_90 rfl (lv_at hl 8 rfl) ?_
          refine ro_i (D := D) (va_runV (As := []) (rest := [.int co2_6]) ⟨hx, hb, hml, hown, hts⟩ ((y_passing l D k st lo h0 h1 h2 h3 h4 n see tm g) H.size) (cwV 0 hts (gV tw_724 tw_573 tw_574 tw_81 tw_575) rfl rfl rfl (by decide +kernel) ⟨Nat.le_of_ble_eq_true rfl, Nat.le_of_ble_eq_true rfl⟩) (pV hS hAlo hlo hP hK (va_Dlo hD hAlo) hZ [1, 2] (by decide) rfl (ci := 5) (q := (RX5, TX5, 4)) (q0 := 0) rfl rfl) rfl rfl hl.1 rfl (lv_room (Nat.le_of_ble_eq_true rfl)) dX2_eveningOf_91 ⟨Nat.le_of_ble_eq_true rfl, Nat.le_of_ble_eq_true rfl⟩) hS hA hP (fun r_23 H locs hw_23 hP hS => ?_)
          try dsimp only at hw_23
          refine lv_iadd hx hb dX2_eveningOf_94 ?_
          refine lv_topi (fun x_24 ex_24 => ?_)
          refine lv_istore (lv' := [(5, .int x_24), (10, .int 1), (9, .int (nI ii_6)), (8, .int ah_6), (7, .int (nI pa_6)), (6, .int (nI rn2_2)), (4, .int (nI (min rr tm))), (0, .ref y0), (1, .ref h0), (2, .ref u0), (3, .ref c0)]) hx hb dX2_eveningOf_95 hl (by decide) rfl (fun ls hl => ?_)
          have hev_25 := evx_p hv_6.2.2.2 (show ii_6 < n by omega) hdc_20 (show ¬ pBar (ruX rf rc rr rs rb) pa_6 ≤ nI ii_6 by rw [← hw_21]; exact Int32.not_le.mpr c_22) (c2 := x_24) (by rw [ex_24, hw_23]; exact congrArg (fun z => co2_6 + z) xPass) hsv_13
          refine lv_iload hx hb dX2_eveningOf_97 (lv_at hl 4 rfl) ?_
          refine lv_iload hx hb dX2_eveningOf_99 (lv_at hl 1 rfl) ?_
          refine lv_if_eq (tgt := 108) hx hb dX2_eveningOf_101 (by decide) (fun h => absurd h (by decide)) (fun _ => ?_)
          refine lv_iconst (v := 1) hx hb dX2_eveningOf_104 (by decide) ?_
          refine lv_goto (tgt := 109) hx hb dX2_eveningOf_105 (by decide) ?_
          refine lv_iadd hx hb dX2_eveningOf_109 ?_
          refine lv_ti (y := (nI (pa_6 + 1))) (nI_add pa_6 1) ?_
          refine lv_istore (lv' := [(7, .int (nI (pa_6 + 1))), (5, .int x_24), (10, .int 1), (9, .int (nI ii_6)), (8, .int ah_6), (6, .int (nI rn2_2)), (4, .int (nI (min rr tm))), (0, .ref y0), (1, .ref h0), (2, .ref u0), (3, .ref c0)]) hx hb dX2_eveningOf_110 hl (by decide) rfl (fun ls hl => ?_)
          refine lv_iload hx hb dX2_eveningOf_112 (lv_at hl 2 rfl) ?_
          refine lv_istore (lv' := [(8, .int 1), (7, .int (nI (pa_6 + 1))), (5, .int x_24), (10, .int 1), (9, .int (nI ii_6)), (6, .int (nI rn2_2)), (4, .int (nI (min rr tm))), (0, .ref y0), (1, .ref h0), (2, .ref u0), (3, .ref c0)]) hx hb dX2_eveningOf_114 hl (by decide) rfl (fun ls hl => ?_)
          refine lv_iinc (v := (nI (ii_6 + 1))) (lv' := [(9, .int (nI (ii_6 + 1))), (8, .int 1), (7, .int (nI (pa_6 + 1))), (5, .int x_24), (10, .int 1), (6, .int (nI rn2_2)), (4, .int (nI (min rr tm))), (0, .ref y0), (1, .ref h0), (2, .ref u0), (3, .ref c0)]) hx hb dX2_eveningOf_116 hl (k := 4) rfl (nI_add ii_6 1) (by decide) rfl (fun ls hl => ?_)
          refine lv_goto (tgt := 29) hx hb dX2_eveningOf_119 (by decide) ?_
          exact ih_6 _ (ii_6 + 1, x_24, pa_6 + 1, 1, sd__12) _ _ _ (by omega) ⟨rfl, ⟨by omega, by omega, hsl_13, hev_25⟩, hP, hD, hS, (lv_sub hl [0, 1, 2, 5, 3, 6, 7, 8, 9, 10] rfl)⟩
        · refine lv_iload hx hb dX2_eveningOf_76 (lv_at hl 5 rfl) ?_
          refine lv_aload_n hx hb dX2_eveningOf_78 rfl (lv_at hl 8 rfl) ?_
          refine lv_iload hx hb dX2_eveningOf_79 (lv_at hl 4 rfl) ?_
          refine lv_iload hx hb dX2_eveningOf_81 (lv_at hl 1 rfl) ?_
          refine ro_i (D := D) (va_runV (As := [.int (nI rn2_2), .int (nI ii_6)]) (rest := [.int co2_6]) ⟨hx, hb, hml, hown, hts⟩ ((y_takingOf l D k st lo h0 h1 h2 h3 h4 n see tm g fp fl rn2_2 ii_6 (by first | assumption | omega) (by first | assumption | omega)) H.size) (cwV 2 hts (gV tw_728 tw_557 tw_558 tw_81 tw_559) rfl rfl rfl (by decide +kernel) ⟨Nat.le_of_ble_eq_true rfl, Nat.le_of_ble_eq_true rfl⟩) (pV hS hAlo hlo hP hK (va_Dlo hD hAlo) hZ [1, 2, 4, 5] (by decide) rfl (ci := 5) (q := (RX5, TX5, 4)) (q0 := 0) rfl rfl) rfl rfl hl.1 rfl (lv_room (Nat.le_of_ble_eq_true rfl)) dX2_eveningOf_83 ⟨Nat.le_of_ble_eq_true rfl, Nat.le_of_ble_eq_true rfl⟩) hS hA hP (fun r_26 H locs hw_26 hP hS => ?_)
          try dsimp only at hw_26
          refine lv_iadd hx hb dX2_eveningOf_86 ?_
          refine lv_topi (fun x_27 ex_27 => ?_)
          obtain ⟨hP9, hD9⟩ := pd_sub [(y0, .inr (2, (fX2 y1 y2 y3 wt wc))), (h0, .inr (5, (fX5 h1 h2 h3 h4))), (aI k h1 10 (vv n see tm g)), (aI k h2 24 ff), (aI k h3 24 fp), (aI k h4 4 fl), (u0, .inr (3, (fX3 u1 u2 rf (nI rc) (nI rr)))), (aI k u1 24 rs), (aI k u2 24 rb), (c0, .inr (4, (fX4 c1 c2 (nI cc) (nI rz) ro (nI sd__12))))] [0, 1, 2, 3, 4, 5, 6, 7, 8, 9] hP hD (by decide +kernel) rfl
          exact W.iret (v := x_27) hx hb hr (fun t ht hW => ⟨⟨x_27, sd__12, rfl, ⟨evx_t hv_6.2.2.2 (show ii_6 < n by omega) hdc_20 (show pBar (ruX rf rc rr rs rb) pa_6 ≤ nI ii_6 by rw [← hw_21]; exact Int32.not_lt.mp c_22) (by rw [ex_27, hw_26]; exact congrArg (fun z => co2_6 + z) (xTake (show ii_6 < n by omega) (hl9 rn2_2 (by omega)))) hsv_13, hsl_13⟩, by rw [ht]; exact hP9, hD9⟩, hS.F ht⟩) hS.2.2 dX2_eveningOf_87


set_option maxHeartbeats 4000000 in
set_option maxRecDepth 100000 in
theorem y_door (l : Launch) (D : va_G) (k : Nat → ClassId) (st : Nat → Nat) (lo : Nat) (a : Nat → Nat) (rk : Nat) (lfa : Int32) (n0 : Nat) (see0 : Nat) (tm0 : Nat) (g0 : Nat → Int32) (ff0 : Nat → Int32) (fp0 : Nat → Int32) (n1 : Nat) (see1 : Nat) (tm1 : Nat) (g1 : Nat → Int32) (ff1 : Nat → Int32) (fp1 : Nat → Int32) (n2 : Nat) (see2 : Nat) (tm2 : Nat) (g2 : Nat → Int32) (ff2 : Nat → Int32) (fp2 : Nat → Int32) (p0 : Int32) (p1 : Int32) (p2 : Int32) (hn0 : n0 ≤ 24) (hse0 : see0 ≤ 2) (htm0 : tm0 ≤ 3) (hn1 : n1 ≤ 24) (hse1 : see1 ≤ 2) (htm1 : tm1 ≤ 3) (hn2 : n2 ≤ 24) (hse2 : see2 ≤ 2) (htm2 : tm2 ≤ 3) : CRi l D k st lo yX7_door cX7_door 4 (some .int) ({ frames := 3, cells := 0, slots := 0, locals := 63 }) [.ref (a 0), .int p0, .int p1, .int p2] [((a 0), .inr (7, (fX7 (a 1) (a 3) (a 19) (a 35) (a 40) (nI rk) lfa (a 53) (a 56) (a 63) (a 64) (a 68)))), ((a 3), .inl (k 3, 3, .inr (.inr (.inr (.inr (a3 (a 4) (a 9) (a 14))))))), ((a 4), .inr (5, (fX5 (a 5) (a 6) (a 7) (a 8)))), (aI k (a 5) 10 (vv n0 see0 tm0 g0)), (aI k (a 6) 24 ff0), (aI k (a 7) 24 fp0), ((a 9), .inr (5, (fX5 (a 10) (a 11) (a 12) (a 13)))), (aI k (a 10) 10 (vv n1 see1 tm1 g1)), (aI k (a 11) 24 ff1), (aI k (a 12) 24 fp1), ((a 14), .inr (5, (fX5 (a 15) (a 16) (a 17) (a 18)))), (aI k (a 15) 10 (vv n2 see2 tm2 g2)), (aI k (a 16) 24 ff2), (aI k (a 17) 24 fp2)] (fun r => doP (d3 (sdX n0 see0 tm0 g0 ff0 fp0) (sdX n1 see1 tm1 g1 ff1 fp1) (sdX n2 see2 tm2 g2 ff2 fp2)) p0 p1 p2 r) := by
  intro sz
  refine Met.ofW (cc := cX7_door) (maxL := 4) (ret := (some .int)) (by decide) rfl ?_
  intro p e s m args below meth c s₁ B hml hv
  obtain ⟨rfl, hsz, hlo, hP, hK, hDL, hZ⟩ := hv
  have hx := B.exec
  have hb := B.bytes
  have hr := B.returns
  have hts := WS_ts B.pre
  have hown : s.vm.findClass RX7 = some m.cls := findClass_of_methodNamed B.named
  have hlocks := B.notSynchronized
  subst hsz
  have hA : ∀ q : Nat, s.heap.size ≤ q → (fun q : Nat => s.heap.size ≤ q) q := fun _ h => h
  have hAlo : ∀ q : Nat, (fun q : Nat => s.heap.size ≤ q) q → lo ≤ q := fun q h => Nat.le_trans hlo h
  have hS : va_S (fun q : Nat => s.heap.size ≤ q) s.heap s.heap [] := va_S.rf
  have hl := lv_entry ([.ref (a 0), .int p0, .int p1, .int p2]) (n := 4) (Nat.le_of_ble_eq_true rfl)
  rw [lg_entry_eq]
  generalize (lg_sl ([.ref (a 0), .int p0, .int p1, .int p2]) ++ List.replicate (4 - (lg_sl ([.ref (a 0), .int p0, .int p1, .int p2])).length) Slot.unset).toArray = ls at hl ⊢
  have hl : lv_has ls 4 [(0, .ref (a 0)), (1, .int p0), (2, .int p1), (3, .int p2)] := hl
  refine lv_aload_n hx hb dX7_door_0 rfl (lv_at hl 0 rfl) ?_
  refine lv_iload_n hx hb dX7_door_1 rfl (lv_at hl 1 rfl) ?_
  refine lv_iload_n hx hb dX7_door_2 rfl (lv_at hl 2 rfl) ?_
  refine ro_i (D := D) (va_runV (As := [.int p0, .int p1]) (rest := []) ⟨hx, hb, hml, hown, hts⟩ ((y_isDoor l D k st lo a rk lfa n0 see0 tm0 g0 n1 see1 tm1 g1 n2 see2 tm2 g2 p0 p1 (by omega) (by omega) (by omega)) s.heap.size) (cwV 2 hts (gV tw_600 tw_602 tw_9 tw_79 tw_603) rfl rfl rfl (by decide +kernel) ⟨Nat.le_of_ble_eq_true rfl, Nat.le_of_ble_eq_true rfl⟩) (pV hS hAlo hlo hP hK hDL hZ [0, 1, 2, 3, 6, 7, 10, 11] (by decide) rfl (ci := 7) (q := (RX7, TX7, 12)) (q0 := 0) rfl rfl) rfl rfl hl.1 rfl (lv_room (Nat.le_of_ble_eq_true rfl)) dX7_door_3 ⟨Nat.le_of_ble_eq_true rfl, Nat.le_of_ble_eq_true rfl⟩) hS hA hP (fun r_1 H locs hw_1 hP hS => ?_)
  try dsimp only at hw_1
  rcases hw_1 with ⟨rfl, ⟨rfl, id_2, hid_2, rfl⟩ | ⟨rfl, id_2, hid_2, rfl⟩ | ⟨rfl, id_2, hid_2, rfl⟩⟩ | ⟨rfl, hw_1⟩
  · refine lv_if_ne (tgt := 13) hx hb dX7_door_6 (by decide) (fun _ => ?_) (fun h => absurd h (by decide))
    refine lv_iload_n hx hb dX7_door_13 rfl (lv_at hl 3 rfl) ?_
    refine lv_iconst (v := 0) hx hb dX7_door_14 (by decide) ?_
    refine lv_iconst (v := 1) hx hb dX7_door_15 (by decide) ?_
    refine ro_i (D := D) (va_runS (As := [.int p2, .int 0, .int 1]) (rest := []) ⟨hx, hb, hml, hown, hts⟩ ((k_isIn l D k st lo p2 0 1) H.size) (va_cwS 3 hts (gS tw_593 tw_594 tw_79 tw_595) rfl rfl rfl (by decide +kernel) ⟨Nat.le_of_ble_eq_true rfl, Nat.le_of_ble_eq_true rfl⟩) (pS hS hAlo hlo hP hK hDL hZ [] (by decide) rfl) rfl rfl hl.1 rfl (lv_room (Nat.le_of_ble_eq_true rfl)) dX7_door_16 ⟨Nat.le_of_ble_eq_true rfl, Nat.le_of_ble_eq_true rfl⟩) hS hA hP (fun r_3 H locs hw_3 hP hS => ?_)
    try dsimp only at hw_3
    rcases hw_3 with ⟨rfl, hw_3⟩ | ⟨rfl, hw_3⟩
    · refine lv_if_ne (tgt := 26) hx hb dX7_door_19 (by decide) (fun _ => ?_) (fun h => absurd h (by decide))
      refine lv_iload_n hx hb dX7_door_26 rfl (lv_at hl 3 rfl) ?_
      refine lv_if_ne (tgt := 44) hx hb dX7_door_27 (by decide) (fun c_4 => ?_) (fun c_4 => ?_)
      · refine lv_aload_n hx hb dX7_door_44 rfl (lv_at hl 0 rfl) ?_
        refine va_get (D := D) (ci := 7) (v := .ref (a 3)) (C := RX7) (T := TX7) (N := 12) hx hb hts inX7 hown hK hP 0 rfl rfl 1 (by decide) (hts _ tw_306) (fun _ h9 => h9) rfl dX7_door_45 ?_
        refine lv_iload_n hx hb dX7_door_48 rfl (lv_at hl 1 rfl) ?_
        refine va_aldq hx hb hK hP 1 3 rfl rfl (by unfold vp_in; decide) dX7_door_49 ?_
        refine lv_tr (y := .ref (a 4)) rfl ?_
        refine va_get (D := D) (ci := 5) (v := .ref (a 7)) (C := RX5) (T := TX5) (N := 4) hx hb hts inX5 hown hK hP 2 rfl rfl 2 (by decide) (hts _ tw_153) (fun _ h9 => h9) rfl dX7_door_50 ?_
        refine lv_iload_n hx hb dX7_door_53 rfl (lv_at hl 2 rfl) ?_
        refine va_iald hx hb hK hP 5 1 rfl rfl (vp_in_nI (by omega) (by decide)) dX7_door_54 ?_
        refine lv_ti (y := (fp0 id_2)) (by rw [nI_clamp (by omega)]) ?_
        exact W.iret (v := (fp0 id_2)) hx hb hr (fun t ht hW => ⟨⟨(fp0 id_2), (), rfl, do_at (s := 0) (by omega) (show n0 ≤ 24 by omega) (show id_2 < n0 by omega) (doF1 (by omega) (is01 hw_3 c_4)), trivial⟩, hS.F ht⟩) hS.2.2 dX7_door_55
      · refine lv_aload_n hx hb dX7_door_30 rfl (lv_at hl 0 rfl) ?_
        refine va_get (D := D) (ci := 7) (v := .ref (a 3)) (C := RX7) (T := TX7) (N := 12) hx hb hts inX7 hown hK hP 0 rfl rfl 1 (by decide) (hts _ tw_306) (fun _ h9 => h9) rfl dX7_door_31 ?_
        refine lv_iload_n hx hb dX7_door_34 rfl (lv_at hl 1 rfl) ?_
        refine va_aldq hx hb hK hP 1 3 rfl rfl (by unfold vp_in; decide) dX7_door_35 ?_
        refine lv_tr (y := .ref (a 4)) rfl ?_
        refine va_get (D := D) (ci := 5) (v := .ref (a 6)) (C := RX5) (T := TX5) (N := 4) hx hb hts inX5 hown hK hP 2 rfl rfl 1 (by decide) (hts _ tw_151) (fun _ h9 => h9) rfl dX7_door_36 ?_
        refine lv_iload_n hx hb dX7_door_39 rfl (lv_at hl 2 rfl) ?_
        refine va_iald hx hb hK hP 4 1 rfl rfl (vp_in_nI (by omega) (by decide)) dX7_door_40 ?_
        refine lv_ti (y := (ff0 id_2)) (by rw [nI_clamp (by omega)]) ?_
        refine lv_goto (tgt := 55) hx hb dX7_door_41 (by decide) ?_
        exact W.iret (v := (ff0 id_2)) hx hb hr (fun t ht hW => ⟨⟨(ff0 id_2), (), rfl, do_at (s := 0) (by omega) (show n0 ≤ 24 by omega) (show id_2 < n0 by omega) (doF0 (by omega) c_4), trivial⟩, hS.F ht⟩) hS.2.2 dX7_door_55
    · refine lv_if_ne (tgt := 26) hx hb dX7_door_19 (by decide) (fun h => absurd (by decide) h) (fun _ => ?_)
      refine lv_sipush (v := (-1002)) hx hb dX7_door_22 (by decide) ?_
      exact W.iret (v := (-1002)) hx hb hr (fun t ht hW => ⟨⟨(-1002), (), rfl, do_at (s := 0) (by omega) (show n0 ≤ 24 by omega) (show id_2 < n0 by omega) (doFo (not01 hw_3).1 (not01 hw_3).2), trivial⟩, hS.F ht⟩) hS.2.2 dX7_door_25
  · refine lv_if_ne (tgt := 13) hx hb dX7_door_6 (by decide) (fun _ => ?_) (fun h => absurd h (by decide))
    refine lv_iload_n hx hb dX7_door_13 rfl (lv_at hl 3 rfl) ?_
    refine lv_iconst (v := 0) hx hb dX7_door_14 (by decide) ?_
    refine lv_iconst (v := 1) hx hb dX7_door_15 (by decide) ?_
    refine ro_i (D := D) (va_runS (As := [.int p2, .int 0, .int 1]) (rest := []) ⟨hx, hb, hml, hown, hts⟩ ((k_isIn l D k st lo p2 0 1) H.size) (va_cwS 3 hts (gS tw_593 tw_594 tw_79 tw_595) rfl rfl rfl (by decide +kernel) ⟨Nat.le_of_ble_eq_true rfl, Nat.le_of_ble_eq_true rfl⟩) (pS hS hAlo hlo hP hK hDL hZ [] (by decide) rfl) rfl rfl hl.1 rfl (lv_room (Nat.le_of_ble_eq_true rfl)) dX7_door_16 ⟨Nat.le_of_ble_eq_true rfl, Nat.le_of_ble_eq_true rfl⟩) hS hA hP (fun r_5 H locs hw_5 hP hS => ?_)
    try dsimp only at hw_5
    rcases hw_5 with ⟨rfl, hw_5⟩ | ⟨rfl, hw_5⟩
    · refine lv_if_ne (tgt := 26) hx hb dX7_door_19 (by decide) (fun _ => ?_) (fun h => absurd h (by decide))
      refine lv_iload_n hx hb dX7_door_26 rfl (lv_at hl 3 rfl) ?_
      refine lv_if_ne (tgt := 44) hx hb dX7_door_27 (by decide) (fun c_6 => ?_) (fun c_6 => ?_)
      · refine lv_aload_n hx hb dX7_door_44 rfl (lv_at hl 0 rfl) ?_
        refine va_get (D := D) (ci := 7) (v := .ref (a 3)) (C := RX7) (T := TX7) (N := 12) hx hb hts inX7 hown hK hP 0 rfl rfl 1 (by decide) (hts _ tw_306) (fun _ h9 => h9) rfl dX7_door_45 ?_
        refine lv_iload_n hx hb dX7_door_48 rfl (lv_at hl 1 rfl) ?_
        refine va_aldq hx hb hK hP 1 3 rfl rfl (by unfold vp_in; decide) dX7_door_49 ?_
        refine lv_tr (y := .ref (a 9)) rfl ?_
        refine va_get (D := D) (ci := 5) (v := .ref (a 12)) (C := RX5) (T := TX5) (N := 4) hx hb hts inX5 hown hK hP 6 rfl rfl 2 (by decide) (hts _ tw_153) (fun _ h9 => h9) rfl dX7_door_50 ?_
        refine lv_iload_n hx hb dX7_door_53 rfl (lv_at hl 2 rfl) ?_
        refine va_iald hx hb hK hP 9 1 rfl rfl (vp_in_nI (by omega) (by decide)) dX7_door_54 ?_
        refine lv_ti (y := (fp1 id_2)) (by rw [nI_clamp (by omega)]) ?_
        exact W.iret (v := (fp1 id_2)) hx hb hr (fun t ht hW => ⟨⟨(fp1 id_2), (), rfl, do_at (s := 1) (by omega) (show n1 ≤ 24 by omega) (show id_2 < n1 by omega) (doF1 (by omega) (is01 hw_5 c_6)), trivial⟩, hS.F ht⟩) hS.2.2 dX7_door_55
      · refine lv_aload_n hx hb dX7_door_30 rfl (lv_at hl 0 rfl) ?_
        refine va_get (D := D) (ci := 7) (v := .ref (a 3)) (C := RX7) (T := TX7) (N := 12) hx hb hts inX7 hown hK hP 0 rfl rfl 1 (by decide) (hts _ tw_306) (fun _ h9 => h9) rfl dX7_door_31 ?_
        refine lv_iload_n hx hb dX7_door_34 rfl (lv_at hl 1 rfl) ?_
        refine va_aldq hx hb hK hP 1 3 rfl rfl (by unfold vp_in; decide) dX7_door_35 ?_
        refine lv_tr (y := .ref (a 9)) rfl ?_
        refine va_get (D := D) (ci := 5) (v := .ref (a 11)) (C := RX5) (T := TX5) (N := 4) hx hb hts inX5 hown hK hP 6 rfl rfl 1 (by decide) (hts _ tw_151) (fun _ h9 => h9) rfl dX7_door_36 ?_
        refine lv_iload_n hx hb dX7_door_39 rfl (lv_at hl 2 rfl) ?_
        refine va_iald hx hb hK hP 8 1 rfl rfl (vp_in_nI (by omega) (by decide)) dX7_door_40 ?_
        refine lv_ti (y := (ff1 id_2)) (by rw [nI_clamp (by omega)]) ?_
        refine lv_goto (tgt := 55) hx hb dX7_door_41 (by decide) ?_
        exact W.iret (v := (ff1 id_2)) hx hb hr (fun t ht hW => ⟨⟨(ff1 id_2), (), rfl, do_at (s := 1) (by omega) (show n1 ≤ 24 by omega) (show id_2 < n1 by omega) (doF0 (by omega) c_6), trivial⟩, hS.F ht⟩) hS.2.2 dX7_door_55
    · refine lv_if_ne (tgt := 26) hx hb dX7_door_19 (by decide) (fun h => absurd (by decide) h) (fun _ => ?_)
      refine lv_sipush (v := (-1002)) hx hb dX7_door_22 (by decide) ?_
      exact W.iret (v := (-1002)) hx hb hr (fun t ht hW => ⟨⟨(-1002), (), rfl, do_at (s := 1) (by omega) (show n1 ≤ 24 by omega) (show id_2 < n1 by omega) (doFo (not01 hw_5).1 (not01 hw_5).2), trivial⟩, hS.F ht⟩) hS.2.2 dX7_door_25
  · refine lv_if_ne (tgt := 13) hx hb dX7_door_6 (by decide) (fun _ => ?_) (fun h => absurd h (by decide))
    refine lv_iload_n hx hb dX7_door_13 rfl (lv_at hl 3 rfl) ?_
    refine lv_iconst (v := 0) hx hb dX7_door_14 (by decide) ?_
    refine lv_iconst (v := 1) hx hb dX7_door_15 (by decide) ?_
    refine ro_i (D := D) (va_runS (As := [.int p2, .int 0, .int 1]) (rest := []) ⟨hx, hb, hml, hown, hts⟩ ((k_isIn l D k st lo p2 0 1) H.size) (va_cwS 3 hts (gS tw_593 tw_594 tw_79 tw_595) rfl rfl rfl (by decide +kernel) ⟨Nat.le_of_ble_eq_true rfl, Nat.le_of_ble_eq_true rfl⟩) (pS hS hAlo hlo hP hK hDL hZ [] (by decide) rfl) rfl rfl hl.1 rfl (lv_room (Nat.le_of_ble_eq_true rfl)) dX7_door_16 ⟨Nat.le_of_ble_eq_true rfl, Nat.le_of_ble_eq_true rfl⟩) hS hA hP (fun r_7 H locs hw_7 hP hS => ?_)
    try dsimp only at hw_7
    rcases hw_7 with ⟨rfl, hw_7⟩ | ⟨rfl, hw_7⟩
    · refine lv_if_ne (tgt := 26) hx hb dX7_door_19 (by decide) (fun _ => ?_) (fun h => absurd h (by decide))
      refine lv_iload_n hx hb dX7_door_26 rfl (lv_at hl 3 rfl) ?_
      refine lv_if_ne (tgt := 44) hx hb dX7_door_27 (by decide) (fun c_8 => ?_) (fun c_8 => ?_)
      · refine lv_aload_n hx hb dX7_door_44 rfl (lv_at hl 0 rfl) ?_
        refine va_get (D := D) (ci := 7) (v := .ref (a 3)) (C := RX7) (T := TX7) (N := 12) hx hb hts inX7 hown hK hP 0 rfl rfl 1 (by decide) (hts _ tw_306) (fun _ h9 => h9) rfl dX7_door_45 ?_
        refine lv_iload_n hx hb dX7_door_48 rfl (lv_at hl 1 rfl) ?_
        refine va_aldq hx hb hK hP 1 3 rfl rfl (by unfold vp_in; decide) dX7_door_49 ?_
        refine lv_tr (y := .ref (a 14)) rfl ?_
        refine va_get (D := D) (ci := 5) (v := .ref (a 17)) (C := RX5) (T := TX5) (N := 4) hx hb hts inX5 hown hK hP 10 rfl rfl 2 (by decide) (hts _ tw_153) (fun _ h9 => h9) rfl dX7_door_50 ?_
        refine lv_iload_n hx hb dX7_door_53 rfl (lv_at hl 2 rfl) ?_
        refine va_iald hx hb hK hP 13 1 rfl rfl (vp_in_nI (by omega) (by decide)) dX7_door_54 ?_
        refine lv_ti (y := (fp2 id_2)) (by rw [nI_clamp (by omega)]) ?_
        exact W.iret (v := (fp2 id_2)) hx hb hr (fun t ht hW => ⟨⟨(fp2 id_2), (), rfl, do_at (s := 2) (by omega) (show n2 ≤ 24 by omega) (show id_2 < n2 by omega) (doF1 (by omega) (is01 hw_7 c_8)), trivial⟩, hS.F ht⟩) hS.2.2 dX7_door_55
      · refine lv_aload_n hx hb dX7_door_30 rfl (lv_at hl 0 rfl) ?_
        refine va_get (D := D) (ci := 7) (v := .ref (a 3)) (C := RX7) (T := TX7) (N := 12) hx hb hts inX7 hown hK hP 0 rfl rfl 1 (by decide) (hts _ tw_306) (fun _ h9 => h9) rfl dX7_door_31 ?_
        refine lv_iload_n hx hb dX7_door_34 rfl (lv_at hl 1 rfl) ?_
        refine va_aldq hx hb hK hP 1 3 rfl rfl (by unfold vp_in; decide) dX7_door_35 ?_
        refine lv_tr (y := .ref (a 14)) rfl ?_
        refine va_get (D := D) (ci := 5) (v := .ref (a 16)) (C := RX5) (T := TX5) (N := 4) hx hb hts inX5 hown hK hP 10 rfl rfl 1 (by decide) (hts _ tw_151) (fun _ h9 => h9) rfl dX7_door_36 ?_
        refine lv_iload_n hx hb dX7_door_39 rfl (lv_at hl 2 rfl) ?_
        refine va_iald hx hb hK hP 12 1 rfl rfl (vp_in_nI (by omega) (by decide)) dX7_door_40 ?_
        refine lv_ti (y := (ff2 id_2)) (by rw [nI_clamp (by omega)]) ?_
        refine lv_goto (tgt := 55) hx hb dX7_door_41 (by decide) ?_
        exact W.iret (v := (ff2 id_2)) hx hb hr (fun t ht hW => ⟨⟨(ff2 id_2), (), rfl, do_at (s := 2) (by omega) (show n2 ≤ 24 by omega) (show id_2 < n2 by omega) (doF0 (by omega) c_8), trivial⟩, hS.F ht⟩) hS.2.2 dX7_door_55
    · refine lv_if_ne (tgt := 26) hx hb dX7_door_19 (by decide) (fun h => absurd (by decide) h) (fun _ => ?_)
      refine lv_sipush (v := (-1002)) hx hb dX7_door_22 (by decide) ?_
      exact W.iret (v := (-1002)) hx hb hr (fun t ht hW => ⟨⟨(-1002), (), rfl, do_at (s := 2) (by omega) (show n2 ≤ 24 by omega) (show id_2 < n2 by omega) (doFo (not01 hw_7).1 (not01 hw_7).2), trivial⟩, hS.F ht⟩) hS.2.2 dX7_door_25
  · refine lv_if_ne (tgt := 13) hx hb dX7_door_6 (by decide) (fun h => absurd (by decide) h) (fun _ => ?_)
    refine lv_sipush (v := (-1001)) hx hb dX7_door_9 (by decide) ?_
    exact W.iret (v := (-1001)) hx hb hr (fun t ht hW => ⟨⟨(-1001), (), rfl, do_no (fun s h1 h2 i h3 h4 => hw_1 s h1 h2 i h3 (by rw [d3_n] at h4; exact h4)), trivial⟩, hS.F ht⟩) hS.2.2 dX7_door_12


theorem dX7_door_0 : decode cX7_door 0 = .ok (.aload_n 0, 1) := by decide +kernel
theorem dX7_door_1 : decode cX7_door 1 = .ok (.iload_n 1, 1) := by decide +kernel
theorem dX7_door_2 : decode cX7_door 2 = .ok (.iload_n 2, 1) := by decide +kernel
theorem dX7_door_3 : decode cX7_door 3 = .ok (.invokevirtual 120, 3) := by decide +kernel
theorem dX7_door_6 : decode cX7_door 6 = .ok (.ifCond .ne 7, 3) := by decide +kernel
theorem dX7_door_9 : decode cX7_door 9 = .ok (.sipush (-1001), 3) := by decide +kernel
theorem dX7_door_12 : decode cX7_door 12 = .ok (.ireturn, 1) := by decide +kernel
theorem dX7_door_13 : decode cX7_door 13 = .ok (.iload_n 3, 1) := by decide +kernel
theorem dX7_door_14 : decode cX7_door 14 = .ok (.iconst 0, 1) := by decide +kernel
theorem dX7_door_15 : decode cX7_door 15 = .ok (.iconst 1, 1) := by decide +kernel
theorem dX7_door_16 : decode cX7_door 16 = .ok (.invokestatic 112, 3) := by decide +kernel
theorem dX7_door_19 : decode cX7_door 19 = .ok (.ifCond .ne 7, 3) := by decide +kernel
theorem dX7_door_22 : decode cX7_door 22 = .ok (.sipush (-1002), 3) := by decide +kernel
theorem dX7_door_25 : decode cX7_door 25 = .ok (.ireturn, 1) := by decide +kernel
theorem dX7_door_26 : decode cX7_door 26 = .ok (.iload_n 3, 1) := by decide +kernel
theorem dX7_door_27 : decode cX7_door 27 = .ok (.ifCond .ne 17, 3) := by decide +kernel
theorem dX7_door_30 : decode cX7_door 30 = .ok (.aload_n 0, 1) := by decide +kernel
theorem dX7_door_31 : decode cX7_door 31 = .ok (.getfield 18, 3) := by decide +kernel
theorem dX7_door_34 : decode cX7_door 34 = .ok (.iload_n 1, 1) := by decide +kernel
theorem dX7_door_35 : decode cX7_door 35 = .ok (.aaload, 1) := by decide +kernel
theorem dX7_door_36 : decode cX7_door 36 = .ok (.getfield 124, 3) := by decide +kernel
theorem dX7_door_39 : decode cX7_door 39 = .ok (.iload_n 2, 1) := by decide +kernel
theorem dX7_door_40 : decode cX7_door 40 = .ok (.iaload, 1) := by decide +kernel
theorem dX7_door_41 : decode cX7_door 41 = .ok (.goto 14, 3) := by decide +kernel
theorem dX7_door_44 : decode cX7_door 44 = .ok (.aload_n 0, 1) := by decide +kernel
theorem dX7_door_45 : decode cX7_door 45 = .ok (.getfield 18, 3) := by decide +kernel
theorem dX7_door_48 : decode cX7_door 48 = .ok (.iload_n 1, 1) := by decide +kernel
theorem dX7_door_49 : decode cX7_door 49 = .ok (.aaload, 1) := by decide +kernel
theorem dX7_door_50 : decode cX7_door 50 = .ok (.getfield 127, 3) := by decide +kernel
theorem dX7_door_53 : decode cX7_door 53 = .ok (.iload_n 2, 1) := by decide +kernel
theorem dX7_door_54 : decode cX7_door 54 = .ok (.iaload, 1) := by decide +kernel
theorem dX7_door_55 : decode cX7_door 55 = .ok (.ireturn, 1) := by decide +kernel
set_option maxHeartbeats 4000000 in
set_option maxRecDepth 100000 in
theorem x_door (l : Launch) (D : va_G) (k : Nat → ClassId) (st : Nat → Nat) (lo : Nat) (a : Nat → Nat) (rk : Nat) (lfa : Int32) (n0 : Nat) (see0 : Nat) (tm0 : Nat) (g0 : Nat → Int32) (ff0 : Nat → Int32) (fp0 : Nat → Int32) (n1 : Nat) (see1 : Nat) (tm1 : Nat) (g1 : Nat → Int32) (ff1 : Nat → Int32) (fp1 : Nat → Int32) (n2 : Nat) (see2 : Nat) (tm2 : Nat) (g2 : Nat → Int32) (ff2 : Nat → Int32) (fp2 : Nat → Int32) (p0 : Int32) (p1 : Int32) (p2 : Int32) (hn0 : n0 ≤ 24) (hse0 : see0 ≤ 2) (htm0 : tm0 ≤ 3) (hn1 : n1 ≤ 24) (hse1 : see1 ≤ 2) (htm1 : tm1 ≤ 3) (hn2 : n2 ≤ 24) (hse2 : see2 ≤ 2) (htm2 : tm2 ≤ 3) : CRi l D k st lo yX7_door cX7_door 4 (some .int) ({ frames := 3, cells := 0, slots := 0, locals := 63 }) [.ref (a 0), .int p0, .int p1, .int p2] [((a 0), .inr (7, [.ref (a 1), .ref (a 3), .ref (a 19), .ref (a 35), .ref (a 40), .int (nI rk), .int lfa, .ref (a 53), .ref (a 56), .ref (a 63), .ref (a 64), .ref (a 68)])), ((a 3), .inl (k 3, 3, .inr (.inr (.inr (.inr (a3 (a 4) (a 9) (a 14))))))), ((a 4), .inr (5, [.ref (a 5), .ref (a 6), .ref (a 7), .ref (a 8)])), ((a 5), .inl (k 1, 10, .inl (vv n0 see0 tm0 g0))), ((a 6), .inl (k 1, 24, .inl ff0)), ((a 7), .inl (k 1, 24, .inl fp0)), ((a 9), .inr (5, [.ref (a 10), .ref (a 11), .ref (a 12), .ref (a 13)])), ((a 10), .inl (k 1, 10, .inl (vv n1 see1 tm1 g1))), ((a 11), .inl (k 1, 24, .inl ff1)), ((a 12), .inl (k 1, 24, .inl fp1)), ((a 14), .inr (5, [.ref (a 15), .ref (a 16), .ref (a 17), .ref (a 18)])), ((a 15), .inl (k 1, 10, .inl (vv n2 see2 tm2 g2))), ((a 16), .inl (k 1, 24, .inl ff2)), ((a 17), .inl (k 1, 24, .inl fp2))] (fun _ => True) := by
  intro sz
  refine Met.ofW (cc := cX7_door) (maxL := 4) (ret := (some .int)) (by decide) rfl ?_
  intro p e s m args below meth c s₁ B hml hv
  obtain ⟨rfl, hsz, hlo, hP, hK, hDL, hZ⟩ := hv
  have hx := B.exec
  have hb := B.bytes
  have hr := B.returns
  have hts := WS_ts B.pre
  have hown : s.vm.findClass RX7 = some m.cls := findClass_of_methodNamed B.named
  have hlocks := B.notSynchronized
  subst hsz
  have hA : ∀ q : Nat, s.heap.size ≤ q → (fun q : Nat => s.heap.size ≤ q) q := fun _ h => h
  have hAlo : ∀ q : Nat, (fun q : Nat => s.heap.size ≤ q) q → lo ≤ q := fun q h => Nat.le_trans hlo h
  have hS : va_S (fun q : Nat => s.heap.size ≤ q) s.heap s.heap [] := va_S.rf
  have hl := lv_entry ([.ref (a 0), .int p0, .int p1, .int p2]) (n := 4) (Nat.le_of_ble_eq_true rfl)
  rw [lg_entry_eq]
  generalize (lg_sl ([.ref (a 0), .int p0, .int p1, .int p2]) ++ List.replicate (4 - (lg_sl ([.ref (a 0), .int p0, .int p1, .int p2])).length) Slot.unset).toArray = ls at hl ⊢
  have hl : lv_has ls 4 [(0, .ref (a 0)), (1, .int p0), (2, .int p1), (3, .int p2)] := hl
  refine lv_aload_n hx hb dX7_door_0 rfl (lv_at hl 0 rfl) ?_
  refine lv_iload_n hx hb dX7_door_1 rfl (lv_at hl 1 rfl) ?_
  refine lv_iload_n hx hb dX7_door_2 rfl (lv_at hl 2 rfl) ?_
  refine ro_i (D := D) (va_runV (As := [.int p0, .int p1]) (rest := []) ⟨hx, hb, hml, hown, hts⟩ ((x_isDoor l D k st lo a rk lfa n0 see0 tm0 g0 n1 see1 tm1 g1 n2 see2 tm2 g2 p0 p1 (by omega) (by omega) (by omega)) s.heap.size) (cwV 2 hts (gV tw_600 tw_602 tw_9 tw_79 tw_603) rfl rfl rfl (by decide +kernel) ⟨Nat.le_of_ble_eq_true rfl, Nat.le_of_ble_eq_true rfl⟩) (pV hS hAlo hlo hP hK hDL hZ [0, 1, 2, 3, 6, 7, 10, 11] (by decide) rfl (ci := 7) (q0 := 0) rfl rfl) rfl rfl hl.1 rfl (lv_room (Nat.le_of_ble_eq_true rfl)) dX7_door_3 ⟨Nat.le_of_ble_eq_true rfl, Nat.le_of_ble_eq_true rfl⟩) hS hA hP (fun r_1 H locs hw_1 hP hS => ?_)
  try dsimp only at hw_1
  rcases hw_1 with ⟨rfl, ⟨rfl, id_2, hid_2, rfl⟩ | ⟨rfl, id_2, hid_2, rfl⟩ | ⟨rfl, id_2, hid_2, rfl⟩⟩ | rfl
  · refine lv_if_ne (tgt := 13) hx hb dX7_door_6 (by decide) (fun _ => ?_) (fun h => absurd h (by decide))
    refine lv_iload_n hx hb dX7_door_13 rfl (lv_at hl 3 rfl) ?_
    refine lv_iconst (v := 0) hx hb dX7_door_14 (by decide) ?_
    refine lv_iconst (v := 1) hx hb dX7_door_15 (by decide) ?_
    refine ro_i (D := D) (va_runS (As := [.int p2, .int 0, .int 1]) (rest := []) ⟨hx, hb, hml, hown, hts⟩ ((k_isIn l D k st lo p2 0 1) H.size) (va_cwS 3 hts (gS tw_593 tw_594 tw_79 tw_595) rfl rfl rfl (by decide +kernel) ⟨Nat.le_of_ble_eq_true rfl, Nat.le_of_ble_eq_true rfl⟩) (pS hS hAlo hlo hP hK hDL hZ [] (by decide) rfl) rfl rfl hl.1 rfl (lv_room (Nat.le_of_ble_eq_true rfl)) dX7_door_16 ⟨Nat.le_of_ble_eq_true rfl, Nat.le_of_ble_eq_true rfl⟩) hS hA hP (fun r_3 H locs hw_3 hP hS => ?_)
    try dsimp only at hw_3
    rcases hw_3 with ⟨rfl, hw_3⟩ | ⟨rfl, hw_3⟩
    · refine lv_if_ne (tgt := 26) hx hb dX7_door_19 (by decide) (fun _ => ?_) (fun h => absurd h (by decide))
      refine lv_iload_n hx hb dX7_door_26 rfl (lv_at hl 3 rfl) ?_
      refine lv_if_ne (tgt := 44) hx hb dX7_door_27 (by decide) (fun c_4 => ?_) (fun c_4 => ?_)
      · refine lv_aload_n hx hb dX7_door_44 rfl (lv_at hl 0 rfl) ?_
        refine va_get (D := D) (ci := 7) (v := .ref (a 3)) (C := RX7) (T := TX7) (N := 12) hx hb hts inX7 hown hK hP 0 rfl rfl 1 (by decide) (hts _ tw_306) (fun _ h9 => h9) rfl dX7_door_45 ?_
        refine lv_iload_n hx hb dX7_door_48 rfl (lv_at hl 1 rfl) ?_
        refine va_aldq hx hb hK hP 1 3 rfl rfl (by unfold vp_in; decide) dX7_door_49 ?_
        refine lv_tr (y := .ref (a 4)) rfl ?_
        refine va_get (D := D) (ci := 5) (v := .ref (a 7)) (C := RX5) (T := TX5) (N := 4) hx hb hts inX5 hown hK hP 2 rfl rfl 2 (by decide) (hts _ tw_153) (fun _ h9 => h9) rfl dX7_door_50 ?_
        refine lv_iload_n hx hb dX7_door_53 rfl (lv_at hl 2 rfl) ?_
        refine va_iald hx hb hK hP 5 1 rfl rfl (vp_in_nI (by omega) (by decide)) dX7_door_54 ?_
        refine lv_ti (y := (fp0 id_2)) (by rw [nI_clamp (by omega)]) ?_
        exact W.iret (v := (fp0 id_2)) hx hb hr (fun t ht hW => ⟨⟨(fp0 id_2), (), rfl, trivial, trivial⟩, hS.F ht⟩) hS.2.2 dX7_door_55
      · refine lv_aload_n hx hb dX7_door_30 rfl (lv_at hl 0 rfl) ?_
        refine va_get (D := D) (ci := 7) (v := .ref (a 3)) (C := RX7) (T := TX7) (N := 12) hx hb hts inX7 hown hK hP 0 rfl rfl 1 (by decide) (hts _ tw_306) (fun _ h9 => h9) rfl dX7_door_31 ?_
        refine lv_iload_n hx hb dX7_door_34 rfl (lv_at hl 1 rfl) ?_
        refine va_aldq hx hb hK hP 1 3 rfl rfl (by unfold vp_in; decide) dX7_door_35 ?_
        refine lv_tr (y := .ref (a 4)) rfl ?_
        refine va_get (D := D) (ci := 5) (v := .ref (a 6)) (C := RX5) (T := TX5) (N := 4) hx hb hts inX5 hown hK hP 2 rfl rfl 1 (by decide) (hts _ tw_151) (fun _ h9 => h9) rfl dX7_door_36 ?_
        refine lv_iload_n hx hb dX7_door_39 rfl (lv_at hl 2 rfl) ?_
        refine va_iald hx hb hK hP 4 1 rfl rfl (vp_in_nI (by omega) (by decide)) dX7_door_40 ?_
        refine lv_ti (y := (ff0 id_2)) (by rw [nI_clamp (by omega)]) ?_
        refine lv_goto (tgt := 55) hx hb dX7_door_41 (by decide) ?_
        exact W.iret (v := (ff0 id_2)) hx hb hr (fun t ht hW => ⟨⟨(ff0 id_2), (), rfl, trivial, trivial⟩, hS.F ht⟩) hS.2.2 dX7_door_55
    · refine lv_if_ne (tgt := 26) hx hb dX7_door_19 (by decide) (fun h => absurd (by decide) h) (fun _ => ?_)
      refine lv_sipush (v := (-1002)) hx hb dX7_door_22 (by decide) ?_
      exact W.iret (v := (-1002)) hx hb hr (fun t ht hW => ⟨⟨(-1002), (), rfl, trivial, trivial⟩, hS.F ht⟩) hS.2.2 dX7_door_25
  · refine lv_if_ne (tgt := 13) hx hb dX7_door_6 (by decide) (fun _ => ?_) (fun h => absurd h (by decide))
    refine lv_iload_n hx hb dX7_door_13 rfl (lv_at hl 3 rfl) ?_
    refine lv_iconst (v := 0) hx hb dX7_door_14 (by decide) ?_
    refine lv_iconst (v := 1) hx hb dX7_door_15 (by decide) ?_
    refine ro_i (D := D) (va_runS (As := [.int p2, .int 0, .int 1]) (rest := []) ⟨hx, hb, hml, hown, hts⟩ ((k_isIn l D k st lo p2 0 1) H.size) (va_cwS 3 hts (gS tw_593 tw_594 tw_79 tw_595) rfl rfl rfl (by decide +kernel) ⟨Nat.le_of_ble_eq_true rfl, Nat.le_of_ble_eq_true rfl⟩) (pS hS hAlo hlo hP hK hDL hZ [] (by decide) rfl) rfl rfl hl.1 rfl (lv_room (Nat.le_of_ble_eq_true rfl)) dX7_door_16 ⟨Nat.le_of_ble_eq_true rfl, Nat.le_of_ble_eq_true rfl⟩) hS hA hP (fun r_5 H locs hw_5 hP hS => ?_)
    try dsimp only at hw_5
    rcases hw_5 with ⟨rfl, hw_5⟩ | ⟨rfl, hw_5⟩
    · refine lv_if_ne (tgt := 26) hx hb dX7_door_19 (by decide) (fun _ => ?_) (fun h => absurd h (by decide))
      refine lv_iload_n hx hb dX7_door_26 rfl (lv_at hl 3 rfl) ?_
      refine lv_if_ne (tgt := 44) hx hb dX7_door_27 (by decide) (fun c_6 => ?_) (fun c_6 => ?_)
      · refine lv_aload_n hx hb dX7_door_44 rfl (lv_at hl 0 rfl) ?_
        refine va_get (D := D) (ci := 7) (v := .ref (a 3)) (C := RX7) (T := TX7) (N := 12) hx hb hts inX7 hown hK hP 0 rfl rfl 1 (by decide) (hts _ tw_306) (fun _ h9 => h9) rfl dX7_door_45 ?_
        refine lv_iload_n hx hb dX7_door_48 rfl (lv_at hl 1 rfl) ?_
        refine va_aldq hx hb hK hP 1 3 rfl rfl (by unfold vp_in; decide) dX7_door_49 ?_
        refine lv_tr (y := .ref (a 9)) rfl ?_
        refine va_get (D := D) (ci := 5) (v := .ref (a 12)) (C := RX5) (T := TX5) (N := 4) hx hb hts inX5 hown hK hP 6 rfl rfl 2 (by decide) (hts _ tw_153) (fun _ h9 => h9) rfl dX7_door_50 ?_
        refine lv_iload_n hx hb dX7_door_53 rfl (lv_at hl 2 rfl) ?_
        refine va_iald hx hb hK hP 9 1 rfl rfl (vp_in_nI (by omega) (by decide)) dX7_door_54 ?_
        refine lv_ti (y := (fp1 id_2)) (by rw [nI_clamp (by omega)]) ?_
        exact W.iret (v := (fp1 id_2)) hx hb hr (fun t ht hW => ⟨⟨(fp1 id_2), (), rfl, trivial, trivial⟩, hS.F ht⟩) hS.2.2 dX7_door_55
      · refine lv_aload_n hx hb dX7_door_30 rfl (lv_at hl 0 rfl) ?_
        refine va_get (D := D) (ci := 7) (v := .ref (a 3)) (C := RX7) (T := TX7) (N := 12) hx hb hts inX7 hown hK hP 0 rfl rfl 1 (by decide) (hts _ tw_306) (fun _ h9 => h9) rfl dX7_door_31 ?_
        refine lv_iload_n hx hb dX7_door_34 rfl (lv_at hl 1 rfl) ?_
        refine va_aldq hx hb hK hP 1 3 rfl rfl (by unfold vp_in; decide) dX7_door_35 ?_
        refine lv_tr (y := .ref (a 9)) rfl ?_
        refine va_get (D := D) (ci := 5) (v := .ref (a 11)) (C := RX5) (T := TX5) (N := 4) hx hb hts inX5 hown hK hP 6 rfl rfl 1 (by decide) (hts _ tw_151) (fun _ h9 => h9) rfl dX7_door_36 ?_
        refine lv_iload_n hx hb dX7_door_39 rfl (lv_at hl 2 rfl) ?_
        refine va_iald hx hb hK hP 8 1 rfl rfl (vp_in_nI (by omega) (by decide)) dX7_door_40 ?_
        refine lv_ti (y := (ff1 id_2)) (by rw [nI_clamp (by omega)]) ?_
        refine lv_goto (tgt := 55) hx hb dX7_door_41 (by decide) ?_
        exact W.iret (v := (ff1 id_2)) hx hb hr (fun t ht hW => ⟨⟨(ff1 id_2), (), rfl, trivial, trivial⟩, hS.F ht⟩) hS.2.2 dX7_door_55
    · refine lv_if_ne (tgt := 26) hx hb dX7_door_19 (by decide) (fun h => absurd (by decide) h) (fun _ => ?_)
      refine lv_sipush (v := (-1002)) hx hb dX7_door_22 (by decide) ?_
      exact W.iret (v := (-1002)) hx hb hr (fun t ht hW => ⟨⟨(-1002), (), rfl, trivial, trivial⟩, hS.F ht⟩) hS.2.2 dX7_door_25
  · refine lv_if_ne (tgt := 13) hx hb dX7_door_6 (by decide) (fun _ => ?_) (fun h => absurd h (by decide))
    refine lv_iload_n hx hb dX7_door_13 rfl (lv_at hl 3 rfl) ?_
    refine lv_iconst (v := 0) hx hb dX7_door_14 (by decide) ?_
    refine lv_iconst (v := 1) hx hb dX7_door_15 (by decide) ?_
    refine ro_i (D := D) (va_runS (As := [.int p2, .int 0, .int 1]) (rest := []) ⟨hx, hb, hml, hown, hts⟩ ((k_isIn l D k st lo p2 0 1) H.size) (va_cwS 3 hts (gS tw_593 tw_594 tw_79 tw_595) rfl rfl rfl (by decide +kernel) ⟨Nat.le_of_ble_eq_true rfl, Nat.le_of_ble_eq_true rfl⟩) (pS hS hAlo hlo hP hK hDL hZ [] (by decide) rfl) rfl rfl hl.1 rfl (lv_room (Nat.le_of_ble_eq_true rfl)) dX7_door_16 ⟨Nat.le_of_ble_eq_true rfl, Nat.le_of_ble_eq_true rfl⟩) hS hA hP (fun r_7 H locs hw_7 hP hS => ?_)
    try dsimp only at hw_7
    rcases hw_7 with ⟨rfl, hw_7⟩ | ⟨rfl, hw_7⟩
    · refine lv_if_ne (tgt := 26) hx hb dX7_door_19 (by decide) (fun _ => ?_) (fun h => absurd h (by decide))
      refine lv_iload_n hx hb dX7_door_26 rfl (lv_at hl 3 rfl) ?_
      refine lv_if_ne (tgt := 44) hx hb dX7_door_27 (by decide) (fun c_8 => ?_) (fun c_8 => ?_)
      · refine lv_aload_n hx hb dX7_door_44 rfl (lv_at hl 0 rfl) ?_
        refine va_get (D := D) (ci := 7) (v := .ref (a 3)) (C := RX7) (T := TX7) (N := 12) hx hb hts inX7 hown hK hP 0 rfl rfl 1 (by decide) (hts _ tw_306) (fun _ h9 => h9) rfl dX7_door_45 ?_
        refine lv_iload_n hx hb dX7_door_48 rfl (lv_at hl 1 rfl) ?_
        refine va_aldq hx hb hK hP 1 3 rfl rfl (by unfold vp_in; decide) dX7_door_49 ?_
        refine lv_tr (y := .ref (a 14)) rfl ?_
        refine va_get (D := D) (ci := 5) (v := .ref (a 17)) (C := RX5) (T := TX5) (N := 4) hx hb hts inX5 hown hK hP 10 rfl rfl 2 (by decide) (hts _ tw_153) (fun _ h9 => h9) rfl dX7_door_50 ?_
        refine lv_iload_n hx hb dX7_door_53 rfl (lv_at hl 2 rfl) ?_
        refine va_iald hx hb hK hP 13 1 rfl rfl (vp_in_nI (by omega) (by decide)) dX7_door_54 ?_
        refine lv_ti (y := (fp2 id_2)) (by rw [nI_clamp (by omega)]) ?_
        exact W.iret (v := (fp2 id_2)) hx hb hr (fun t ht hW => ⟨⟨(fp2 id_2), (), rfl, trivial, trivial⟩, hS.F ht⟩) hS.2.2 dX7_door_55
      · refine lv_aload_n hx hb dX7_door_30 rfl (lv_at hl 0 rfl) ?_
        refine va_get (D := D) (ci := 7) (v := .ref (a 3)) (C := RX7) (T := TX7) (N := 12) hx hb hts inX7 hown hK hP 0 rfl rfl 1 (by decide) (hts _ tw_306) (fun _ h9 => h9) rfl dX7_door_31 ?_
        refine lv_iload_n hx hb dX7_door_34 rfl (lv_at hl 1 rfl) ?_
        refine va_aldq hx hb hK hP 1 3 rfl rfl (by unfold vp_in; decide) dX7_door_35 ?_
        refine lv_tr (y := .ref (a 14)) rfl ?_
        refine va_get (D := D) (ci := 5) (v := .ref (a 16)) (C := RX5) (T := TX5) (N := 4) hx hb hts inX5 hown hK hP 10 rfl rfl 1 (by decide) (hts _ tw_151) (fun _ h9 => h9) rfl dX7_door_36 ?_
        refine lv_iload_n hx hb dX7_door_39 rfl (lv_at hl 2 rfl) ?_
        refine va_iald hx hb hK hP 12 1 rfl rfl (vp_in_nI (by omega) (by decide)) dX7_door_40 ?_
        refine lv_ti (y := (ff2 id_2)) (by rw [nI_clamp (by omega)]) ?_
        refine lv_goto (tgt := 55) hx hb dX7_door_41 (by decide) ?_
        exact W.iret (v := (ff2 id_2)) hx hb hr (fun t ht hW => ⟨⟨(ff2 id_2), (), rfl, trivial, trivial⟩, hS.F ht⟩) hS.2.2 dX7_door_55
    · refine lv_if_ne (tgt := 26) hx hb dX7_door_19 (by decide) (fun h => absurd (by decide) h) (fun _ => ?_)
      refine lv_sipush (v := (-1002)) hx hb dX7_door_22 (by decide) ?_
      exact W.iret (v := (-1002)) hx hb hr (fun t ht hW => ⟨⟨(-1002), (), rfl, trivial, trivial⟩, hS.F ht⟩) hS.2.2 dX7_door_25
  · refine lv_if_ne (tgt := 13) hx hb dX7_door_6 (by decide) (fun h => absurd (by decide) h) (fun _ => ?_)
    refine lv_sipush (v := (-1001)) hx hb dX7_door_9 (by decide) ?_
    exact W.iret (v := (-1001)) hx hb hr (fun t ht hW => ⟨⟨(-1001), (), rfl, trivial, trivial⟩, hS.F ht⟩) hS.2.2 dX7_door_12


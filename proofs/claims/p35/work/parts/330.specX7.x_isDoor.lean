theorem dX7_isDoor_0 : decode cX7_isDoor 0 = .ok (.aload_n 0, 1) := by decide +kernel
theorem dX7_isDoor_1 : decode cX7_isDoor 1 = .ok (.iload_n 1, 1) := by decide +kernel
theorem dX7_isDoor_2 : decode cX7_isDoor 2 = .ok (.invokevirtual 108, 3) := by decide +kernel
theorem dX7_isDoor_5 : decode cX7_isDoor 5 = .ok (.ifCond .eq 24, 3) := by decide +kernel
theorem dX7_isDoor_8 : decode cX7_isDoor 8 = .ok (.iload_n 2, 1) := by decide +kernel
theorem dX7_isDoor_9 : decode cX7_isDoor 9 = .ok (.ifCond .lt 20, 3) := by decide +kernel
theorem dX7_isDoor_12 : decode cX7_isDoor 12 = .ok (.iload_n 2, 1) := by decide +kernel
theorem dX7_isDoor_13 : decode cX7_isDoor 13 = .ok (.aload_n 0, 1) := by decide +kernel
theorem dX7_isDoor_14 : decode cX7_isDoor 14 = .ok (.getfield 18, 3) := by decide +kernel
theorem dX7_isDoor_17 : decode cX7_isDoor 17 = .ok (.iload_n 1, 1) := by decide +kernel
theorem dX7_isDoor_18 : decode cX7_isDoor 18 = .ok (.aaload, 1) := by decide +kernel
theorem dX7_isDoor_19 : decode cX7_isDoor 19 = .ok (.invokevirtual 105, 3) := by decide +kernel
theorem dX7_isDoor_22 : decode cX7_isDoor 22 = .ok (.if_icmp .ge 7, 3) := by decide +kernel
theorem dX7_isDoor_25 : decode cX7_isDoor 25 = .ok (.iconst 1, 1) := by decide +kernel
theorem dX7_isDoor_26 : decode cX7_isDoor 26 = .ok (.goto 4, 3) := by decide +kernel
theorem dX7_isDoor_29 : decode cX7_isDoor 29 = .ok (.iconst 0, 1) := by decide +kernel
theorem dX7_isDoor_30 : decode cX7_isDoor 30 = .ok (.ireturn, 1) := by decide +kernel
set_option maxHeartbeats 4000000 in
set_option maxRecDepth 100000 in
theorem x_isDoor (l : Launch) (D : va_G) (k : Nat → ClassId) (st : Nat → Nat) (lo : Nat) (a : Nat → Nat) (rk : Nat) (lfa : Int32) (n0 : Nat) (see0 : Nat) (tm0 : Nat) (g0 : Nat → Int32) (n1 : Nat) (see1 : Nat) (tm1 : Nat) (g1 : Nat → Int32) (n2 : Nat) (see2 : Nat) (tm2 : Nat) (g2 : Nat → Int32) (pz : Int32) (p1 : Int32) (hn0 : n0 ≤ 24) (hn1 : n1 ≤ 24) (hn2 : n2 ≤ 24) : CRi l D k st lo yX7_isDoor cX7_isDoor 3 (some .boolean) ({ frames := 2, cells := 0, slots := 0, locals := 41 }) [.ref (a 0), .int pz, .int p1] [((a 0), .inr (7, [.ref (a 1), .ref (a 3), .ref (a 19), .ref (a 35), .ref (a 40), .int (nI rk), .int lfa, .ref (a 53), .ref (a 56), .ref (a 63), .ref (a 64), .ref (a 68)])), ((a 3), .inl (k 3, 3, .inr (.inr (.inr (.inr (a3 (a 4) (a 9) (a 14))))))), ((a 4), .inr (5, [.ref (a 5), .ref (a 6), .ref (a 7), .ref (a 8)])), ((a 5), .inl (k 1, 10, .inl (vv n0 see0 tm0 g0))), ((a 9), .inr (5, [.ref (a 10), .ref (a 11), .ref (a 12), .ref (a 13)])), ((a 10), .inl (k 1, 10, .inl (vv n1 see1 tm1 g1))), ((a 14), .inr (5, [.ref (a 15), .ref (a 16), .ref (a 17), .ref (a 18)])), ((a 15), .inl (k 1, 10, .inl (vv n2 see2 tm2 g2)))] (fun r => (r = 1 ∧ ((pz = 0 ∧ ∃ i : Nat, i < n0 ∧ p1 = nI i) ∨ (pz = 1 ∧ ∃ i : Nat, i < n1 ∧ p1 = nI i) ∨ (pz = 2 ∧ ∃ i : Nat, i < n2 ∧ p1 = nI i))) ∨ r = 0) := by
  intro sz
  refine Met.ofW (cc := cX7_isDoor) (maxL := 3) (ret := (some .boolean)) (by decide) rfl ?_
  intro p e s m args below meth c s₁ B hml hv
  obtain ⟨rfl, hsz, hlo, hP, hK, hDL, hZ⟩ := hv
  have hx := B.exec
  have hb := B.bytes
  have hr := B.returns
  have hts := WS_ts B.pre
  have hown : s.vm.findClass RX7 = some m.cls := findClass_of_methodNamed B.named
  have hlocks := B.notSynchronized
  subst hsz
  have hA : ∀ q : Nat, s.heap.size ≤ q → (fun q : Nat => s.heap.size ≤ q) q := fun _ h => h
  have hAlo : ∀ q : Nat, (fun q : Nat => s.heap.size ≤ q) q → lo ≤ q := fun q h => Nat.le_trans hlo h
  have hS : va_S (fun q : Nat => s.heap.size ≤ q) s.heap s.heap [] := va_S.rf
  have hl := lv_entry ([.ref (a 0), .int pz, .int p1]) (n := 3) (Nat.le_of_ble_eq_true rfl)
  rw [lg_entry_eq]
  generalize (lg_sl ([.ref (a 0), .int pz, .int p1]) ++ List.replicate (3 - (lg_sl ([.ref (a 0), .int pz, .int p1])).length) Slot.unset).toArray = ls at hl ⊢
  have hl : lv_has ls 3 [(0, .ref (a 0)), (1, .int pz), (2, .int p1)] := hl
  refine lv_aload_n hx hb dX7_isDoor_0 rfl (lv_at hl 0 rfl) ?_
  refine lv_iload_n hx hb dX7_isDoor_1 rfl (lv_at hl 1 rfl) ?_
  refine ro_i (D := D) (va_runV (As := [.int pz]) (rest := []) ⟨hx, hb, hml, hown, hts⟩ ((x_isStreet l D k st lo a rk lfa n0 see0 tm0 g0 n1 see1 tm1 g1 n2 see2 tm2 g2 pz (by omega) (by omega) (by omega)) s.heap.size) (cwV 1 hts (gV tw_589 tw_591 tw_8 tw_79 tw_592) rfl rfl rfl (by decide +kernel) ⟨Nat.le_of_ble_eq_true rfl, Nat.le_of_ble_eq_true rfl⟩) (pV hS hAlo hlo hP hK hDL hZ [0, 1, 2, 3, 4, 5, 6, 7] (by decide) rfl (ci := 7) (q0 := 0) rfl rfl) rfl rfl hl.1 rfl (lv_room (Nat.le_of_ble_eq_true rfl)) dX7_isDoor_2 ⟨Nat.le_of_ble_eq_true rfl, Nat.le_of_ble_eq_true rfl⟩) hS hA hP (fun r_1 H locs hw_1 hP hS => ?_)
  try dsimp only at hw_1
  rcases hw_1 with ⟨rfl, ⟨rfl, hw_1⟩ | ⟨rfl, hw_1⟩ | ⟨rfl, hw_1⟩⟩ | rfl
  · refine lv_if_eq (tgt := 29) hx hb dX7_isDoor_5 (by decide) (fun h => absurd h (by decide)) (fun _ => ?_)
    refine lv_iload_n hx hb dX7_isDoor_8 rfl (lv_at hl 2 rfl) ?_
    refine lv_if_lt (tgt := 29) hx hb dX7_isDoor_9 (by decide) (fun c_2 => ?_) (fun c_2 => ?_)
    · refine lv_iconst (v := 0) hx hb dX7_isDoor_29 (by decide) ?_
      exact W.zret (v := 0) (ty := .boolean) hx hb hr rfl (fun t ht hW => ⟨⟨0, (), rfl, .inr rfl, trivial⟩, hS.F ht⟩) hS.2.2 dX7_isDoor_30
    · obtain ⟨i_9, hi_9, rfl⟩ := nI_of c_2
      refine lv_iload_n hx hb dX7_isDoor_12 rfl (lv_at hl 2 rfl) ?_
      refine lv_aload_n hx hb dX7_isDoor_13 rfl (lv_at hl 0 rfl) ?_
      refine va_get (D := D) (ci := 7) (v := .ref (a 3)) (C := RX7) (T := TX7) (N := 12) hx hb hts inX7 hown hK hP 0 rfl rfl 1 (by decide) (hts _ tw_306) (fun _ h9 => h9) rfl dX7_isDoor_14 ?_
      refine lv_iload_n hx hb dX7_isDoor_17 rfl (lv_at hl 1 rfl) ?_
      refine va_aldq hx hb hK hP 1 3 rfl rfl (by unfold vp_in; decide) dX7_isDoor_18 ?_
      refine lv_tr (y := .ref (a 4)) rfl ?_
      refine ro_i (D := D) (va_runV (As := []) (rest := [.int (nI i_9)]) ⟨hx, hb, hml, hown, hts⟩ ((x_doors l D k st lo (a 4) (a 5) (a 6) (a 7) (a 8) n0 see0 tm0 g0) H.size) (cwV 0 hts (gV tw_580 tw_478 tw_479 tw_81 tw_480) rfl rfl rfl (by decide +kernel) ⟨Nat.le_of_ble_eq_true rfl, Nat.le_of_ble_eq_true rfl⟩) (pV hS hAlo hlo hP hK hDL hZ [2, 3] (by decide) rfl (ci := 5) (q0 := 0) rfl rfl) rfl rfl hl.1 rfl (lv_room (Nat.le_of_ble_eq_true rfl)) dX7_isDoor_19 ⟨Nat.le_of_ble_eq_true rfl, Nat.le_of_ble_eq_true rfl⟩) hS hA hP (fun r_3 H locs hw_3 hP hS => ?_)
      try dsimp only at hw_3
      subst hw_3
      refine lv_icmp_ge (tgt := 29) hx hb dX7_isDoor_22 (by decide) (fun c_4 => ?_) (fun c_4 => ?_)
      · have c_4 := (nI_leI (a := n0) (b := i_9) (by omega) (by omega)).mp c_4
        refine lv_iconst (v := 0) hx hb dX7_isDoor_29 (by decide) ?_
        exact W.zret (v := 0) (ty := .boolean) hx hb hr rfl (fun t ht hW => ⟨⟨0, (), rfl, .inr rfl, trivial⟩, hS.F ht⟩) hS.2.2 dX7_isDoor_30
      · have c_4 : ¬ (n0 ≤ i_9) := fun h => c_4 ((nI_leI (a := n0) (b := i_9) (by omega) (by omega)).mpr h)
        refine lv_iconst (v := 1) hx hb dX7_isDoor_25 (by decide) ?_
        refine lv_goto (tgt := 30) hx hb dX7_isDoor_26 (by decide) ?_
        exact W.zret (v := 1) (ty := .boolean) hx hb hr rfl (fun t ht hW => ⟨⟨1, (), rfl, .inl ⟨rfl, .inl ⟨rfl, i_9, by omega, rfl⟩⟩, trivial⟩, hS.F ht⟩) hS.2.2 dX7_isDoor_30
  · refine lv_if_eq (tgt := 29) hx hb dX7_isDoor_5 (by decide) (fun h => absurd h (by decide)) (fun _ => ?_)
    refine lv_iload_n hx hb dX7_isDoor_8 rfl (lv_at hl 2 rfl) ?_
    refine lv_if_lt (tgt := 29) hx hb dX7_isDoor_9 (by decide) (fun c_5 => ?_) (fun c_5 => ?_)
    · refine lv_iconst (v := 0) hx hb dX7_isDoor_29 (by decide) ?_
      exact W.zret (v := 0) (ty := .boolean) hx hb hr rfl (fun t ht hW => ⟨⟨0, (), rfl, .inr rfl, trivial⟩, hS.F ht⟩) hS.2.2 dX7_isDoor_30
    · obtain ⟨i_9, hi_9, rfl⟩ := nI_of c_5
      refine lv_iload_n hx hb dX7_isDoor_12 rfl (lv_at hl 2 rfl) ?_
      refine lv_aload_n hx hb dX7_isDoor_13 rfl (lv_at hl 0 rfl) ?_
      refine va_get (D := D) (ci := 7) (v := .ref (a 3)) (C := RX7) (T := TX7) (N := 12) hx hb hts inX7 hown hK hP 0 rfl rfl 1 (by decide) (hts _ tw_306) (fun _ h9 => h9) rfl dX7_isDoor_14 ?_
      refine lv_iload_n hx hb dX7_isDoor_17 rfl (lv_at hl 1 rfl) ?_
      refine va_aldq hx hb hK hP 1 3 rfl rfl (by unfold vp_in; decide) dX7_isDoor_18 ?_
      refine lv_tr (y := .ref (a 9)) rfl ?_
      refine ro_i (D := D) (va_runV (As := []) (rest := [.int (nI i_9)]) ⟨hx, hb, hml, hown, hts⟩ ((x_doors l D k st lo (a 9) (a 10) (a 11) (a 12) (a 13) n1 see1 tm1 g1) H.size) (cwV 0 hts (gV tw_580 tw_478 tw_479 tw_81 tw_480) rfl rfl rfl (by decide +kernel) ⟨Nat.le_of_ble_eq_true rfl, Nat.le_of_ble_eq_true rfl⟩) (pV hS hAlo hlo hP hK hDL hZ [4, 5] (by decide) rfl (ci := 5) (q0 := 0) rfl rfl) rfl rfl hl.1 rfl (lv_room (Nat.le_of_ble_eq_true rfl)) dX7_isDoor_19 ⟨Nat.le_of_ble_eq_true rfl, Nat.le_of_ble_eq_true rfl⟩) hS hA hP (fun r_6 H locs hw_6 hP hS => ?_)
      try dsimp only at hw_6
      subst hw_6
      refine lv_icmp_ge (tgt := 29) hx hb dX7_isDoor_22 (by decide) (fun c_7 => ?_) (fun c_7 => ?_)
      · have c_7 := (nI_leI (a := n1) (b := i_9) (by omega) (by omega)).mp c_7
        refine lv_iconst (v := 0) hx hb dX7_isDoor_29 (by decide) ?_
        exact W.zret (v := 0) (ty := .boolean) hx hb hr rfl (fun t ht hW => ⟨⟨0, (), rfl, .inr rfl, trivial⟩, hS.F ht⟩) hS.2.2 dX7_isDoor_30
      · have c_7 : ¬ (n1 ≤ i_9) := fun h => c_7 ((nI_leI (a := n1) (b := i_9) (by omega) (by omega)).mpr h)
        refine lv_iconst (v := 1) hx hb dX7_isDoor_25 (by decide) ?_
        refine lv_goto (tgt := 30) hx hb dX7_isDoor_26 (by decide) ?_
        exact W.zret (v := 1) (ty := .boolean) hx hb hr rfl (fun t ht hW => ⟨⟨1, (), rfl, .inl ⟨rfl, .inr (.inl ⟨rfl, i_9, by omega, rfl⟩)⟩, trivial⟩, hS.F ht⟩) hS.2.2 dX7_isDoor_30
  · refine lv_if_eq (tgt := 29) hx hb dX7_isDoor_5 (by decide) (fun h => absurd h (by decide)) (fun _ => ?_)
    refine lv_iload_n hx hb dX7_isDoor_8 rfl (lv_at hl 2 rfl) ?_
    refine lv_if_lt (tgt := 29) hx hb dX7_isDoor_9 (by decide) (fun c_8 => ?_) (fun c_8 => ?_)
    · refine lv_iconst (v := 0) hx hb dX7_isDoor_29 (by decide) ?_
      exact W.zret (v := 0) (ty := .boolean) hx hb hr rfl (fun t ht hW => ⟨⟨0, (), rfl, .inr rfl, trivial⟩, hS.F ht⟩) hS.2.2 dX7_isDoor_30
    · obtain ⟨i_9, hi_9, rfl⟩ := nI_of c_8
      refine lv_iload_n hx hb dX7_isDoor_12 rfl (lv_at hl 2 rfl) ?_
      refine lv_aload_n hx hb dX7_isDoor_13 rfl (lv_at hl 0 rfl) ?_
      refine va_get (D := D) (ci := 7) (v := .ref (a 3)) (C := RX7) (T := TX7) (N := 12) hx hb hts inX7 hown hK hP 0 rfl rfl 1 (by decide) (hts _ tw_306) (fun _ h9 => h9) rfl dX7_isDoor_14 ?_
      refine lv_iload_n hx hb dX7_isDoor_17 rfl (lv_at hl 1 rfl) ?_
      refine va_aldq hx hb hK hP 1 3 rfl rfl (by unfold vp_in; decide) dX7_isDoor_18 ?_
      refine lv_tr (y := .ref (a 14)) rfl ?_
      refine ro_i (D := D) (va_runV (As := []) (rest := [.int (nI i_9)]) ⟨hx, hb, hml, hown, hts⟩ ((x_doors l D k st lo (a 14) (a 15) (a 16) (a 17) (a 18) n2 see2 tm2 g2) H.size) (cwV 0 hts (gV tw_580 tw_478 tw_479 tw_81 tw_480) rfl rfl rfl (by decide +kernel) ⟨Nat.le_of_ble_eq_true rfl, Nat.le_of_ble_eq_true rfl⟩) (pV hS hAlo hlo hP hK hDL hZ [6, 7] (by decide) rfl (ci := 5) (q0 := 0) rfl rfl) rfl rfl hl.1 rfl (lv_room (Nat.le_of_ble_eq_true rfl)) dX7_isDoor_19 ⟨Nat.le_of_ble_eq_true rfl, Nat.le_of_ble_eq_true rfl⟩) hS hA hP (fun r_9 H locs hw_9 hP hS => ?_)
      try dsimp only at hw_9
      subst hw_9
      refine lv_icmp_ge (tgt := 29) hx hb dX7_isDoor_22 (by decide) (fun c_10 => ?_) (fun c_10 => ?_)
      · have c_10 := (nI_leI (a := n2) (b := i_9) (by omega) (by omega)).mp c_10
        refine lv_iconst (v := 0) hx hb dX7_isDoor_29 (by decide) ?_
        exact W.zret (v := 0) (ty := .boolean) hx hb hr rfl (fun t ht hW => ⟨⟨0, (), rfl, .inr rfl, trivial⟩, hS.F ht⟩) hS.2.2 dX7_isDoor_30
      · have c_10 : ¬ (n2 ≤ i_9) := fun h => c_10 ((nI_leI (a := n2) (b := i_9) (by omega) (by omega)).mpr h)
        refine lv_iconst (v := 1) hx hb dX7_isDoor_25 (by decide) ?_
        refine lv_goto (tgt := 30) hx hb dX7_isDoor_26 (by decide) ?_
        exact W.zret (v := 1) (ty := .boolean) hx hb hr rfl (fun t ht hW => ⟨⟨1, (), rfl, .inl ⟨rfl, .inr (.inr ⟨rfl, i_9, by omega, rfl⟩)⟩, trivial⟩, hS.F ht⟩) hS.2.2 dX7_isDoor_30
  · refine lv_if_eq (tgt := 29) hx hb dX7_isDoor_5 (by decide) (fun _ => ?_) (fun h => absurd (by decide) h)
    refine lv_iconst (v := 0) hx hb dX7_isDoor_29 (by decide) ?_
    exact W.zret (v := 0) (ty := .boolean) hx hb hr rfl (fun t ht hW => ⟨⟨0, (), rfl, .inr rfl, trivial⟩, hS.F ht⟩) hS.2.2 dX7_isDoor_30


set_option maxHeartbeats 4000000 in
set_option maxRecDepth 100000 in
theorem y_isDoor (l : Launch) (D : va_G) (k : Nat → ClassId) (st : Nat → Nat) (lo : Nat) (a : Nat → Nat) (rk : Nat) (lfa : Int32) (n0 : Nat) (see0 : Nat) (tm0 : Nat) (g0 : Nat → Int32) (n1 : Nat) (see1 : Nat) (tm1 : Nat) (g1 : Nat → Int32) (n2 : Nat) (see2 : Nat) (tm2 : Nat) (g2 : Nat → Int32) (pz : Int32) (p1 : Int32) (hn0 : n0 ≤ 24) (hn1 : n1 ≤ 24) (hn2 : n2 ≤ 24) : CRi l D k st lo yX7_isDoor cX7_isDoor 3 (some .boolean) ({ frames := 2, cells := 0, slots := 0, locals := 41 }) [.ref (a 0), .int pz, .int p1] [((a 0), .inr (7, (fX7 (a 1) (a 3) (a 19) (a 35) (a 40) (nI rk) lfa (a 53) (a 56) (a 63) (a 64) (a 68)))), ((a 3), .inl (k 3, 3, .inr (.inr (.inr (.inr (a3 (a 4) (a 9) (a 14))))))), ((a 4), .inr (5, (fX5 (a 5) (a 6) (a 7) (a 8)))), (aI k (a 5) 10 (vv n0 see0 tm0 g0)), ((a 9), .inr (5, (fX5 (a 10) (a 11) (a 12) (a 13)))), (aI k (a 10) 10 (vv n1 see1 tm1 g1)), ((a 14), .inr (5, (fX5 (a 15) (a 16) (a 17) (a 18)))), (aI k (a 15) 10 (vv n2 see2 tm2 g2))] (fun r => (r = 1 ∧ ((pz = 0 ∧ ∃ i : Nat, i < n0 ∧ p1 = nI i) ∨ (pz = 1 ∧ ∃ i : Nat, i < n1 ∧ p1 = nI i) ∨ (pz = 2 ∧ ∃ i : Nat, i < n2 ∧ p1 = nI i))) ∨ (r = 0 ∧ ∀ s, s < 3 → pz = nI s → ∀ i, p1 = nI i → ¬ i < d3 n0 n1 n2 s)) := by
  intro sz
  refine Met.ofW (cc := cX7_isDoor) (maxL := 3) (ret := (some .boolean)) (by decide) rfl ?_
  intro p e s m args below meth c s₁ B hml hv
  obtain ⟨rfl, hsz, hlo, hP, hK, hDL, hZ⟩ := hv
  have hx := B.exec
  have hb := B.bytes
  have hr := B.returns
  have hts := WS_ts B.pre
  have hown : s.vm.findClass RX7 = some m.cls := findClass_of_methodNamed B.named
  have hlocks := B.notSynchronized
  subst hsz
  have hA : ∀ q : Nat, s.heap.size ≤ q → (fun q : Nat => s.heap.size ≤ q) q := fun _ h => h
  have hAlo : ∀ q : Nat, (fun q : Nat => s.heap.size ≤ q) q → lo ≤ q := fun q h => Nat.le_trans hlo h
  have hS : va_S (fun q : Nat => s.heap.size ≤ q) s.heap s.heap [] := va_S.rf
  have hl := lv_entry ([.ref (a 0), .int pz, .int p1]) (n := 3) (Nat.le_of_ble_eq_true rfl)
  rw [lg_entry_eq]
  generalize (lg_sl ([.ref (a 0), .int pz, .int p1]) ++ List.replicate (3 - (lg_sl ([.ref (a 0), .int pz, .int p1])).length) Slot.unset).toArray = ls at hl ⊢
  have hl : lv_has ls 3 [(0, .ref (a 0)), (1, .int pz), (2, .int p1)] := hl
  refine lv_aload_n hx hb dX7_isDoor_0 rfl (lv_at hl 0 rfl) ?_
  refine lv_iload_n hx hb dX7_isDoor_1 rfl (lv_at hl 1 rfl) ?_
  refine ro_i (D := D) (va_runV (As := [.int pz]) (rest := []) ⟨hx, hb, hml, hown, hts⟩ ((y_isStreet l D k st lo a rk lfa n0 see0 tm0 g0 n1 see1 tm1 g1 n2 see2 tm2 g2 pz (by omega) (by omega) (by omega)) s.heap.size) (cwV 1 hts (gV tw_589 tw_591 tw_8 tw_79 tw_592) rfl rfl rfl (by decide +kernel) ⟨Nat.le_of_ble_eq_true rfl, Nat.le_of_ble_eq_true rfl⟩) (pV hS hAlo hlo hP hK hDL hZ [0, 1, 2, 3, 4, 5, 6, 7] (by decide) rfl (ci := 7) (q := (RX7, TX7, 12)) (q0 := 0) rfl rfl) rfl rfl hl.1 rfl (lv_room (Nat.le_of_ble_eq_true rfl)) dX7_isDoor_2 ⟨Nat.le_of_ble_eq_true rfl, Nat.le_of_ble_eq_true rfl⟩) hS hA hP (fun r_1 H locs hw_1 hP hS => ?_)
  try dsimp only at hw_1
  rcases hw_1 with ⟨rfl, ⟨rfl, hw_1⟩ | ⟨rfl, hw_1⟩ | ⟨rfl, hw_1⟩⟩ | ⟨rfl, hw_1⟩
  · refine lv_if_eq (tgt := 29) hx hb dX7_isDoor_5 (by decide) (fun h => absurd h (by decide)) (fun _ => ?_)
    refine lv_iload_n hx hb dX7_isDoor_8 rfl (lv_at hl 2 rfl) ?_
    refine lv_if_lt (tgt := 29) hx hb dX7_isDoor_9 (by decide) (fun c_2 => ?_) (fun c_2 => ?_)
    · refine lv_iconst (v := 0) hx hb dX7_isDoor_29 (by decide) ?_
      exact W.zret (v := 0) (ty := .boolean) hx hb hr rfl (fun t ht hW => ⟨⟨0, (), rfl, .inr ⟨rfl, fun s h1 h2 i h3 h4 => by have h9 : 0 = s := nI_inj (by omega) (by omega) (show nI 0 = nI s from h2); subst h9; replace h4 : i < n0 := h4; exact absurd c_2 (by rw [h3]; exact Int32.not_lt.mpr (nI_ge0 (by omega)))⟩, trivial⟩, hS.F ht⟩) hS.2.2 dX7_isDoor_30
    · obtain ⟨i_9, hi_9, rfl⟩ := nI_of c_2
      refine lv_iload_n hx hb dX7_isDoor_12 rfl (lv_at hl 2 rfl) ?_
      refine lv_aload_n hx hb dX7_isDoor_13 rfl (lv_at hl 0 rfl) ?_
      refine va_get (D := D) (ci := 7) (v := .ref (a 3)) (C := RX7) (T := TX7) (N := 12) hx hb hts inX7 hown hK hP 0 rfl rfl 1 (by decide) (hts _ tw_306) (fun _ h9 => h9) rfl dX7_isDoor_14 ?_
      refine lv_iload_n hx hb dX7_isDoor_17 rfl (lv_at hl 1 rfl) ?_
      refine va_aldq hx hb hK hP 1 3 rfl rfl (by unfold vp_in; decide) dX7_isDoor_18 ?_
      refine lv_tr (y := .ref (a 4)) rfl ?_
      refine ro_i (D := D) (va_runV (As := []) (rest := [.int (nI i_9)]) ⟨hx, hb, hml, hown, hts⟩ ((x_doors l D k st lo (a 4) (a 5) (a 6) (a 7) (a 8) n0 see0 tm0 g0) H.size) (cwV 0 hts (gV tw_580 tw_478 tw_479 tw_81 tw_480) rfl rfl rfl (by decide +kernel) ⟨Nat.le_of_ble_eq_true rfl, Nat.le_of_ble_eq_true rfl⟩) (pV hS hAlo hlo hP hK hDL hZ [2, 3] (by decide) rfl (ci := 5) (q := (RX5, TX5, 4)) (q0 := 0) rfl rfl) rfl rfl hl.1 rfl (lv_room (Nat.le_of_ble_eq_true rfl)) dX7_isDoor_19 ⟨Nat.le_of_ble_eq_true rfl, Nat.le_of_ble_eq_true rfl⟩) hS hA hP (fun r_3 H locs hw_3 hP hS => ?_)
      try dsimp only at hw_3
      subst hw_3
      refine lv_icmp_ge (tgt := 29) hx hb dX7_isDoor_22 (by decide) (fun c_4 => ?_) (fun c_4 => ?_)
      · have c_4 := (nI_leI (a := n0) (b := i_9) (by omega) (by omega)).mp c_4
        refine lv_iconst (v := 0) hx hb dX7_isDoor_29 (by decide) ?_
        exact W.zret (v := 0) (ty := .boolean) hx hb hr rfl (fun t ht hW => ⟨⟨0, (), rfl, .inr ⟨rfl, fun s h1 h2 i h3 h4 => by have h9 : 0 = s := nI_inj (by omega) (by omega) (show nI 0 = nI s from h2); subst h9; replace h4 : i < n0 := h4; have h8 := nI_inj (by omega) (by omega) h3; omega⟩, trivial⟩, hS.F ht⟩) hS.2.2 dX7_isDoor_30
      · have c_4 : ¬ (n0 ≤ i_9) := fun h => c_4 ((nI_leI (a := n0) (b := i_9) (by omega) (by omega)).mpr h)
        refine lv_iconst (v := 1) hx hb dX7_isDoor_25 (by decide) ?_
        refine lv_goto (tgt := 30) hx hb dX7_isDoor_26 (by decide) ?_
        exact W.zret (v := 1) (ty := .boolean) hx hb hr rfl (fun t ht hW => ⟨⟨1, (), rfl, .inl ⟨rfl, .inl ⟨rfl, i_9, by omega, rfl⟩⟩, trivial⟩, hS.F ht⟩) hS.2.2 dX7_isDoor_30
  · refine lv_if_eq (tgt := 29) hx hb dX7_isDoor_5 (by decide) (fun h => absurd h (by decide)) (fun _ => ?_)
    refine lv_iload_n hx hb dX7_isDoor_8 rfl (lv_at hl 2 rfl) ?_
    refine lv_if_lt (tgt := 29) hx hb dX7_isDoor_9 (by decide) (fun c_5 => ?_) (fun c_5 => ?_)
    · refine lv_iconst (v := 0) hx hb dX7_isDoor_29 (by decide) ?_
      exact W.zret (v := 0) (ty := .boolean) hx hb hr rfl (fun t ht hW => ⟨⟨0, (), rfl, .inr ⟨rfl, fun s h1 h2 i h3 h4 => by have h9 : 1 = s := nI_inj (by omega) (by omega) (show nI 1 = nI s from h2); subst h9; replace h4 : i < n1 := h4; exact absurd c_5 (by rw [h3]; exact Int32.not_lt.mpr (nI_ge0 (by omega)))⟩, trivial⟩, hS.F ht⟩) hS.2.2 dX7_isDoor_30
    · obtain ⟨i_9, hi_9, rfl⟩ := nI_of c_5
      refine lv_iload_n hx hb dX7_isDoor_12 rfl (lv_at hl 2 rfl) ?_
      refine lv_aload_n hx hb dX7_isDoor_13 rfl (lv_at hl 0 rfl) ?_
      refine va_get (D := D) (ci := 7) (v := .ref (a 3)) (C := RX7) (T := TX7) (N := 12) hx hb hts inX7 hown hK hP 0 rfl rfl 1 (by decide) (hts _ tw_306) (fun _ h9 => h9) rfl dX7_isDoor_14 ?_
      refine lv_iload_n hx hb dX7_isDoor_17 rfl (lv_at hl 1 rfl) ?_
      refine va_aldq hx hb hK hP 1 3 rfl rfl (by unfold vp_in; decide) dX7_isDoor_18 ?_
      refine lv_tr (y := .ref (a 9)) rfl ?_
      refine ro_i (D := D) (va_runV (As := []) (rest := [.int (nI i_9)]) ⟨hx, hb, hml, hown, hts⟩ ((x_doors l D k st lo (a 9) (a 10) (a 11) (a 12) (a 13) n1 see1 tm1 g1) H.size) (cwV 0 hts (gV tw_580 tw_478 tw_479 tw_81 tw_480) rfl rfl rfl (by decide +kernel) ⟨Nat.le_of_ble_eq_true rfl, Nat.le_of_ble_eq_true rfl⟩) (pV hS hAlo hlo hP hK hDL hZ [4, 5] (by decide) rfl (ci := 5) (q := (RX5, TX5, 4)) (q0 := 0) rfl rfl) rfl rfl hl.1 rfl (lv_room (Nat.le_of_ble_eq_true rfl)) dX7_isDoor_19 ⟨Nat.le_of_ble_eq_true rfl, Nat.le_of_ble_eq_true rfl⟩) hS hA hP (fun r_6 H locs hw_6 hP hS => ?_)
      try dsimp only at hw_6
      subst hw_6
      refine lv_icmp_ge (tgt := 29) hx hb dX7_isDoor_22 (by decide) (fun c_7 => ?_) (fun c_7 => ?_)
      · have c_7 := (nI_leI (a := n1) (b := i_9) (by omega) (by omega)).mp c_7
        refine lv_iconst (v := 0) hx hb dX7_isDoor_29 (by decide) ?_
        exact W.zret (v := 0) (ty := .boolean) hx hb hr rfl (fun t ht hW => ⟨⟨0, (), rfl, .inr ⟨rfl, fun s h1 h2 i h3 h4 => by have h9 : 1 = s := nI_inj (by omega) (by omega) (show nI 1 = nI s from h2); subst h9; replace h4 : i < n1 := h4; have h8 := nI_inj (by omega) (by omega) h3; omega⟩, trivial⟩, hS.F ht⟩) hS.2.2 dX7_isDoor_30
      · have c_7 : ¬ (n1 ≤ i_9) := fun h => c_7 ((nI_leI (a := n1) (b := i_9) (by omega) (by omega)).mpr h)
        refine lv_iconst (v := 1) hx hb dX7_isDoor_25 (by decide) ?_
        refine lv_goto (tgt := 30) hx hb dX7_isDoor_26 (by decide) ?_
        exact W.zret (v := 1) (ty := .boolean) hx hb hr rfl (fun t ht hW => ⟨⟨1, (), rfl, .inl ⟨rfl, .inr (.inl ⟨rfl, i_9, by omega, rfl⟩)⟩, trivial⟩, hS.F ht⟩) hS.2.2 dX7_isDoor_30
  · refine lv_if_eq (tgt := 29) hx hb dX7_isDoor_5 (by decide) (fun h => absurd h (by decide)) (fun _ => ?_)
    refine lv_iload_n hx hb dX7_isDoor_8 rfl (lv_at hl 2 rfl) ?_
    refine lv_if_lt (tgt := 29) hx hb dX7_isDoor_9 (by decide) (fun c_8 => ?_) (fun c_8 => ?_)
    · refine lv_iconst (v := 0) hx hb dX7_isDoor_29 (by decide) ?_
      exact W.zret (v := 0) (ty := .boolean) hx hb hr rfl (fun t ht hW => ⟨⟨0, (), rfl, .inr ⟨rfl, fun s h1 h2 i h3 h4 => by have h9 : 2 = s := nI_inj (by omega) (by omega) (show nI 2 = nI s from h2); subst h9; replace h4 : i < n2 := h4; exact absurd c_8 (by rw [h3]; exact Int32.not_lt.mpr (nI_ge0 (by omega)))⟩, trivial⟩, hS.F ht⟩) hS.2.2 dX7_isDoor_30
    · obtain ⟨i_9, hi_9, rfl⟩ := nI_of c_8
      refine lv_iload_n hx hb dX7_isDoor_12 rfl (lv_at hl 2 rfl) ?_
      refine lv_aload_n hx hb dX7_isDoor_13 rfl (lv_at hl 0 rfl) ?_
      refine va_get (D := D) (ci := 7) (v := .ref (a 3)) (C := RX7) (T := TX7) (N := 12) hx hb hts inX7 hown hK hP 0 rfl rfl 1 (by decide) (hts _ tw_306) (fun _ h9 => h9) rfl dX7_isDoor_14 ?_
      refine lv_iload_n hx hb dX7_isDoor_17 rfl (lv_at hl 1 rfl) ?_
      refine va_aldq hx hb hK hP 1 3 rfl rfl (by unfold vp_in; decide) dX7_isDoor_18 ?_
      refine lv_tr (y := .ref (a 14)) rfl ?_
      refine ro_i (D := D) (va_runV (As := []) (rest := [.int (nI i_9)]) ⟨hx, hb, hml, hown, hts⟩ ((x_doors l D k st lo (a 14) (a 15) (a 16) (a 17) (a 18) n2 see2 tm2 g2) H.size) (cwV 0 hts (gV tw_580 tw_478 tw_479 tw_81 tw_480) rfl rfl rfl (by decide +kernel) ⟨Nat.le_of_ble_eq_true rfl, Nat.le_of_ble_eq_true rfl⟩) (pV hS hAlo hlo hP hK hDL hZ [6, 7] (by decide) rfl (ci := 5) (q := (RX5, TX5, 4)) (q0 := 0) rfl rfl) rfl rfl hl.1 rfl (lv_room (Nat.le_of_ble_eq_true rfl)) dX7_isDoor_19 ⟨Nat.le_of_ble_eq_true rfl, Nat.le_of_ble_eq_true rfl⟩) hS hA hP (fun r_9 H locs hw_9 hP hS => ?_)
      try dsimp only at hw_9
      subst hw_9
      refine lv_icmp_ge (tgt := 29) hx hb dX7_isDoor_22 (by decide) (fun c_10 => ?_) (fun c_10 => ?_)
      · have c_10 := (nI_leI (a := n2) (b := i_9) (by omega) (by omega)).mp c_10
        refine lv_iconst (v := 0) hx hb dX7_isDoor_29 (by decide) ?_
        exact W.zret (v := 0) (ty := .boolean) hx hb hr rfl (fun t ht hW => ⟨⟨0, (), rfl, .inr ⟨rfl, fun s h1 h2 i h3 h4 => by have h9 : 2 = s := nI_inj (by omega) (by omega) (show nI 2 = nI s from h2); subst h9; replace h4 : i < n2 := h4; have h8 := nI_inj (by omega) (by omega) h3; omega⟩, trivial⟩, hS.F ht⟩) hS.2.2 dX7_isDoor_30
      · have c_10 : ¬ (n2 ≤ i_9) := fun h => c_10 ((nI_leI (a := n2) (b := i_9) (by omega) (by omega)).mpr h)
        refine lv_iconst (v := 1) hx hb dX7_isDoor_25 (by decide) ?_
        refine lv_goto (tgt := 30) hx hb dX7_isDoor_26 (by decide) ?_
        exact W.zret (v := 1) (ty := .boolean) hx hb hr rfl (fun t ht hW => ⟨⟨1, (), rfl, .inl ⟨rfl, .inr (.inr ⟨rfl, i_9, by omega, rfl⟩)⟩, trivial⟩, hS.F ht⟩) hS.2.2 dX7_isDoor_30
  · refine lv_if_eq (tgt := 29) hx hb dX7_isDoor_5 (by decide) (fun _ => ?_) (fun h => absurd (by decide) h)
    refine lv_iconst (v := 0) hx hb dX7_isDoor_29 (by decide) ?_
    exact W.zret (v := 0) (ty := .boolean) hx hb hr rfl (fun t ht hW => ⟨⟨0, (), rfl, .inr ⟨rfl, fun s h1 h2 i _ h4 => hw_1 s h1 h2 (by omega)⟩, trivial⟩, hS.F ht⟩) hS.2.2 dX7_isDoor_30


set_option maxHeartbeats 4000000 in
set_option maxRecDepth 100000 in
theorem y_isStreet (l : Launch) (D : va_G) (k : Nat → ClassId) (st : Nat → Nat) (lo : Nat) (a : Nat → Nat) (rk : Nat) (lfa : Int32) (n0 : Nat) (see0 : Nat) (tm0 : Nat) (g0 : Nat → Int32) (n1 : Nat) (see1 : Nat) (tm1 : Nat) (g1 : Nat → Int32) (n2 : Nat) (see2 : Nat) (tm2 : Nat) (g2 : Nat → Int32) (pz : Int32) (hn0 : n0 ≤ 24) (hn1 : n1 ≤ 24) (hn2 : n2 ≤ 24) : CRi l D k st lo yX7_isStreet cX7_isStreet 2 (some .boolean) ({ frames := 1, cells := 0, slots := 0, locals := 20 }) [.ref (a 0), .int pz] [((a 0), .inr (7, (fX7 (a 1) (a 3) (a 19) (a 35) (a 40) (nI rk) lfa (a 53) (a 56) (a 63) (a 64) (a 68)))), ((a 3), .inl (k 3, 3, .inr (.inr (.inr (.inr (a3 (a 4) (a 9) (a 14))))))), ((a 4), .inr (5, (fX5 (a 5) (a 6) (a 7) (a 8)))), (aI k (a 5) 10 (vv n0 see0 tm0 g0)), ((a 9), .inr (5, (fX5 (a 10) (a 11) (a 12) (a 13)))), (aI k (a 10) 10 (vv n1 see1 tm1 g1)), ((a 14), .inr (5, (fX5 (a 15) (a 16) (a 17) (a 18)))), (aI k (a 15) 10 (vv n2 see2 tm2 g2))] (fun r => (r = 1 ∧ ((pz = 0 ∧ 0 < n0) ∨ (pz = 1 ∧ 0 < n1) ∨ (pz = 2 ∧ 0 < n2))) ∨ (r = 0 ∧ ∀ s, s < 3 → pz = nI s → ¬ 0 < d3 n0 n1 n2 s)) := by
  intro sz
  refine Met.ofW (cc := cX7_isStreet) (maxL := 2) (ret := (some .boolean)) (by decide) rfl ?_
  intro p e s m args below meth c s₁ B hml hv
  obtain ⟨rfl, hsz, hlo, hP, hK, hDL, hZ⟩ := hv
  have hx := B.exec
  have hb := B.bytes
  have hr := B.returns
  have hts := WS_ts B.pre
  have hown : s.vm.findClass RX7 = some m.cls := findClass_of_methodNamed B.named
  have hlocks := B.notSynchronized
  subst hsz
  have hA : ∀ q : Nat, s.heap.size ≤ q → (fun q : Nat => s.heap.size ≤ q) q := fun _ h => h
  have hAlo : ∀ q : Nat, (fun q : Nat => s.heap.size ≤ q) q → lo ≤ q := fun q h => Nat.le_trans hlo h
  have hS : va_S (fun q : Nat => s.heap.size ≤ q) s.heap s.heap [] := va_S.rf
  have hl := lv_entry ([.ref (a 0), .int pz]) (n := 2) (Nat.le_of_ble_eq_true rfl)
  rw [lg_entry_eq]
  generalize (lg_sl ([.ref (a 0), .int pz]) ++ List.replicate (2 - (lg_sl ([.ref (a 0), .int pz])).length) Slot.unset).toArray = ls at hl ⊢
  have hl : lv_has ls 2 [(0, .ref (a 0)), (1, .int pz)] := hl
  refine lv_iload_n hx hb dX7_isStreet_0 rfl (lv_at hl 1 rfl) ?_
  refine lv_if_lt (tgt := 25) hx hb dX7_isStreet_1 (by decide) (fun c_1 => ?_) (fun c_1 => ?_)
  · refine lv_iconst (v := 0) hx hb dX7_isStreet_25 (by decide) ?_
    exact W.zret (v := 0) (ty := .boolean) hx hb hr rfl (fun t ht hW => ⟨⟨0, (), rfl, .inr ⟨rfl, fun s h1 h2 _ => absurd c_1 (by rw [h2]; exact Int32.not_lt.mpr (nI_ge0 (by omega)))⟩, trivial⟩, hS.F ht⟩) hS.2.2 dX7_isStreet_26
  · refine lv_iload_n hx hb dX7_isStreet_4 rfl (lv_at hl 1 rfl) ?_
    refine lv_iconst (v := 3) hx hb dX7_isStreet_5 (by decide) ?_
    refine lv_icmp_ge (tgt := 25) hx hb dX7_isStreet_6 (by decide) (fun c_2 => ?_) (fun c_2 => ?_)
    · refine lv_iconst (v := 0) hx hb dX7_isStreet_25 (by decide) ?_
      exact W.zret (v := 0) (ty := .boolean) hx hb hr rfl (fun t ht hW => ⟨⟨0, (), rfl, .inr ⟨rfl, fun s h1 h2 _ => absurd c_2 (by rw [h2]; exact nge3 h1)⟩, trivial⟩, hS.F ht⟩) hS.2.2 dX7_isStreet_26
    · rcases xspl3 c_1 c_2 with rfl | rfl | rfl
      · refine lv_aload_n hx hb dX7_isStreet_9 rfl (lv_at hl 0 rfl) ?_
        refine va_get (D := D) (ci := 7) (v := .ref (a 3)) (C := RX7) (T := TX7) (N := 12) hx hb hts inX7 hown hK hP 0 rfl rfl 1 (by decide) (hts _ tw_306) (fun _ h9 => h9) rfl dX7_isStreet_10 ?_
        refine lv_iload_n hx hb dX7_isStreet_13 rfl (lv_at hl 1 rfl) ?_
        refine va_aldq hx hb hK hP 1 3 rfl rfl (by unfold vp_in; decide) dX7_isStreet_14 ?_
        refine lv_tr (y := .ref (a 4)) rfl ?_
        refine ro_i (D := D) (va_runV (As := []) (rest := []) ⟨hx, hb, hml, hown, hts⟩ ((x_doors l D k st lo (a 4) (a 5) (a 6) (a 7) (a 8) n0 see0 tm0 g0) s.heap.size) (cwV 0 hts (gV tw_580 tw_478 tw_479 tw_81 tw_480) rfl rfl rfl (by decide +kernel) ⟨Nat.le_of_ble_eq_true rfl, Nat.le_of_ble_eq_true rfl⟩) (pV hS hAlo hlo hP hK hDL hZ [2, 3] (by decide) rfl (ci := 5) (q := (RX5, TX5, 4)) (q0 := 0) rfl rfl) rfl rfl hl.1 rfl (lv_room (Nat.le_of_ble_eq_true rfl)) dX7_isStreet_15 ⟨Nat.le_of_ble_eq_true rfl, Nat.le_of_ble_eq_true rfl⟩) hS hA hP (fun r_3 H locs hw_3 hP hS => ?_)
        try dsimp only at hw_3
        subst hw_3
        refine lv_if_le (tgt := 25) hx hb dX7_isStreet_18 (by decide) (fun c_4 => ?_) (fun c_4 => ?_)
        · have c_4 := (nI_leI (a := n0) (b := 0) (by omega) (by omega)).mp c_4
          refine lv_iconst (v := 0) hx hb dX7_isStreet_25 (by decide) ?_
          exact W.zret (v := 0) (ty := .boolean) hx hb hr rfl (fun t ht hW => ⟨⟨0, (), rfl, .inr ⟨rfl, fun s h1 h2 h3 => by have h9 : 0 = s := nI_inj (by omega) (by omega) (show nI 0 = nI s from h2); subst h9; exact absurd h3 (show ¬ 0 < n0 by omega)⟩, trivial⟩, hS.F ht⟩) hS.2.2 dX7_isStreet_26
        · have c_4 : ¬ (n0 ≤ 0) := fun h => c_4 ((nI_leI (a := n0) (b := 0) (by omega) (by omega)).mpr h)
          refine lv_iconst (v := 1) hx hb dX7_isStreet_21 (by decide) ?_
          refine lv_goto (tgt := 26) hx hb dX7_isStreet_22 (by decide) ?_
          exact W.zret (v := 1) (ty := .boolean) hx hb hr rfl (fun t ht hW => ⟨⟨1, (), rfl, .inl ⟨rfl, .inl ⟨rfl, by omega⟩⟩, trivial⟩, hS.F ht⟩) hS.2.2 dX7_isStreet_26
      · refine lv_aload_n hx hb dX7_isStreet_9 rfl (lv_at hl 0 rfl) ?_
        refine va_get (D := D) (ci := 7) (v := .ref (a 3)) (C := RX7) (T := TX7) (N := 12) hx hb hts inX7 hown hK hP 0 rfl rfl 1 (by decide) (hts _ tw_306) (fun _ h9 => h9) rfl dX7_isStreet_10 ?_
        refine lv_iload_n hx hb dX7_isStreet_13 rfl (lv_at hl 1 rfl) ?_
        refine va_aldq hx hb hK hP 1 3 rfl rfl (by unfold vp_in; decide) dX7_isStreet_14 ?_
        refine lv_tr (y := .ref (a 9)) rfl ?_
        refine ro_i (D := D) (va_runV (As := []) (rest := []) ⟨hx, hb, hml, hown, hts⟩ ((x_doors l D k st lo (a 9) (a 10) (a 11) (a 12) (a 13) n1 see1 tm1 g1) s.heap.size) (cwV 0 hts (gV tw_580 tw_478 tw_479 tw_81 tw_480) rfl rfl rfl (by decide +kernel) ⟨Nat.le_of_ble_eq_true rfl, Nat.le_of_ble_eq_true rfl⟩) (pV hS hAlo hlo hP hK hDL hZ [4, 5] (by decide) rfl (ci := 5) (q := (RX5, TX5, 4)) (q0 := 0) rfl rfl) rfl rfl hl.1 rfl (lv_room (Nat.le_of_ble_eq_true rfl)) dX7_isStreet_15 ⟨Nat.le_of_ble_eq_true rfl, Nat.le_of_ble_eq_true rfl⟩) hS hA hP (fun r_5 H locs hw_5 hP hS => ?_)
        try dsimp only at hw_5
        subst hw_5
        refine lv_if_le (tgt := 25) hx hb dX7_isStreet_18 (by decide) (fun c_6 => ?_) (fun c_6 => ?_)
        · have c_6 := (nI_leI (a := n1) (b := 0) (by omega) (by omega)).mp c_6
          refine lv_iconst (v := 0) hx hb dX7_isStreet_25 (by decide) ?_
          exact W.zret (v := 0) (ty := .boolean) hx hb hr rfl (fun t ht hW => ⟨⟨0, (), rfl, .inr ⟨rfl, fun s h1 h2 h3 => by have h9 : 1 = s := nI_inj (by omega) (by omega) (show nI 1 = nI s from h2); subst h9; exact absurd h3 (show ¬ 0 < n1 by omega)⟩, trivial⟩, hS.F ht⟩) hS.2.2 dX7_isStreet_26
        · have c_6 : ¬ (n1 ≤ 0) := fun h => c_6 ((nI_leI (a := n1) (b := 0) (by omega) (by omega)).mpr h)
          refine lv_iconst (v := 1) hx hb dX7_isStreet_21 (by decide) ?_
          refine lv_goto (tgt := 26) hx hb dX7_isStreet_22 (by decide) ?_
          exact W.zret (v := 1) (ty := .boolean) hx hb hr rfl (fun t ht hW => ⟨⟨1, (), rfl, .inl ⟨rfl, .inr (.inl ⟨rfl, by omega⟩)⟩, trivial⟩, hS.F ht⟩) hS.2.2 dX7_isStreet_26
      · refine lv_aload_n hx hb dX7_isStreet_9 rfl (lv_at hl 0 rfl) ?_
        refine va_get (D := D) (ci := 7) (v := .ref (a 3)) (C := RX7) (T := TX7) (N := 12) hx hb hts inX7 hown hK hP 0 rfl rfl 1 (by decide) (hts _ tw_306) (fun _ h9 => h9) rfl dX7_isStreet_10 ?_
        refine lv_iload_n hx hb dX7_isStreet_13 rfl (lv_at hl 1 rfl) ?_
        refine va_aldq hx hb hK hP 1 3 rfl rfl (by unfold vp_in; decide) dX7_isStreet_14 ?_
        refine lv_tr (y := .ref (a 14)) rfl ?_
        refine ro_i (D := D) (va_runV (As := []) (rest := []) ⟨hx, hb, hml, hown, hts⟩ ((x_doors l D k st lo (a 14) (a 15) (a 16) (a 17) (a 18) n2 see2 tm2 g2) s.heap.size) (cwV 0 hts (gV tw_580 tw_478 tw_479 tw_81 tw_480) rfl rfl rfl (by decide +kernel) ⟨Nat.le_of_ble_eq_true rfl, Nat.le_of_ble_eq_true rfl⟩) (pV hS hAlo hlo hP hK hDL hZ [6, 7] (by decide) rfl (ci := 5) (q := (RX5, TX5, 4)) (q0 := 0) rfl rfl) rfl rfl hl.1 rfl (lv_room (Nat.le_of_ble_eq_true rfl)) dX7_isStreet_15 ⟨Nat.le_of_ble_eq_true rfl, Nat.le_of_ble_eq_true rfl⟩) hS hA hP (fun r_7 H locs hw_7 hP hS => ?_)
        try dsimp only at hw_7
        subst hw_7
        refine lv_if_le (tgt := 25) hx hb dX7_isStreet_18 (by decide) (fun c_8 => ?_) (fun c_8 => ?_)
        · have c_8 := (nI_leI (a := n2) (b := 0) (by omega) (by omega)).mp c_8
          refine lv_iconst (v := 0) hx hb dX7_isStreet_25 (by decide) ?_
          exact W.zret (v := 0) (ty := .boolean) hx hb hr rfl (fun t ht hW => ⟨⟨0, (), rfl, .inr ⟨rfl, fun s h1 h2 h3 => by have h9 : 2 = s := nI_inj (by omega) (by omega) (show nI 2 = nI s from h2); subst h9; exact absurd h3 (show ¬ 0 < n2 by omega)⟩, trivial⟩, hS.F ht⟩) hS.2.2 dX7_isStreet_26
        · have c_8 : ¬ (n2 ≤ 0) := fun h => c_8 ((nI_leI (a := n2) (b := 0) (by omega) (by omega)).mpr h)
          refine lv_iconst (v := 1) hx hb dX7_isStreet_21 (by decide) ?_
          refine lv_goto (tgt := 26) hx hb dX7_isStreet_22 (by decide) ?_
          exact W.zret (v := 1) (ty := .boolean) hx hb hr rfl (fun t ht hW => ⟨⟨1, (), rfl, .inl ⟨rfl, .inr (.inr ⟨rfl, by omega⟩)⟩, trivial⟩, hS.F ht⟩) hS.2.2 dX7_isStreet_26


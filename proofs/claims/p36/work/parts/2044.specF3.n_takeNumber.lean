set_option maxHeartbeats 4000000 in
set_option maxRecDepth 100000 in
theorem n_takeNumber (l : Launch) (D : va_G) (k : Nat → ClassId) (st : Nat → Nat) (lo : Nat) (a : Nat → Nat) (tx : Nat) (t0 : Nat) (we : Nat) (rd : Nat) (ru : Nat) (rw : Nat) (ca : Nat) (fp : Int32) (wd : Int64) (nu : Int32) (na : Int32) (ts : Int32) (df : Int32) (db : Int32) (sd : Int32) (ftext : Nat → Int32) (p0 : Int32) (p1 : Int32) (ht : t0 ≤ tx) (htx : tx ≤ 240) : CWi l D k st lo yX8_takeNumber cX8_takeNumber 4 (some .int) ({ frames := 2, cells := 0, slots := 0, locals := 51 }) 0 0 [.ref (a 0), .int p0, .int p1] [((a 0), .inr (8, (fX8 a (nI tx) fp (nI t0) wd (nI we) nu na (nI rd) ts (nI ru) (nI rw) (nI ca) df db sd))), (aI k (a 5) 240 ftext)] (fun (r : Int32) (u : Nat × Int32 × Int32 × Int32) => match u with | (t0_, nu_, na_, fp_) => ∃ q : Nat, na_ = nI q ∧ ((r = 0 ∧ nuR ftext tx false p0 p1 t0 = (0, 0, t0_, nu_, q) ∧ fp_ = fp) ∨ (r = 1 ∧ ∃ pl : Nat, nuR ftext tx false p0 p1 t0 = (1, pl, t0_, 0, q) ∧ fp_ = nI pl) ∨ (r = 2 ∧ ∃ pl : Nat, nuR ftext tx false p0 p1 t0 = (2, pl, t0_, 0, q) ∧ fp_ = nI pl)) ∧ t0 ≤ t0_ ∧ t0_ ≤ tx) (fun (u : Nat × Int32 × Int32 × Int32) => match u with | (t0_, nu_, na_, fp_) => [((a 0), .inr (8, (fX8 a (nI tx) fp_ (nI t0_) wd (nI we) nu_ na_ (nI rd) ts (nI ru) (nI rw) (nI ca) df db sd))), (aI k (a 5) 240 ftext)]) := by
  intro sz
  refine Met.ofW (cc := cX8_takeNumber) (maxL := 4) (ret := (some .int)) (by decide) rfl ?_
  intro p e s m args below meth c s₁ B hml hv
  obtain ⟨rfl, hsz, hlo, hP, hK, hDL, hZ⟩ := hv
  have hx := B.exec
  have hb := B.bytes
  have hr := B.returns
  have hts := WS_ts B.pre
  have hown : s.vm.findClass RX8 = some m.cls := findClass_of_methodNamed B.named
  have hlocks := B.notSynchronized
  subst hsz
  have hD := hDL.self (sz := s.heap.size)
  have hAlo := A_lo hDL hlo
  generalize hAe : va_A [((a 0), .inr (8, (fX8 a (nI tx) fp (nI t0) wd (nI we) nu na (nI rd) ts (nI ru) (nI rw) (nI ca) df db sd))), (aI k (a 5) 240 ftext)] s.heap.size = A at hD hAlo ⊢
  have hA : ∀ q : Nat, s.heap.size ≤ q → A q := fun q h => by rw [← hAe]; exact Or.inr h
  have hS : va_S A s.heap s.heap [] := va_S.rf
  have hl := lv_entry ([.ref (a 0), .int p0, .int p1]) (n := 4) (Nat.le_of_ble_eq_true rfl)
  rw [lg_entry_eq]
  generalize (lg_sl ([.ref (a 0), .int p0, .int p1]) ++ List.replicate (4 - (lg_sl ([.ref (a 0), .int p0, .int p1])).length) Slot.unset).toArray = ls at hl ⊢
  have hl : lv_has ls 4 [(0, .ref (a 0)), (1, .int p0), (2, .int p1)] := hl
  refine lv_aload_n hx hb dX8_takeNumber_0 rfl (lv_at hl 0 rfl) ?_
  refine rw_i (D := D) (wr := []) (va_runV (As := []) (rest := []) ⟨hx, hb, hml, hown, hts⟩ ((n_here l D k st lo a tx t0 we rd ru rw ca fp wd nu na ts df db sd ftext (by omega) (by omega)) s.heap.size) (cwV 0 hts (gV tw_1120 tw_1122 tw_27 tw_87 tw_1123) rfl rfl rfl (by decide +kernel) ⟨Nat.le_of_ble_eq_true rfl, Nat.le_of_ble_eq_true rfl⟩) (pV hS hAlo hlo hP hK (va_Dlo hD hAlo) hZ [0, 1] (by decide) rfl (ci := 8) (q := (RX8, TX8, 44)) (q0 := 0) rfl rfl) rfl rfl hl.1 rfl (lv_room (Nat.le_of_ble_eq_true rfl)) dX8_takeNumber_1 ⟨Nat.le_of_ble_eq_true rfl, Nat.le_of_ble_eq_true rfl⟩) hS hA hP hD [0, 1] [] rfl rfl (by decide) (by decide) (fun r_1 u H locs hw_1 hP hD hS => ?_)
  obtain ⟨t0__1, rfl⟩ : ∃ z, z = u := ⟨_, rfl⟩
  replace hP : va_P D classes [((a 0), .inr (8, (fX8 a (nI tx) fp (nI t0__1) wd (nI we) nu na (nI rd) ts (nI ru) (nI rw) (nI ca) df db sd))), (aI k (a 5) 240 ftext)] H := hP
  replace hD : va_D A [((a 0), .inr (8, (fX8 a (nI tx) fp (nI t0__1) wd (nI we) nu na (nI rd) ts (nI ru) (nI rw) (nI ca) df db sd))), (aI k (a 5) 240 ftext)] := hD
  try dsimp only at hw_1
  refine lv_istore_n (lv' := [(3, .int r_1), (0, .ref (a 0)), (1, .int p0), (2, .int p1)]) hx hb dX8_takeNumber_4 rfl hl (by decide) rfl (fun ls hl => ?_)
  refine lv_aload_n hx hb dX8_takeNumber_5 rfl (lv_at hl 1 rfl) ?_
  refine lv_aload_n hx hb dX8_takeNumber_6 rfl (lv_at hl 1 rfl) ?_
  refine va_get (D := D) (ci := 8) (v := .int (nI t0__1)) (C := RX8) (T := TX8) (N := 44) hx hb hts inX8 hown hK hP 0 rfl rfl 7 (by decide) (hts _ tw_980) (fun _ h9 => h9) rfl dX8_takeNumber_7 ?_
  refine va_put (D := D) (ci := 8) (v := .int (nI t0__1)) (ty := .int) (C := RX8) (T := TX8) (N := 44) hx hb hts inX8 tyX8 tyX8_ok nmX8 hown hK hP hD hS 0 rfl rfl 11 (by decide) (hts _ tw_984) (fun _ h9 => h9) rfl (by decide +kernel) rfl rfl (Nat.le_of_ble_eq_true rfl) dX8_takeNumber_10 (fun H locs hP hD hS => ?_)
  replace hP : va_P D classes [((a 0), .inr (8, (fX8 a (nI tx) fp (nI t0__1) wd (nI we) nu (nI t0__1) (nI rd) ts (nI ru) (nI rw) (nI ca) df db sd))), (aI k (a 5) 240 ftext)] H := hP
  replace hD : va_D A [((a 0), .inr (8, (fX8 a (nI tx) fp (nI t0__1) wd (nI we) nu (nI t0__1) (nI rd) ts (nI ru) (nI rw) (nI ca) df db sd))), (aI k (a 5) 240 ftext)] := hD
  refine lv_iload_n hx hb dX8_takeNumber_13 rfl (lv_at hl 0 rfl) ?_
  refine lv_i2l (v := r_1.toInt64) hx hb dX8_takeNumber_14 rfl ?_
  refine lv_ldc2 hx hb hown (hts _ tw_1163) dX8_takeNumber_15 ?_
  refine lv_tl (y := ((48 : Int32).toInt64)) (by decide) ?_
  refine lv_ldc2 hx hb hown (hts _ tw_1164) dX8_takeNumber_18 ?_
  refine lv_tl (y := ((57 : Int32).toInt64)) (by decide) ?_
  refine ro_i (D := D) (va_runS (As := [.long (r_1.toInt64), .long ((48 : Int32).toInt64), .long ((57 : Int32).toInt64)]) (rest := []) ⟨hx, hb, hml, hown, hts⟩ ((k_in l D k st lo r_1 (48 : Int32) (57 : Int32)) H.size) (va_cwS 3 hts (gS tw_1111 tw_1112 tw_87 tw_1113) rfl rfl rfl (by decide +kernel) ⟨Nat.le_of_ble_eq_true rfl, Nat.le_of_ble_eq_true rfl⟩) (pS hS hAlo hlo hP hK (va_Dlo hD hAlo) hZ [] (by decide) rfl) rfl rfl hl.1 rfl (lv_room (Nat.le_of_ble_eq_true rfl)) dX8_takeNumber_21 ⟨Nat.le_of_ble_eq_true rfl, Nat.le_of_ble_eq_true rfl⟩) hS hA hP (fun r_2 H locs hw_2 hP hS => ?_)
  try dsimp only at hw_2
  rcases hw_2 with ⟨rfl, hw_2⟩ | ⟨rfl, hw_2⟩
  · refine lv_if_eq (tgt := 41) hx hb dX8_takeNumber_24 (by decide) (fun h => absurd h (by decide)) (fun _ => ?_)
    refine lv_aload_n hx hb dX8_takeNumber_27 rfl (lv_at hl 1 rfl) ?_
    refine lv_aload_n hx hb dX8_takeNumber_28 rfl (lv_at hl 1 rfl) ?_
    refine va_get (D := D) (ci := 8) (v := .int (nI t0__1)) (C := RX8) (T := TX8) (N := 44) hx hb hts inX8 hown hK hP 0 rfl rfl 11 (by decide) (hts _ tw_984) (fun _ h9 => h9) rfl dX8_takeNumber_29 ?_
    refine lv_iload_n hx hb dX8_takeNumber_32 rfl (lv_at hl 2 rfl) ?_
    refine lv_iload_n hx hb dX8_takeNumber_33 rfl (lv_at hl 3 rfl) ?_
    refine lv_iconst (v := 0) hx hb dX8_takeNumber_34 (by decide) ?_
    refine rw_i (D := D) (wr := []) (va_runV (As := [.int (nI t0__1), .int p0, .int p1, .int 0]) (rest := []) ⟨hx, hb, hml, hown, hts⟩ ((n_takeFigures_0 l D k st lo a tx t0__1 we rd ru rw ca fp wd nu (nI t0__1) ts df db sd ftext t0__1 p0 p1 (by omega) (by omega)) H.size) (cwV 4 hts (gV tw_1165 tw_1167 tw_34 tw_87 tw_1168) rfl rfl rfl (by decide +kernel) ⟨Nat.le_of_ble_eq_true rfl, Nat.le_of_ble_eq_true rfl⟩) (pV hS hAlo hlo hP hK (va_Dlo hD hAlo) hZ [0, 1] (by decide) rfl (ci := 8) (q := (RX8, TX8, 44)) (q0 := 0) rfl rfl) rfl rfl hl.1 rfl (lv_room (Nat.le_of_ble_eq_true rfl)) dX8_takeNumber_35 ⟨Nat.le_of_ble_eq_true rfl, Nat.le_of_ble_eq_true rfl⟩) hS hA hP hD [0, 1] [] rfl rfl (by decide) (by decide) (fun r_3 u H locs hw_3 hP hD hS => ?_)
    obtain ⟨t0__3, nu__3, fp__3⟩ := u
    replace hP : va_P D classes [((a 0), .inr (8, (fX8 a (nI tx) fp__3 (nI t0__3) wd (nI we) nu__3 (nI t0__1) (nI rd) ts (nI ru) (nI rw) (nI ca) df db sd))), (aI k (a 5) 240 ftext)] H := hP
    replace hD : va_D A [((a 0), .inr (8, (fX8 a (nI tx) fp__3 (nI t0__3) wd (nI we) nu__3 (nI t0__1) (nI rd) ts (nI ru) (nI rw) (nI ca) df db sd))), (aI k (a 5) 240 ftext)] := hD
    try dsimp only at hw_3
    rcases hw_3 with ⟨⟨rfl, hq_4, hfp_4⟩ | ⟨rfl, pl_4, hq_4, rfl⟩ | ⟨rfl, pl_4, hq_4, rfl⟩, hw_3⟩
    · replace hfp_4 := hfp_4.symm
      subst hfp_4
      refine lv_goto (tgt := 50) hx hb dX8_takeNumber_38 (by decide) ?_
      have hP9 := hP.sub (ws' := [((a 0), .inr (8, (fX8 a (nI tx) fp (nI t0__3) wd (nI we) nu__3 (nI t0__1) (nI rd) ts (nI ru) (nI rw) (nI ca) df db sd))), (aI k (a 5) 240 ftext)]) [0, 1] rfl
      have hD9 := hD.sub (ws' := [((a 0), .inr (8, (fX8 a (nI tx) fp (nI t0__3) wd (nI we) nu__3 (nI t0__1) (nI rd) ts (nI ru) (nI rw) (nI ca) df db sd))), (aI k (a 5) 240 ftext)]) [0, 1] (by decide) rfl
      exact W.iret (v := 0) hx hb hr (fun t ht hW => ⟨⟨0, (t0__3, nu__3, (nI t0__1), fp), rfl, ⟨_, rfl, .inl ⟨rfl, (nuR_F hw_1.1).trans hq_4, rfl⟩, by omega, by omega⟩, by rw [ht]; exact hP9, hD9⟩, hS.F ht⟩) hS.2.2 dX8_takeNumber_50
    · refine lv_goto (tgt := 50) hx hb dX8_takeNumber_38 (by decide) ?_
      have hP9 := hP.sub (ws' := [((a 0), .inr (8, (fX8 a (nI tx) (nI pl_4) (nI t0__3) wd (nI we) nu__3 (nI t0__1) (nI rd) ts (nI ru) (nI rw) (nI ca) df db sd))), (aI k (a 5) 240 ftext)]) [0, 1] rfl
      have hD9 := hD.sub (ws' := [((a 0), .inr (8, (fX8 a (nI tx) (nI pl_4) (nI t0__3) wd (nI we) nu__3 (nI t0__1) (nI rd) ts (nI ru) (nI rw) (nI ca) df db sd))), (aI k (a 5) 240 ftext)]) [0, 1] (by decide) rfl
      exact W.iret (v := 1) hx hb hr (fun t ht hW => ⟨⟨1, (t0__3, nu__3, (nI t0__1), (nI pl_4)), rfl, ⟨_, rfl, .inr (.inl ⟨rfl, _, (nuR_F hw_1.1).trans hq_4, rfl⟩), by omega, by omega⟩, by rw [ht]; exact hP9, hD9⟩, hS.F ht⟩) hS.2.2 dX8_takeNumber_50
    · refine lv_goto (tgt := 50) hx hb dX8_takeNumber_38 (by decide) ?_
      have hP9 := hP.sub (ws' := [((a 0), .inr (8, (fX8 a (nI tx) (nI pl_4) (nI t0__3) wd (nI we) nu__3 (nI t0__1) (nI rd) ts (nI ru) (nI rw) (nI ca) df db sd))), (aI k (a 5) 240 ftext)]) [0, 1] rfl
      have hD9 := hD.sub (ws' := [((a 0), .inr (8, (fX8 a (nI tx) (nI pl_4) (nI t0__3) wd (nI we) nu__3 (nI t0__1) (nI rd) ts (nI ru) (nI rw) (nI ca) df db sd))), (aI k (a 5) 240 ftext)]) [0, 1] (by decide) rfl
      exact W.iret (v := 2) hx hb hr (fun t ht hW => ⟨⟨2, (t0__3, nu__3, (nI t0__1), (nI pl_4)), rfl, ⟨_, rfl, .inr (.inr ⟨rfl, _, (nuR_F hw_1.1).trans hq_4, rfl⟩), by omega, by omega⟩, by rw [ht]; exact hP9, hD9⟩, hS.F ht⟩) hS.2.2 dX8_takeNumber_50
  · refine lv_if_eq (tgt := 41) hx hb dX8_takeNumber_24 (by decide) (fun _ => ?_) (fun h => absurd (by decide) h)
    refine lv_aload_n hx hb dX8_takeNumber_41 rfl (lv_at hl 1 rfl) ?_
    refine lv_iconst (v := 1) hx hb dX8_takeNumber_42 (by decide) ?_
    refine lv_aload_n hx hb dX8_takeNumber_43 rfl (lv_at hl 1 rfl) ?_
    refine va_get (D := D) (ci := 8) (v := .int (nI t0__1)) (C := RX8) (T := TX8) (N := 44) hx hb hts inX8 hown hK hP 0 rfl rfl 7 (by decide) (hts _ tw_980) (fun _ h9 => h9) rfl dX8_takeNumber_44 ?_
    refine rw_i (D := D) (wr := [(aI k (a 5) 240 ftext)]) (va_runV (As := [.int 1, .int (nI t0__1)]) (rest := []) ⟨hx, hb, hml, hown, hts⟩ ((n_fails l D k st lo a tx t0__1 we rd ru rw ca fp wd nu (nI t0__1) ts df db sd 1 (nI t0__1)) H.size) (cwV 2 hts (gV tw_1151 tw_1153 tw_31 tw_87 tw_1154) rfl rfl rfl (by decide +kernel) ⟨Nat.le_of_ble_eq_true rfl, Nat.le_of_ble_eq_true rfl⟩) (pV hS hAlo hlo hP hK (va_Dlo hD hAlo) hZ [0] (by decide) rfl (ci := 8) (q := (RX8, TX8, 44)) (q0 := 0) rfl rfl) rfl rfl hl.1 rfl (lv_room (Nat.le_of_ble_eq_true rfl)) dX8_takeNumber_47 ⟨Nat.le_of_ble_eq_true rfl, Nat.le_of_ble_eq_true rfl⟩) hS hA hP hD [0] [1] rfl rfl (by decide) (by decide) (fun r_5 u H locs hw_5 hP hD hS => ?_)
    obtain ⟨fp__5, rfl⟩ : ∃ z, z = u := ⟨_, rfl⟩
    replace hP : va_P D classes [(aI k (a 5) 240 ftext), ((a 0), .inr (8, (fX8 a (nI tx) fp__5 (nI t0__1) wd (nI we) nu (nI t0__1) (nI rd) ts (nI ru) (nI rw) (nI ca) df db sd)))] H := hP
    replace hD : va_D A [(aI k (a 5) 240 ftext), ((a 0), .inr (8, (fX8 a (nI tx) fp__5 (nI t0__1) wd (nI we) nu (nI t0__1) (nI rd) ts (nI ru) (nI rw) (nI ca) df db sd)))] := hD
    try dsimp only at hw_5
    obtain ⟨hs0_6, hs1_6⟩ := hw_5
    replace hs0_6 := hs0_6.symm
    subst hs0_6
    replace hs1_6 := hs1_6.symm
    subst hs1_6
    have hP9 := hP.sub (ws' := [((a 0), .inr (8, (fX8 a (nI tx) (nI t0__1) (nI t0__1) wd (nI we) nu (nI t0__1) (nI rd) ts (nI ru) (nI rw) (nI ca) df db sd))), (aI k (a 5) 240 ftext)]) [1, 0] rfl
    have hD9 := hD.sub (ws' := [((a 0), .inr (8, (fX8 a (nI tx) (nI t0__1) (nI t0__1) wd (nI we) nu (nI t0__1) (nI rd) ts (nI ru) (nI rw) (nI ca) df db sd))), (aI k (a 5) 240 ftext)]) [1, 0] (by decide) rfl
    exact W.iret (v := 1) hx hb hr (fun t ht hW => ⟨⟨1, (t0__1, nu, (nI t0__1), (nI t0__1)), rfl, ⟨_, rfl, .inr (.inl ⟨rfl, _, (nuR_F hw_1.1).trans (nuS_1 (nn_fe (by rw [← hw_1.2.1]; exact hw_2))), rfl⟩), by omega, by omega⟩, by rw [ht]; exact hP9, hD9⟩, hS.F ht⟩) hS.2.2 dX8_takeNumber_50


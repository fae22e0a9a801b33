set_option maxHeartbeats 4000000 in
set_option maxRecDepth 100000 in
theorem n_needs (l : Launch) (D : va_G) (k : Nat → ClassId) (st : Nat → Nat) (lo : Nat) (a : Nat → Nat) (tx : Nat) (t0 : Nat) (we : Nat) (rd : Nat) (ru : Nat) (rw : Nat) (ca : Nat) (fp : Int32) (wd : Int64) (nu : Int32) (na : Int32) (ts : Int32) (df : Int32) (db : Int32) (sd : Int32) (ftext : Nat → Int32) (q0 : Int64) (wi : Nat) (ht : t0 ≤ tx) (htx : tx ≤ 240) (hwi : wi < 14) (hq : q0 = wval (sByt.getD wi [])) : CWi l D k st lo yX8_needs cX8_needs 3 (some .int) ({ frames := 2, cells := 0, slots := 0, locals := 46 }) 0 0 [.ref (a 0), .long q0] [((a 0), .inr (8, (fX8 a (nI tx) fp (nI t0) wd (nI we) nu na (nI rd) ts (nI ru) (nI rw) (nI ca) df db sd))), (aI k (a 5) 240 ftext)] (fun (r : Int32) (u : Nat × Int64 × Nat × Int32) => match u with | (t0_, wd_, we_, fp_) => ((r = 0 ∧ wdR ftext tx (sByt.getD wi []) t0 = (0, 0, t0_) ∧ fp_ = fp) ∨ (r = 1 ∧ ∃ pl : Nat, wdR ftext tx (sByt.getD wi []) t0 = (1, pl, t0_) ∧ fp_ = nI pl)) ∧ t0 ≤ t0_ ∧ t0_ ≤ tx ∧ we_ ≤ tx) (fun (u : Nat × Int64 × Nat × Int32) => match u with | (t0_, wd_, we_, fp_) => [((a 0), .inr (8, (fX8 a (nI tx) fp_ (nI t0_) wd_ (nI we_) nu na (nI rd) ts (nI ru) (nI rw) (nI ca) df db sd))), (aI k (a 5) 240 ftext)]) := by
  intro sz
  refine Met.ofW (cc := cX8_needs) (maxL := 3) (ret := (some .int)) (by decide) rfl ?_
  intro p e s m args below meth c s₁ B hml hv
  obtain ⟨rfl, hsz, hlo, hP, hK, hDL, hZ⟩ := hv
  have hx := B.exec
  have hb := B.bytes
  have hr := B.returns
  have hts := WS_ts B.pre
  have hown : s.vm.findClass RX8 = some m.cls := findClass_of_methodNamed B.named
  have hlocks := B.notSynchronized
  subst hsz
  have hD := hDL.self (sz := s.heap.size)
  have hAlo := A_lo hDL hlo
  generalize hAe : va_A [((a 0), .inr (8, (fX8 a (nI tx) fp (nI t0) wd (nI we) nu na (nI rd) ts (nI ru) (nI rw) (nI ca) df db sd))), (aI k (a 5) 240 ftext)] s.heap.size = A at hD hAlo ⊢
  have hA : ∀ q : Nat, s.heap.size ≤ q → A q := fun q h => by rw [← hAe]; exact Or.inr h
  have hS : va_S A s.heap s.heap [] := va_S.rf
  have hl := lv_entry ([.ref (a 0), .long q0]) (n := 3) (Nat.le_of_ble_eq_true rfl)
  rw [lg_entry_eq]
  generalize (lg_sl ([.ref (a 0), .long q0]) ++ List.replicate (3 - (lg_sl ([.ref (a 0), .long q0])).length) Slot.unset).toArray = ls at hl ⊢
  have hl : lv_has ls 3 [(0, .ref (a 0)), (1, .long q0)] := hl
  refine lv_aload_n hx hb dX8_needs_0 rfl (lv_at hl 0 rfl) ?_
  refine rw_v (D := D) (wr := []) (va_runV (As := []) (rest := []) ⟨hx, hb, hml, hown, hts⟩ ((n_readWord l D k st lo a tx t0 we rd ru rw ca fp wd nu na ts df db sd ftext (by omega) (by omega)) s.heap.size) (cwV 0 hts (gV tw_1128 tw_1130 tw_29 tw_87 tw_1131) rfl rfl rfl (by decide +kernel) ⟨Nat.le_of_ble_eq_true rfl, Nat.le_of_ble_eq_true rfl⟩) (pV hS hAlo hlo hP hK (va_Dlo hD hAlo) hZ [0, 1] (by decide) rfl (ci := 8) (q := (RX8, TX8, 44)) (q0 := 0) rfl rfl) rfl rfl hl.1 rfl (lv_room (Nat.le_of_ble_eq_true rfl)) dX8_needs_1 ⟨Nat.le_of_ble_eq_true rfl, Nat.le_of_ble_eq_true rfl⟩) hS hA hP hD [0, 1] [] rfl rfl (by decide) (by decide) (fun u H locs hw_1 hP hD hS => ?_)
  obtain ⟨t0__1, wd__1, we__1⟩ := u
  replace hP : va_P D classes [((a 0), .inr (8, (fX8 a (nI tx) fp (nI t0__1) wd__1 (nI we__1) nu na (nI rd) ts (nI ru) (nI rw) (nI ca) df db sd))), (aI k (a 5) 240 ftext)] H := hP
  replace hD : va_D A [((a 0), .inr (8, (fX8 a (nI tx) fp (nI t0__1) wd__1 (nI we__1) nu na (nI rd) ts (nI ru) (nI rw) (nI ca) df db sd))), (aI k (a 5) 240 ftext)] := hD
  try dsimp only at hw_1
  refine lv_aload_n hx hb dX8_needs_4 rfl (lv_at hl 0 rfl) ?_
  refine va_get (D := D) (ci := 8) (v := .long wd__1) (C := RX8) (T := TX8) (N := 44) hx hb hts inX8 hown hK hP 0 rfl rfl 8 (by decide) (hts _ tw_981) (fun _ h9 => h9) rfl dX8_needs_5 ?_
  refine lv_lload_n hx hb dX8_needs_8 rfl (lv_at hl 1 rfl) ?_
  refine W.lcmp hx hb dX8_needs_9 ?_
  refine lv_if_eq (tgt := 23) hx hb dX8_needs_10 (by decide) (fun c_2 => ?_) (fun c_2 => ?_)
  · refine lv_aload_n hx hb dX8_needs_23 rfl (lv_at hl 0 rfl) ?_
    refine lv_aload_n hx hb dX8_needs_24 rfl (lv_at hl 0 rfl) ?_
    refine va_get (D := D) (ci := 8) (v := .int (nI we__1)) (C := RX8) (T := TX8) (N := 44) hx hb hts inX8 hown hK hP 0 rfl rfl 9 (by decide) (hts _ tw_982) (fun _ h9 => h9) rfl dX8_needs_25 ?_
    refine va_put (D := D) (ci := 8) (v := .int (nI we__1)) (ty := .int) (C := RX8) (T := TX8) (N := 44) hx hb hts inX8 tyX8 tyX8_ok nmX8 hown hK hP hD hS 0 rfl rfl 7 (by decide) (hts _ tw_980) (fun _ h9 => h9) rfl (by decide +kernel) rfl rfl (Nat.le_of_ble_eq_true rfl) dX8_needs_28 (fun H locs hP hD hS => ?_)
    replace hP : va_P D classes [((a 0), .inr (8, (fX8 a (nI tx) fp (nI we__1) wd__1 (nI we__1) nu na (nI rd) ts (nI ru) (nI rw) (nI ca) df db sd))), (aI k (a 5) 240 ftext)] H := hP
    replace hD : va_D A [((a 0), .inr (8, (fX8 a (nI tx) fp (nI we__1) wd__1 (nI we__1) nu na (nI rd) ts (nI ru) (nI rw) (nI ca) df db sd))), (aI k (a 5) 240 ftext)] := hD
    refine lv_iconst (v := 0) hx hb dX8_needs_31 (by decide) ?_
    have hP9 := hP.sub (ws' := [((a 0), .inr (8, (fX8 a (nI tx) fp (nI we__1) wd__1 (nI we__1) nu na (nI rd) ts (nI ru) (nI rw) (nI ca) df db sd))), (aI k (a 5) 240 ftext)]) [0, 1] rfl
    have hD9 := hD.sub (ws' := [((a 0), .inr (8, (fX8 a (nI tx) fp (nI we__1) wd__1 (nI we__1) nu na (nI rd) ts (nI ru) (nI rw) (nI ca) df db sd))), (aI k (a 5) 240 ftext)]) [0, 1] (by decide) rfl
    exact W.iret (v := 0) hx hb hr (fun t ht hW => ⟨⟨0, (we__1, wd__1, we__1, fp), rfl, ⟨.inl ⟨rfl, nd_1 hwi hw_1.1 hw_1.2.1 hw_1.2.2.1 hq c_2, rfl⟩, by omega, by omega, by omega⟩, by rw [ht]; exact hP9, hD9⟩, hS.F ht⟩) hS.2.2 dX8_needs_32
  · refine lv_aload_n hx hb dX8_needs_13 rfl (lv_at hl 0 rfl) ?_
    refine lv_iconst (v := 1) hx hb dX8_needs_14 (by decide) ?_
    refine lv_aload_n hx hb dX8_needs_15 rfl (lv_at hl 0 rfl) ?_
    refine va_get (D := D) (ci := 8) (v := .int (nI t0__1)) (C := RX8) (T := TX8) (N := 44) hx hb hts inX8 hown hK hP 0 rfl rfl 7 (by decide) (hts _ tw_980) (fun _ h9 => h9) rfl dX8_needs_16 ?_
    refine rw_i (D := D) (wr := [(aI k (a 5) 240 ftext)]) (va_runV (As := [.int 1, .int (nI t0__1)]) (rest := []) ⟨hx, hb, hml, hown, hts⟩ ((n_fails l D k st lo a tx t0__1 we__1 rd ru rw ca fp wd__1 nu na ts df db sd 1 (nI t0__1)) H.size) (cwV 2 hts (gV tw_1151 tw_1153 tw_31 tw_87 tw_1154) rfl rfl rfl (by decide +kernel) ⟨Nat.le_of_ble_eq_true rfl, Nat.le_of_ble_eq_true rfl⟩) (pV hS hAlo hlo hP hK (va_Dlo hD hAlo) hZ [0] (by decide) rfl (ci := 8) (q := (RX8, TX8, 44)) (q0 := 0) rfl rfl) rfl rfl hl.1 rfl (lv_room (Nat.le_of_ble_eq_true rfl)) dX8_needs_19 ⟨Nat.le_of_ble_eq_true rfl, Nat.le_of_ble_eq_true rfl⟩) hS hA hP hD [0] [1] rfl rfl (by decide) (by decide) (fun r_3 u H locs hw_3 hP hD hS => ?_)
    obtain ⟨fp__3, rfl⟩ : ∃ z, z = u := ⟨_, rfl⟩
    replace hP : va_P D classes [(aI k (a 5) 240 ftext), ((a 0), .inr (8, (fX8 a (nI tx) fp__3 (nI t0__1) wd__1 (nI we__1) nu na (nI rd) ts (nI ru) (nI rw) (nI ca) df db sd)))] H := hP
    replace hD : va_D A [(aI k (a 5) 240 ftext), ((a 0), .inr (8, (fX8 a (nI tx) fp__3 (nI t0__1) wd__1 (nI we__1) nu na (nI rd) ts (nI ru) (nI rw) (nI ca) df db sd)))] := hD
    try dsimp only at hw_3
    obtain ⟨hs0_4, hs1_4⟩ := hw_3
    replace hs0_4 := hs0_4.symm
    subst hs0_4
    replace hs1_4 := hs1_4.symm
    subst hs1_4
    have hP9 := hP.sub (ws' := [((a 0), .inr (8, (fX8 a (nI tx) (nI t0__1) (nI t0__1) wd__1 (nI we__1) nu na (nI rd) ts (nI ru) (nI rw) (nI ca) df db sd))), (aI k (a 5) 240 ftext)]) [1, 0] rfl
    have hD9 := hD.sub (ws' := [((a 0), .inr (8, (fX8 a (nI tx) (nI t0__1) (nI t0__1) wd__1 (nI we__1) nu na (nI rd) ts (nI ru) (nI rw) (nI ca) df db sd))), (aI k (a 5) 240 ftext)]) [1, 0] (by decide) rfl
    exact W.iret (v := 1) hx hb hr (fun t ht hW => ⟨⟨1, (t0__1, wd__1, we__1, (nI t0__1)), rfl, ⟨.inr ⟨rfl, _, nd_0 hwi hw_1.1 hw_1.2.2.1 hq c_2, rfl⟩, by omega, by omega, by omega⟩, by rw [ht]; exact hP9, hD9⟩, hS.F ht⟩) hS.2.2 dX8_needs_22


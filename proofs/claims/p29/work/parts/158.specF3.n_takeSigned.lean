
set_option maxHeartbeats 4000000 in
set_option maxRecDepth 100000 in
theorem n_takeSigned (l : Launch) (D : va_G) (k : Nat → ClassId) (st : Nat → Nat) (lo : Nat) (a : Nat → Nat) (tx : Nat) (t0 : Nat) (we : Nat) (rd : Nat) (ru : Nat) (rw : Nat) (ca : Nat) (fp : Int32) (wd : Int64) (nu : Int32) (na : Int32) (ts : Int32) (df : Int32) (db : Int32) (sd : Int32) (ftext : Nat → Int32) (p0 : Int32) (ht : t0 ≤ tx) (htx : tx ≤ 240) : CWi l D k st lo yX8_takeSigned cX8_takeSigned 4 (some .int) ({ frames := 2, cells := 0, slots := 0, locals := 51 }) 0 0 [.ref (a 0), .int p0] [((a 0), .inr (8, (fX8 a (nI tx) fp (nI t0) wd (nI we) nu na (nI rd) ts (nI ru) (nI rw) (nI ca) df db sd))), (aI k (a 5) 240 ftext)] (fun (r : Int32) (u : Nat × Int32 × Int32 × Int32) => match u with | (t0_, nu_, na_, fp_) => ∃ q : Nat, na_ = nI q ∧ ((r = 0 ∧ nuR ftext tx true (-p0) p0 t0 = (0, 0, t0_, nu_, q) ∧ fp_ = fp) ∨ (r = 1 ∧ ∃ pl : Nat, nuR ftext tx true (-p0) p0 t0 = (1, pl, t0_, 0, q) ∧ fp_ = nI pl) ∨ (r = 2 ∧ ∃ pl : Nat, nuR ftext tx true (-p0) p0 t0 = (2, pl, t0_, 0, q) ∧ fp_ = nI pl)) ∧ t0 ≤ t0_ ∧ t0_ ≤ tx) (fun (u : Nat × Int32 × Int32 × Int32) => match u with | (t0_, nu_, na_, fp_) => [((a 0), .inr (8, (fX8 a (nI tx) fp_ (nI t0_) wd (nI we) nu_ na_ (nI rd) ts (nI ru) (nI rw) (nI ca) df db sd))), (aI k (a 5) 240 ftext)]) := by
  intro sz
  refine Met.ofW (cc := cX8_takeSigned) (maxL := 4) (ret := (some .int)) (by decide) rfl ?_
  intro p e s m args below meth c s₁ B hml hv
  obtain ⟨rfl, hsz, hlo, hP, hK, hDL, hZ⟩ := hv
  have hx := B.exec
  have hb := B.bytes
  have hr := B.returns
  have hts := WS_ts B.pre
  have hown : s.vm.findClass RX8 = some m.cls := findClass_of_methodNamed B.named
  have hlocks := B.notSynchronized
  subst hsz
  have hD := hDL.self (sz := s.heap.size)
  have hAlo := A_lo hDL hlo
  generalize hAe : va_A [((a 0), .inr (8, (fX8 a (nI tx) fp (nI t0) wd (nI we) nu na (nI rd) ts (nI ru) (nI rw) (nI ca) df db sd))), (aI k (a 5) 240 ftext)] s.heap.size = A at hD hAlo ⊢
  have hA : ∀ q : Nat, s.heap.size ≤ q → A q := fun q h => by rw [← hAe]; exact Or.inr h
  have hS : va_S A s.heap s.heap [] := va_S.rf
  have hl := lv_entry ([.ref (a 0), .int p0]) (n := 4) (Nat.le_of_ble_eq_true rfl)
  rw [lg_entry_eq]
  generalize (lg_sl ([.ref (a 0), .int p0]) ++ List.replicate (4 - (lg_sl ([.ref (a 0), .int p0])).length) Slot.unset).toArray = ls at hl ⊢
  have hl : lv_has ls 4 [(0, .ref (a 0)), (1, .int p0)] := hl
  refine lv_aload_n hx hb dX8_takeSigned_0 rfl (lv_at hl 0 rfl) ?_
  refine rw_i (D := D) (wr := []) (va_runV (As := []) (rest := []) ⟨hx, hb, hml, hown, hts⟩ ((n_here l D k st lo a tx t0 we rd ru rw ca fp wd nu na ts df db sd ftext (by first | assumption | omega) (by first | assumption | omega)) s.heap.size) (cwV 0 hts (gV tw_1120 tw_1122 tw_27 tw_87 tw_1123) rfl rfl rfl (by decide +kernel) ⟨Nat.le_of_ble_eq_true rfl, Nat.le_of_ble_eq_true rfl⟩) (pV hS hAlo hlo hP hK (va_Dlo hD hAlo) hZ [0, 1] (by decide) rfl (ci := 8) (q := (RX8, TX8, 44)) (q0 := 0) rfl rfl) rfl rfl hl.1 rfl (lv_room (Nat.le_of_ble_eq_true rfl)) dX8_takeSigned_1 ⟨Nat.le_of_ble_eq_true rfl, Nat.le_of_ble_eq_true rfl⟩) hS hA hP hD [0, 1] [] rfl rfl (by decide) (by decide) (fun r_1 u H locs hw_1 hP hD hS => ?_)
  obtain ⟨t0__1, rfl⟩ : ∃ z, z = u := ⟨_, rfl⟩
  replace hP : va_P D classes [((a 0), .inr (8, (fX8 a (nI tx) fp (nI t0__1) wd (nI we) nu na (nI rd) ts (nI ru) (nI rw) (nI ca) df db sd))), (aI k (a 5) 240 ftext)] H := hP
  replace hD : va_D A [((a 0), .inr (8, (fX8 a (nI tx) fp (nI t0__1) wd (nI we) nu na (nI rd) ts (nI ru) (nI rw) (nI ca) df db sd))), (aI k (a 5) 240 ftext)] := hD
  try dsimp only at hw_1
  refine lv_istore_n (lv' := [(2, .int r_1), (0, .ref (a 0)), (1, .int p0)]) hx hb dX8_takeSigned_4 rfl hl (by decide) rfl (fun ls hl => ?_)
  refine lv_aload_n hx hb dX8_takeSigned_5 rfl (lv_at hl 1 rfl) ?_
  refine lv_aload_n hx hb dX8_takeSigned_6 rfl (lv_at hl 1 rfl) ?_
  refine va_get (D := D) (ci := 8) (v := .int (nI t0__1)) (C := RX8) (T := TX8) (N := 44) hx hb hts inX8 hown hK hP 0 rfl rfl 7 (by decide) (hts _ tw_980) (fun _ h9 => h9) rfl dX8_takeSigned_7 ?_
  refine va_put (D := D) (ci := 8) (v := .int (nI t0__1)) (ty := .int) (C := RX8) (T := TX8) (N := 44) hx hb hts inX8 tyX8 tyX8_ok nmX8 hown hK hP hD hS 0 rfl rfl 11 (by decide) (hts _ tw_984) (fun _ h9 => h9) rfl (by decide +kernel) rfl rfl (Nat.le_of_ble_eq_true rfl) dX8_takeSigned_10 (fun H locs hP hD hS => ?_)
  replace hP : va_P D classes [((a 0), .inr (8, (fX8 a (nI tx) fp (nI t0__1) wd (nI we) nu (nI t0__1) (nI rd) ts (nI ru) (nI rw) (nI ca) df db sd))), (aI k (a 5) 240 ftext)] H := hP
  replace hD : va_D A [((a 0), .inr (8, (fX8 a (nI tx) fp (nI t0__1) wd (nI we) nu (nI t0__1) (nI rd) ts (nI ru) (nI rw) (nI ca) df db sd))), (aI k (a 5) 240 ftext)] := hD
  refine lv_iload_n hx hb dX8_takeSigned_13 rfl (lv_at hl 0 rfl) ?_
  refine lv_bipush (v := 45) hx hb dX8_takeSigned_14 (by decide) ?_
  refine lv_icmp_ne (tgt := 23) hx hb dX8_takeSigned_16 (by decide) (fun c_2 => ?_) (fun c_2 => ?_)
  · refine lv_iconst (v := 0) hx hb dX8_takeSigned_23 (by decide) ?_
    refine lv_istore_n (lv' := [(3, .int 0), (2, .int r_1), (0, .ref (a 0)), (1, .int p0)]) hx hb dX8_takeSigned_24 rfl hl (by decide) rfl (fun ls hl => ?_)
    refine lv_aload_n hx hb dX8_takeSigned_25 rfl (lv_at hl 2 rfl) ?_
    refine lv_dup hx hb dX8_takeSigned_26 rfl ?_
    refine va_get (D := D) (ci := 8) (v := .int (nI t0__1)) (C := RX8) (T := TX8) (N := 44) hx hb hts inX8 hown hK hP 0 rfl rfl 7 (by decide) (hts _ tw_980) (fun _ h9 => h9) rfl dX8_takeSigned_27 ?_
    refine lv_iload_n hx hb dX8_takeSigned_30 rfl (lv_at hl 0 rfl) ?_
    refine lv_if_eq (tgt := 38) hx hb dX8_takeSigned_31 (by decide) (fun _ => ?_) (fun h => absurd (by decide) h)
    refine lv_iconst (v := 0) hx hb dX8_takeSigned_38 (by decide) ?_
    refine lv_iadd hx hb dX8_takeSigned_39 ?_
    refine lv_ti (y := (nI (t0__1 + 0))) (nI_add t0__1 0) ?_
    refine va_put (D := D) (ci := 8) (v := .int (nI (t0__1 + 0))) (ty := .int) (C := RX8) (T := TX8) (N := 44) hx hb hts inX8 tyX8 tyX8_ok nmX8 hown hK hP hD hS 0 rfl rfl 7 (by decide) (hts _ tw_980) (fun _ h9 => h9) rfl (by decide +kernel) rfl rfl (Nat.le_of_ble_eq_true rfl) dX8_takeSigned_40 (fun H locs hP hD hS => ?_)
    replace hP : va_P D classes [((a 0), .inr (8, (fX8 a (nI tx) fp (nI (t0__1 + 0)) wd (nI we) nu (nI t0__1) (nI rd) ts (nI ru) (nI rw) (nI ca) df db sd))), (aI k (a 5) 240 ftext)] H := hP
    replace hD : va_D A [((a 0), .inr (8, (fX8 a (nI tx) fp (nI (t0__1 + 0)) wd (nI we) nu (nI t0__1) (nI rd) ts (nI ru) (nI rw) (nI ca) df db sd))), (aI k (a 5) 240 ftext)] := hD
    refine lv_aload_n hx hb dX8_takeSigned_43 rfl (lv_at hl 2 rfl) ?_
    refine lv_aload_n hx hb dX8_takeSigned_44 rfl (lv_at hl 2 rfl) ?_
    refine va_get (D := D) (ci := 8) (v := .int (nI t0__1)) (C := RX8) (T := TX8) (N := 44) hx hb hts inX8 hown hK hP 0 rfl rfl 11 (by decide) (hts _ tw_984) (fun _ h9 => h9) rfl dX8_takeSigned_45 ?_
    refine lv_iload_n hx hb dX8_takeSigned_48 rfl (lv_at hl 3 rfl) ?_
    refine lv_ineg hx hb dX8_takeSigned_49 ?_
    refine lv_topi (fun x_3 ex_3 => ?_)
    refine lv_iload_n hx hb dX8_takeSigned_50 rfl (lv_at hl 3 rfl) ?_
    refine lv_iload_n hx hb dX8_takeSigned_51 rfl (lv_at hl 0 rfl) ?_
    refine rw_i (D := D) (wr := []) (va_runV (As := [.int (nI t0__1), .int x_3, .int p0, .int 0]) (rest := []) ⟨hx, hb, hml, hown, hts⟩ ((n_takeFigures_0 l D k st lo a tx (t0__1 + 0) we rd ru rw ca fp wd nu (nI t0__1) ts df db sd ftext t0__1 x_3 p0 (by first | assumption | omega) (by first | assumption | omega)) H.size) (cwV 4 hts (gV tw_1165 tw_1167 tw_34 tw_87 tw_1168) rfl rfl rfl (by decide +kernel) ⟨Nat.le_of_ble_eq_true rfl, Nat.le_of_ble_eq_true rfl⟩) (pV hS hAlo hlo hP hK (va_Dlo hD hAlo) hZ [0, 1] (by decide) rfl (ci := 8) (q := (RX8, TX8, 44)) (q0 := 0) rfl rfl) rfl rfl hl.1 rfl (lv_room (Nat.le_of_ble_eq_true rfl)) dX8_takeSigned_52 ⟨Nat.le_of_ble_eq_true rfl, Nat.le_of_ble_eq_true rfl⟩) hS hA hP hD [0, 1] [] rfl rfl (by decide) (by decide) (fun r_4 u H locs hw_4 hP hD hS => ?_)
    obtain ⟨t0__4, nu__4, fp__4⟩ := u
    replace hP : va_P D classes [((a 0), .inr (8, (fX8 a (nI tx) fp__4 (nI t0__4) wd (nI we) nu__4 (nI t0__1) (nI rd) ts (nI ru) (nI rw) (nI ca) df db sd))), (aI k (a 5) 240 ftext)] H := hP
    replace hD : va_D A [((a 0), .inr (8, (fX8 a (nI tx) fp__4 (nI t0__4) wd (nI we) nu__4 (nI t0__1) (nI rd) ts (nI ru) (nI rw) (nI ca) df db sd))), (aI k (a 5) 240 ftext)] := hD
    try dsimp only at hw_4
    rcases hw_4 with ⟨⟨rfl, hq_5, hfp_5⟩ | ⟨rfl, pl_5, hq_5, rfl⟩ | ⟨rfl, pl_5, hq_5, rfl⟩, hw_4⟩
    · replace hfp_5 := hfp_5.symm
      subst hfp_5
      have hP9 := hP.sub (ws' := [((a 0), .inr (8, (fX8 a (nI tx) fp (nI t0__4) wd (nI we) nu__4 (nI t0__1) (nI rd) ts (nI ru) (nI rw) (nI ca) df db sd))), (aI k (a 5) 240 ftext)]) [0, 1] rfl
      have hD9 := hD.sub (ws' := [((a 0), .inr (8, (fX8 a (nI tx) fp (nI t0__4) wd (nI we) nu__4 (nI t0__1) (nI rd) ts (nI ru) (nI rw) (nI ca) df db sd))), (aI k (a 5) 240 ftext)]) [0, 1] (by decide) rfl
      exact W.iret (v := 0) hx hb hr (fun t ht hW => ⟨⟨0, (t0__4, nu__4, (nI t0__1), fp), rfl, ⟨_, rfl, .inl ⟨rfl, (by rw [← ex_3]; exact (nuR_B hw_1.2.1 c_2 hw_1.1).trans hq_5), rfl⟩, by omega, by omega⟩, by rw [ht]; exact hP9, hD9⟩, hS.F ht⟩) hS.2.2 dX8_takeSigned_55
    · have hP9 := hP.sub (ws' := [((a 0), .inr (8, (fX8 a (nI tx) (nI pl_5) (nI t0__4) wd (nI we) nu__4 (nI t0__1) (nI rd) ts (nI ru) (nI rw) (nI ca) df db sd))), (aI k (a 5) 240 ftext)]) [0, 1] rfl
      have hD9 := hD.sub (ws' := [((a 0), .inr (8, (fX8 a (nI tx) (nI pl_5) (nI t0__4) wd (nI we) nu__4 (nI t0__1) (nI rd) ts (nI ru) (nI rw) (nI ca) df db sd))), (aI k (a 5) 240 ftext)]) [0, 1] (by decide) rfl
      exact W.iret (v := 1) hx hb hr (fun t ht hW => ⟨⟨1, (t0__4, nu__4, (nI t0__1), (nI pl_5)), rfl, ⟨_, rfl, .inr (.inl ⟨rfl, _, (by rw [← ex_3]; exact (nuR_B hw_1.2.1 c_2 hw_1.1).trans hq_5), rfl⟩), by omega, by omega⟩, by rw [ht]; exact hP9, hD9⟩, hS.F ht⟩) hS.2.2 dX8_takeSigned_55
    · have hP9 := hP.sub (ws' := [((a 0), .inr (8, (fX8 a (nI tx) (nI pl_5) (nI t0__4) wd (nI we) nu__4 (nI t0__1) (nI rd) ts (nI ru) (nI rw) (nI ca) df db sd))), (aI k (a 5) 240 ftext)]) [0, 1] rfl
      have hD9 := hD.sub (ws' := [((a 0), .inr (8, (fX8 a (nI tx) (nI pl_5) (nI t0__4) wd (nI we) nu__4 (nI t0__1) (nI rd) ts (nI ru) (nI rw) (nI ca) df db sd))), (aI k (a 5) 240 ftext)]) [0, 1] (by decide) rfl
      exact W.iret (v := 2) hx hb hr (fun t ht hW => ⟨⟨2, (t0__4, nu__4, (nI t0__1), (nI pl_5)), rfl, ⟨_, rfl, .inr (.inr ⟨rfl, _, (by rw [← ex_3]; exact (nuR_B hw_1.2.1 c_2 hw_1.1).trans hq_5), rfl⟩), by omega, by omega⟩, by rw [ht]; exact hP9, hD9⟩, hS.F ht⟩) hS.2.2 dX8_takeSigned_55
  · have hlt_6 : t0__1 < tx := by rcases Nat.lt_or_ge (t0__1) tx with h | h; exact h; exact absurd (c_2.symm.trans (hw_1.2.1.trans (byF_out (by omega)))) (by decide)
    refine lv_iconst (v := 1) hx hb dX8_takeSigned_19 (by decide) ?_
    refine lv_goto (tgt := 24) hx hb dX8_takeSigned_20 (by decide) ?_
    refine lv_istore_n (lv' := [(3, .int 1), (2, .int r_1), (0, .ref (a 0)), (1, .int p0)]) hx hb dX8_takeSigned_24 rfl hl (by decide) rfl (fun ls hl => ?_)
    refine lv_aload_n hx hb dX8_takeSigned_25 rfl (lv_at hl 2 rfl) ?_
    refine lv_dup hx hb dX8_takeSigned_26 rfl ?_
    refine va_get (D := D) (ci := 8) (v := .int (nI t0__1)) (C := RX8) (T := TX8) (N := 44) hx hb hts inX8 hown hK hP 0 rfl rfl 7 (by decide) (hts _ tw_980) (fun _ h9 => h9) rfl dX8_takeSigned_27 ?_
    refine lv_iload_n hx hb dX8_takeSigned_30 rfl (lv_at hl 0 rfl) ?_
    refine lv_if_eq (tgt := 38) hx hb dX8_takeSigned_31 (by decide) (fun h => absurd h (by decide)) (fun _ => ?_)
    refine lv_iconst (v := 1) hx hb dX8_takeSigned_34 (by decide) ?_
    refine lv_goto (tgt := 39) hx hb dX8_takeSigned_35 (by decide) ?_
    refine lv_iadd hx hb dX8_takeSigned_39 ?_
    refine lv_ti (y := (nI (t0__1 + 1))) (nI_add t0__1 1) ?_
    refine va_put (D := D) (ci := 8) (v := .int (nI (t0__1 + 1))) (ty := .int) (C := RX8) (T := TX8) (N := 44) hx hb hts inX8 tyX8 tyX8_ok nmX8 hown hK hP hD hS 0 rfl rfl 7 (by decide) (hts _ tw_980) (fun _ h9 => h9) rfl (by decide +kernel) rfl rfl (Nat.le_of_ble_eq_true rfl) dX8_takeSigned_40 (fun H locs hP hD hS => ?_)
    replace hP : va_P D classes [((a 0), .inr (8, (fX8 a (nI tx) fp (nI (t0__1 + 1)) wd (nI we) nu (nI t0__1) (nI rd) ts (nI ru) (nI rw) (nI ca) df db sd))), (aI k (a 5) 240 ftext)] H := hP
    replace hD : va_D A [((a 0), .inr (8, (fX8 a (nI tx) fp (nI (t0__1 + 1)) wd (nI we) nu (nI t0__1) (nI rd) ts (nI ru) (nI rw) (nI ca) df db sd))), (aI k (a 5) 240 ftext)] := hD
    refine lv_aload_n hx hb dX8_takeSigned_43 rfl (lv_at hl 2 rfl) ?_
    refine lv_aload_n hx hb dX8_takeSigned_44 rfl (lv_at hl 2 rfl) ?_
    refine va_get (D := D) (ci := 8) (v := .int (nI t0__1)) (C := RX8) (T := TX8) (N := 44) hx hb hts inX8 hown hK hP 0 rfl rfl 11 (by decide) (hts _ tw_984) (fun _ h9 => h9) rfl dX8_takeSigned_45 ?_
    refine lv_iload_n hx hb dX8_takeSigned_48 rfl (lv_at hl 3 rfl) ?_
    refine lv_ineg hx hb dX8_takeSigned_49 ?_
    refine lv_topi (fun x_7 ex_7 => ?_)
    refine lv_iload_n hx hb dX8_takeSigned_50 rfl (lv_at hl 3 rfl) ?_
    refine lv_iload_n hx hb dX8_takeSigned_51 rfl (lv_at hl 0 rfl) ?_
    refine rw_i (D := D) (wr := []) (va_runV (As := [.int (nI t0__1), .int x_7, .int p0, .int 1]) (rest := []) ⟨hx, hb, hml, hown, hts⟩ ((n_takeFigures_1 l D k st lo a tx (t0__1 + 1) we rd ru rw ca fp wd nu (nI t0__1) ts df db sd ftext t0__1 x_7 p0 (by first | assumption | omega) (by first | assumption | omega)) H.size) (cwV 4 hts (gV tw_1165 tw_1167 tw_34 tw_87 tw_1168) rfl rfl rfl (by decide +kernel) ⟨Nat.le_of_ble_eq_true rfl, Nat.le_of_ble_eq_true rfl⟩) (pV hS hAlo hlo hP hK (va_Dlo hD hAlo) hZ [0, 1] (by decide) rfl (ci := 8) (q := (RX8, TX8, 44)) (q0 := 0) rfl rfl) rfl rfl hl.1 rfl (lv_room (Nat.le_of_ble_eq_true rfl)) dX8_takeSigned_52 ⟨Nat.le_of_ble_eq_true rfl, Nat.le_of_ble_eq_true rfl⟩) hS hA hP hD [0, 1] [] rfl rfl (by decide) (by decide) (fun r_8 u H locs hw_8 hP hD hS => ?_)
    obtain ⟨t0__8, nu__8, fp__8⟩ := u
    replace hP : va_P D classes [((a 0), .inr (8, (fX8 a (nI tx) fp__8 (nI t0__8) wd (nI we) nu__8 (nI t0__1) (nI rd) ts (nI ru) (nI rw) (nI ca) df db sd))), (aI k (a 5) 240 ftext)] H := hP
    replace hD : va_D A [((a 0), .inr (8, (fX8 a (nI tx) fp__8 (nI t0__8) wd (nI we) nu__8 (nI t0__1) (nI rd) ts (nI ru) (nI rw) (nI ca) df db sd))), (aI k (a 5) 240 ftext)] := hD
    try dsimp only at hw_8
    rcases hw_8 with ⟨⟨rfl, hq_9, hfp_9⟩ | ⟨rfl, pl_9, hq_9, rfl⟩ | ⟨rfl, pl_9, hq_9, rfl⟩, hw_8⟩
    · replace hfp_9 := hfp_9.symm
      subst hfp_9
      have hP9 := hP.sub (ws' := [((a 0), .inr (8, (fX8 a (nI tx) fp (nI t0__8) wd (nI we) nu__8 (nI t0__1) (nI rd) ts (nI ru) (nI rw) (nI ca) df db sd))), (aI k (a 5) 240 ftext)]) [0, 1] rfl
      have hD9 := hD.sub (ws' := [((a 0), .inr (8, (fX8 a (nI tx) fp (nI t0__8) wd (nI we) nu__8 (nI t0__1) (nI rd) ts (nI ru) (nI rw) (nI ca) df db sd))), (aI k (a 5) 240 ftext)]) [0, 1] (by decide) rfl
      exact W.iret (v := 0) hx hb hr (fun t ht hW => ⟨⟨0, (t0__8, nu__8, (nI t0__1), fp), rfl, ⟨_, rfl, .inl ⟨rfl, (by rw [← ex_7]; exact (nuR_T hw_1.2.1 c_2 hw_1.1).trans hq_9), rfl⟩, by omega, by omega⟩, by rw [ht]; exact hP9, hD9⟩, hS.F ht⟩) hS.2.2 dX8_takeSigned_55
    · have hP9 := hP.sub (ws' := [((a 0), .inr (8, (fX8 a (nI tx) (nI pl_9) (nI t0__8) wd (nI we) nu__8 (nI t0__1) (nI rd) ts (nI ru) (nI rw) (nI ca) df db sd))), (aI k (a 5) 240 ftext)]) [0, 1] rfl
      have hD9 := hD.sub (ws' := [((a 0), .inr (8, (fX8 a (nI tx) (nI pl_9) (nI t0__8) wd (nI we) nu__8 (nI t0__1) (nI rd) ts (nI ru) (nI rw) (nI ca) df db sd))), (aI k (a 5) 240 ftext)]) [0, 1] (by decide) rfl
      exact W.iret (v := 1) hx hb hr (fun t ht hW => ⟨⟨1, (t0__8, nu__8, (nI t0__1), (nI pl_9)), rfl, ⟨_, rfl, .inr (.inl ⟨rfl, _, (by rw [← ex_7]; exact (nuR_T hw_1.2.1 c_2 hw_1.1).trans hq_9), rfl⟩), by omega, by omega⟩, by rw [ht]; exact hP9, hD9⟩, hS.F ht⟩) hS.2.2 dX8_takeSigned_55
    · have hP9 := hP.sub (ws' := [((a 0), .inr (8, (fX8 a (nI tx) (nI pl_9) (nI t0__8) wd (nI we) nu__8 (nI t0__1) (nI rd) ts (nI ru) (nI rw) (nI ca) df db sd))), (aI k (a 5) 240 ftext)]) [0, 1] rfl
      have hD9 := hD.sub (ws' := [((a 0), .inr (8, (fX8 a (nI tx) (nI pl_9) (nI t0__8) wd (nI we) nu__8 (nI t0__1) (nI rd) ts (nI ru) (nI rw) (nI ca) df db sd))), (aI k (a 5) 240 ftext)]) [0, 1] (by decide) rfl
      exact W.iret (v := 2) hx hb hr (fun t ht hW => ⟨⟨2, (t0__8, nu__8, (nI t0__1), (nI pl_9)), rfl, ⟨_, rfl, .inr (.inr ⟨rfl, _, (by rw [← ex_7]; exact (nuR_T hw_1.2.1 c_2 hw_1.1).trans hq_9), rfl⟩), by omega, by omega⟩, by rw [ht]; exact hP9, hD9⟩, hS.F ht⟩) hS.2.2 dX8_takeSigned_55


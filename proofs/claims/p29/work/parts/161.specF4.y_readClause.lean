
set_option maxHeartbeats 4000000 in
set_option maxRecDepth 100000 in
theorem y_readClause (l : Launch) (D : va_G) (k : Nat → ClassId) (st : Nat → Nat) (lo : Nat) (h0 : Nat) (h1 : Nat) (h2 : Nat) (h3 : Nat) (h4 : Nat) (n : Nat) (see : Nat) (tm : Nat) (g : Nat → Int32) (x0 : Nat) (x1 : Nat) (tz : Nat) (ta : Nat) (na : Int32) (fn : Int32) (fb : Int32) (fx : Nat → Int32) (cl : Nat) (ht : ta ≤ tz) (hz : tz ≤ 240) (hsee : see ≤ 2) (htm9 : tm ≤ 3) (hcl : 1 ≤ cl ∧ cl ≤ 9 ∧ cl ≠ 8) (hf0 : fn = 0) : CWv l D k st lo yX5_readClause cX5_readClause 3 none ({ frames := 6, cells := 0, slots := 0, locals := 129 }) 0 0 [.ref h0, .ref x0, .int (nI cl)] [(h0, .inr (5, (fX5 h1 h2 h3 h4))), (aI k h1 10 (vv n see tm g)), (x0, .inr (6, (fX6 x1 (nI tz) (nI ta) na fn fb))), (aB k x1 240 fx)] (fun (u : Nat × Nat × (Nat → Int32) × Nat × Int32 × Int32 × Int32) => match u with | (see_, tm_, g_, ta_, na_, fn_, fb_) => ((fn_ = 0 ∧ ∃ v v2 : Int32, siC (bF fx) tz cl ta = (0, 0, ta_, v, v2) ∧ vv n see_ tm_ g_ = if cl = 7 then upd (upd (vv n see tm g) 7 v) 8 v2 else upd (vv n see tm g) cl v) ∨ (∃ e pl : Nat, fn_ = nI e ∧ 1 ≤ e ∧ e ≤ 4 ∧ (siC (bF fx) tz cl ta).1 = e ∧ (siC (bF fx) tz cl ta).2.1 = pl ∧ fb_ = nI pl)) ∧ see_ ≤ 2 ∧ tm_ ≤ 3 ∧ ta ≤ ta_ ∧ ta_ ≤ tz) (fun (u : Nat × Nat × (Nat → Int32) × Nat × Int32 × Int32 × Int32) => match u with | (see_, tm_, g_, ta_, na_, fn_, fb_) => [(h0, .inr (5, (fX5 h1 h2 h3 h4))), (aI k h1 10 (vv n see_ tm_ g_)), (x0, .inr (6, (fX6 x1 (nI tz) (nI ta_) na_ fn_ fb_))), (aB k x1 240 fx)]) := by
  intro sz
  refine Met.ofW (cc := cX5_readClause) (maxL := 3) (ret := none) (by decide) rfl ?_
  intro p e s m args below meth c s₁ B hml hv
  obtain ⟨rfl, hsz, hlo, hP, hK, hDL, hZ⟩ := hv
  have hx := B.exec
  have hb := B.bytes
  have hr := B.returns
  have hts := WS_ts B.pre
  have hown : s.vm.findClass RX5 = some m.cls := findClass_of_methodNamed B.named
  have hlocks := B.notSynchronized
  subst hsz
  have hD := hDL.self (sz := s.heap.size)
  have hAlo := A_lo hDL hlo
  generalize hAe : va_A [(h0, .inr (5, (fX5 h1 h2 h3 h4))), (aI k h1 10 (vv n see tm g)), (x0, .inr (6, (fX6 x1 (nI tz) (nI ta) na fn fb))), (aB k x1 240 fx)] s.heap.size = A at hD hAlo ⊢
  have hA : ∀ q : Nat, s.heap.size ≤ q → A q := fun q h => by rw [← hAe]; exact Or.inr h
  have hS : va_S A s.heap s.heap [] := va_S.rf
  have hl := lv_entry ([.ref h0, .ref x0, .int (nI cl)]) (n := 3) (Nat.le_of_ble_eq_true rfl)
  rw [lg_entry_eq]
  generalize (lg_sl ([.ref h0, .ref x0, .int (nI cl)]) ++ List.replicate (3 - (lg_sl ([.ref h0, .ref x0, .int (nI cl)])).length) Slot.unset).toArray = ls at hl ⊢
  have hl : lv_has ls 3 [(0, .ref h0), (1, .ref x0), (2, .int (nI cl))] := hl
  subst hf0
  rcases clsplit hcl with rfl | rfl | rfl | rfl | rfl | rfl | rfl | rfl
  · refine lv_aload_n hx hb dX5_readClause_0 rfl (lv_at hl 0 rfl) ?_
    refine va_get (D := D) (ci := 5) (v := .ref h1) (C := RX5) (T := TX5) (N := 4) hx hb hts inX5 hown hK hP 0 rfl rfl 0 (by decide) (hts _ tw_146) (fun _ h9 => h9) rfl dX5_readClause_1 ?_
    refine lv_iload_n hx hb dX5_readClause_4 rfl (lv_at hl 2 rfl) ?_
    refine lv_aload_n hx hb dX5_readClause_5 rfl (lv_at hl 1 rfl) ?_
    refine va_getsN (A := A) hx hb (hZ.2.2.2.2.1.narrow hAlo) hS hown ((hZ.2.2.2.2.2.2.2.2.1.2.1 (RX5, 106, "LastPlace", "LEAST", "[I", RX7) (List.mem_of_getElem? (i := 1) rfl)).use rfl) (fun _ h9 => h9) dX5_readClause_6 ?_
    refine lv_iload_n hx hb dX5_readClause_9 rfl (lv_at hl 2 rfl) ?_
    refine va_ti (A := A) hx hb (hZ.2.2.2.2.2.1.narrow hAlo) hS (i := 1) (by unfold vp_in; decide) (v := .int (-50)) rfl dX5_readClause_10 ?_
    refine va_getsN (A := A) hx hb (hZ.2.2.1.narrow hAlo) hS hown ((hZ.2.2.2.2.2.2.2.2.1.2.1 (RX5, 109, "LastPlace", "MOST", "[I", RX7) (List.mem_of_getElem? (i := 2) rfl)).use rfl) (fun _ h9 => h9) dX5_readClause_11 ?_
    refine lv_iload_n hx hb dX5_readClause_14 rfl (lv_at hl 2 rfl) ?_
    refine va_ti (A := A) hx hb (hZ.2.2.2.1.narrow hAlo) hS (i := 1) (by unfold vp_in; decide) (v := .int 50) rfl dX5_readClause_15 ?_
    refine rw_i (D := D) (wr := [(h0, .inr (5, (fX5 h1 h2 h3 h4))), (aI k h1 10 (vv n see tm g))]) (va_runV (As := [.int (-50), .int 50]) (rest := [.int 1, .ref h1]) ⟨hx, hb, hml, hown, hts⟩ ((y_needNumber l D k st lo x0 x1 tz ta na 0 fb fx (-50) 50 (by first | assumption | omega) (by first | assumption | omega) (by decide)) s.heap.size) (cwV 2 hts (gV tw_467 tw_468 tw_469 tw_80 tw_470) rfl rfl rfl (by decide +kernel) ⟨Nat.le_of_ble_eq_true rfl, Nat.le_of_ble_eq_true rfl⟩) (pV hS hAlo hlo hP hK (va_Dlo hD hAlo) hZ [2, 3] (by decide) rfl (ci := 6) (q := (RX6, TX6, 6)) (q0 := 0) rfl rfl) rfl rfl hl.1 rfl (lv_room (Nat.le_of_ble_eq_true rfl)) dX5_readClause_16 ⟨Nat.le_of_ble_eq_true rfl, Nat.le_of_ble_eq_true rfl⟩) hS hA hP hD [2, 3] [0, 1] rfl rfl (by decide) (by decide) (fun r_1 u H locs hw_1 hP hD hS => ?_)
    obtain ⟨ta__1, na__1, fn__1, fb__1⟩ := u
    replace hP : va_P D classes [(h0, .inr (5, (fX5 h1 h2 h3 h4))), (aI k h1 10 (vv n see tm g)), (x0, .inr (6, (fX6 x1 (nI tz) (nI ta__1) na__1 fn__1 fb__1))), (aB k x1 240 fx)] H := hP
    replace hD : va_D A [(h0, .inr (5, (fX5 h1 h2 h3 h4))), (aI k h1 10 (vv n see tm g)), (x0, .inr (6, (fX6 x1 (nI tz) (nI ta__1) na__1 fn__1 fb__1))), (aB k x1 240 fx)] := hD
    try dsimp only at hw_1
    obtain ⟨pl_2, nq_2, rfl, hq_2⟩ := hw_1.2.1 rfl
    rw [show decide (((-50) : Int32) < 0) = true from by decide] at hq_2
    rcases hq_2 with ⟨rfl, hq_2⟩ | ⟨rfl, hr_2, rfl, hq_2⟩ | ⟨rfl, hr_2, rfl, hq_2⟩
    · refine va_iast hx hb hK hP hD hS 1 1 rfl rfl (by unfold vp_in; decide) dX5_readClause_19 (fun H locs hP hD hS => ?_)
      replace hP : va_P D classes [(h0, .inr (5, (fX5 h1 h2 h3 h4))), (aI k h1 10 (upd (vv n see tm g) (Int32.toNatClampNeg 1) r_1)), (x0, .inr (6, (fX6 x1 (nI tz) (nI ta__1) (nI nq_2) 0 fb__1))), (aB k x1 240 fx)] H := hP
      replace hD : va_D A [(h0, .inr (5, (fX5 h1 h2 h3 h4))), (aI k h1 10 (upd (vv n see tm g) (Int32.toNatClampNeg 1) r_1)), (x0, .inr (6, (fX6 x1 (nI tz) (nI ta__1) (nI nq_2) 0 fb__1))), (aB k x1 240 fx)] := hD
      rw [show upd (vv n see tm g) (Int32.toNatClampNeg 1) r_1 = vv n see tm (upd g 1 r_1) from vv_upd _ _ _ _ _ _ (by decide) (by decide) (by decide)] at hP hD
      obtain ⟨gg_4, hgg_4⟩ : ∃ z : Nat → Int32, z = upd g 1 r_1 := ⟨_, rfl⟩
      rw [← hgg_4] at hP hD
      replace hP : va_P D classes [(h0, .inr (5, (fX5 h1 h2 h3 h4))), (aI k h1 10 (vv n see tm gg_4)), (x0, .inr (6, (fX6 x1 (nI tz) (nI ta__1) (nI nq_2) 0 fb__1))), (aB k x1 240 fx)] H := hP
      replace hD : va_D A [(h0, .inr (5, (fX5 h1 h2 h3 h4))), (aI k h1 10 (vv n see tm gg_4)), (x0, .inr (6, (fX6 x1 (nI tz) (nI ta__1) (nI nq_2) 0 fb__1))), (aB k x1 240 fx)] := hD
      refine lv_iload_n hx hb dX5_readClause_20 rfl (lv_at hl 2 rfl) ?_
      refine lv_bipush (v := 7) hx hb dX5_readClause_21 (by decide) ?_
      refine lv_icmp_ne (tgt := 58) hx hb dX5_readClause_23 (by decide) (fun _ => ?_) (fun h => absurd h (by decide))
      refine lv_aload_n hx hb dX5_readClause_58 rfl (lv_at hl 1 rfl) ?_
      refine rw_v (D := D) (wr := [(h0, .inr (5, (fX5 h1 h2 h3 h4))), (aI k h1 10 (vv n see tm gg_4))]) (va_runV (As := []) (rest := []) ⟨hx, hb, hml, hown, hts⟩ ((y_needSemicolon l D k st lo x0 x1 tz ta__1 (nI nq_2) 0 fb__1 fx (by first | assumption | omega) (by first | assumption | omega)) H.size) (cwV 0 hts (gV tw_488 tw_489 tw_490 tw_80 tw_491) rfl rfl rfl (by decide +kernel) ⟨Nat.le_of_ble_eq_true rfl, Nat.le_of_ble_eq_true rfl⟩) (pV hS hAlo hlo hP hK (va_Dlo hD hAlo) hZ [2, 3] (by decide) rfl (ci := 6) (q := (RX6, TX6, 6)) (q0 := 0) rfl rfl) rfl rfl hl.1 rfl (lv_room (Nat.le_of_ble_eq_true rfl)) dX5_readClause_59 ⟨Nat.le_of_ble_eq_true rfl, Nat.le_of_ble_eq_true rfl⟩) hS hA hP hD [2, 3] [0, 1] rfl rfl (by decide) (by decide) (fun u H locs hw_5 hP hD hS => ?_)
      obtain ⟨ta__5, fn__5, fb__5⟩ := u
      replace hP : va_P D classes [(h0, .inr (5, (fX5 h1 h2 h3 h4))), (aI k h1 10 (vv n see tm gg_4)), (x0, .inr (6, (fX6 x1 (nI tz) (nI ta__5) (nI nq_2) fn__5 fb__5))), (aB k x1 240 fx)] H := hP
      replace hD : va_D A [(h0, .inr (5, (fX5 h1 h2 h3 h4))), (aI k h1 10 (vv n see tm gg_4)), (x0, .inr (6, (fX6 x1 (nI tz) (nI ta__5) (nI nq_2) fn__5 fb__5))), (aB k x1 240 fx)] := hD
      try dsimp only at hw_5
      rcases hw_5.2.1 rfl with ⟨rfl, hq_6⟩ | ⟨rfl, pl_6, hq_6, rfl⟩
      · have hP9 := hP.sub (ws' := [(h0, .inr (5, (fX5 h1 h2 h3 h4))), (aI k h1 10 (vv n see tm gg_4)), (x0, .inr (6, (fX6 x1 (nI tz) (nI ta__5) (nI nq_2) 0 fb__5))), (aB k x1 240 fx)]) [0, 1, 2, 3] rfl
        have hD9 := hD.sub (ws' := [(h0, .inr (5, (fX5 h1 h2 h3 h4))), (aI k h1 10 (vv n see tm gg_4)), (x0, .inr (6, (fX6 x1 (nI tz) (nI ta__5) (nI nq_2) 0 fb__5))), (aB k x1 240 fx)]) [0, 1, 2, 3] (by decide) rfl
        exact W.vret hx hb hr (fun t ht hW => ⟨⟨(see, tm, gg_4, ta__5, (nI nq_2), 0, fb__5), rfl, ⟨.inl ⟨rfl, r_1, 0, (by simp [siC, siF, hq_2, hq_6, (show zLE 1 = -50 from rfl), (show zMO 1 = 50 from rfl), (show decide ((1 : Nat) = 1) = true from rfl), -List.getD_eq_getElem?_getD]), by rw [if_neg (by decide), vv_upd _ _ _ _ 1 _ (by decide) (by decide) (by decide), hgg_4]⟩, by omega, by omega, by omega, by omega⟩, by rw [ht]; exact hP9, hD9⟩, hS.F ht⟩) hS.2.2 dX5_readClause_62
      · have hP9 := hP.sub (ws' := [(h0, .inr (5, (fX5 h1 h2 h3 h4))), (aI k h1 10 (vv n see tm gg_4)), (x0, .inr (6, (fX6 x1 (nI tz) (nI ta__5) (nI nq_2) 1 (nI pl_6)))), (aB k x1 240 fx)]) [0, 1, 2, 3] rfl
        have hD9 := hD.sub (ws' := [(h0, .inr (5, (fX5 h1 h2 h3 h4))), (aI k h1 10 (vv n see tm gg_4)), (x0, .inr (6, (fX6 x1 (nI tz) (nI ta__5) (nI nq_2) 1 (nI pl_6)))), (aB k x1 240 fx)]) [0, 1, 2, 3] (by decide) rfl
        exact W.vret hx hb hr (fun t ht hW => ⟨⟨(see, tm, gg_4, ta__5, (nI nq_2), 1, (nI pl_6)), rfl, ⟨.inr ⟨1, pl_6, rfl, by decide, by decide, by simp [siC, siF, hq_2, hq_6, (show zLE 1 = -50 from rfl), (show zMO 1 = 50 from rfl), (show decide ((1 : Nat) = 1) = true from rfl), -List.getD_eq_getElem?_getD], by simp [siC, siF, hq_2, hq_6, (show zLE 1 = -50 from rfl), (show zMO 1 = 50 from rfl), (show decide ((1 : Nat) = 1) = true from rfl), -List.getD_eq_getElem?_getD], rfl⟩, by omega, by omega, by omega, by omega⟩, by rw [ht]; exact hP9, hD9⟩, hS.F ht⟩) hS.2.2 dX5_readClause_62
    · refine va_iast hx hb hK hP hD hS 1 1 rfl rfl (by unfold vp_in; decide) dX5_readClause_19 (fun H locs hP hD hS => ?_)
      replace hP : va_P D classes [(h0, .inr (5, (fX5 h1 h2 h3 h4))), (aI k h1 10 (upd (vv n see tm g) (Int32.toNatClampNeg 1) r_1)), (x0, .inr (6, (fX6 x1 (nI tz) (nI ta__1) (nI nq_2) 1 (nI pl_2)))), (aB k x1 240 fx)] H := hP
      replace hD : va_D A [(h0, .inr (5, (fX5 h1 h2 h3 h4))), (aI k h1 10 (upd (vv n see tm g) (Int32.toNatClampNeg 1) r_1)), (x0, .inr (6, (fX6 x1 (nI tz) (nI ta__1) (nI nq_2) 1 (nI pl_2)))), (aB k x1 240 fx)] := hD
      rw [show upd (vv n see tm g) (Int32.toNatClampNeg 1) r_1 = vv n see tm (upd g 1 r_1) from vv_upd _ _ _ _ _ _ (by decide) (by decide) (by decide)] at hP hD
      obtain ⟨gg_8, hgg_8⟩ : ∃ z : Nat → Int32, z = upd g 1 r_1 := ⟨_, rfl⟩
      rw [← hgg_8] at hP hD
      replace hP : va_P D classes [(h0, .inr (5, (fX5 h1 h2 h3 h4))), (aI k h1 10 (vv n see tm gg_8)), (x0, .inr (6, (fX6 x1 (nI tz) (nI ta__1) (nI nq_2) 1 (nI pl_2)))), (aB k x1 240 fx)] H := hP
      replace hD : va_D A [(h0, .inr (5, (fX5 h1 h2 h3 h4))), (aI k h1 10 (vv n see tm gg_8)), (x0, .inr (6, (fX6 x1 (nI tz) (nI ta__1) (nI nq_2) 1 (nI pl_2)))), (aB k x1 240 fx)] := hD
      refine lv_iload_n hx hb dX5_readClause_20 rfl (lv_at hl 2 rfl) ?_
      refine lv_bipush (v := 7) hx hb dX5_readClause_21 (by decide) ?_
      refine lv_icmp_ne (tgt := 58) hx hb dX5_readClause_23 (by decide) (fun _ => ?_) (fun h => absurd h (by decide))
      refine lv_aload_n hx hb dX5_readClause_58 rfl (lv_at hl 1 rfl) ?_
      refine rw_v (D := D) (wr := [(h0, .inr (5, (fX5 h1 h2 h3 h4))), (aI k h1 10 (vv n see tm gg_8))]) (va_runV (As := []) (rest := []) ⟨hx, hb, hml, hown, hts⟩ ((y_needSemicolon l D k st lo x0 x1 tz ta__1 (nI nq_2) 1 (nI pl_2) fx (by first | assumption | omega) (by first | assumption | omega)) H.size) (cwV 0 hts (gV tw_488 tw_489 tw_490 tw_80 tw_491) rfl rfl rfl (by decide +kernel) ⟨Nat.le_of_ble_eq_true rfl, Nat.le_of_ble_eq_true rfl⟩) (pV hS hAlo hlo hP hK (va_Dlo hD hAlo) hZ [2, 3] (by decide) rfl (ci := 6) (q := (RX6, TX6, 6)) (q0 := 0) rfl rfl) rfl rfl hl.1 rfl (lv_room (Nat.le_of_ble_eq_true rfl)) dX5_readClause_59 ⟨Nat.le_of_ble_eq_true rfl, Nat.le_of_ble_eq_true rfl⟩) hS hA hP hD [2, 3] [0, 1] rfl rfl (by decide) (by decide) (fun u H locs hw_9 hP hD hS => ?_)
      obtain ⟨ta__9, fn__9, fb__9⟩ := u
      replace hP : va_P D classes [(h0, .inr (5, (fX5 h1 h2 h3 h4))), (aI k h1 10 (vv n see tm gg_8)), (x0, .inr (6, (fX6 x1 (nI tz) (nI ta__9) (nI nq_2) fn__9 fb__9))), (aB k x1 240 fx)] H := hP
      replace hD : va_D A [(h0, .inr (5, (fX5 h1 h2 h3 h4))), (aI k h1 10 (vv n see tm gg_8)), (x0, .inr (6, (fX6 x1 (nI tz) (nI ta__9) (nI nq_2) fn__9 fb__9))), (aB k x1 240 fx)] := hD
      try dsimp only at hw_9
      obtain ⟨hs0_10, hs1_10⟩ := hw_9.1 (by decide)
      replace hs0_10 := hs0_10.symm
      subst hs0_10
      replace hs1_10 := hs1_10.symm
      subst hs1_10
      have hP9 := hP.sub (ws' := [(h0, .inr (5, (fX5 h1 h2 h3 h4))), (aI k h1 10 (vv n see tm gg_8)), (x0, .inr (6, (fX6 x1 (nI tz) (nI ta__9) (nI nq_2) 1 (nI pl_2)))), (aB k x1 240 fx)]) [0, 1, 2, 3] rfl
      have hD9 := hD.sub (ws' := [(h0, .inr (5, (fX5 h1 h2 h3 h4))), (aI k h1 10 (vv n see tm gg_8)), (x0, .inr (6, (fX6 x1 (nI tz) (nI ta__9) (nI nq_2) 1 (nI pl_2)))), (aB k x1 240 fx)]) [0, 1, 2, 3] (by decide) rfl
      exact W.vret hx hb hr (fun t ht hW => ⟨⟨(see, tm, gg_8, ta__9, (nI nq_2), 1, (nI pl_2)), rfl, ⟨.inr ⟨1, pl_2, rfl, by decide, by decide, by simp [siC, siF, hq_2, (show zLE 1 = -50 from rfl), (show zMO 1 = 50 from rfl), (show decide ((1 : Nat) = 1) = true from rfl), -List.getD_eq_getElem?_getD], by simp [siC, siF, hq_2, (show zLE 1 = -50 from rfl), (show zMO 1 = 50 from rfl), (show decide ((1 : Nat) = 1) = true from rfl), -List.getD_eq_getElem?_getD], rfl⟩, by omega, by omega, by omega, by omega⟩, by rw [ht]; exact hP9, hD9⟩, hS.F ht⟩) hS.2.2 dX5_readClause_62
    · refine va_iast hx hb hK hP hD hS 1 1 rfl rfl (by unfold vp_in; decide) dX5_readClause_19 (fun H locs hP hD hS => ?_)
      replace hP : va_P D classes [(h0, .inr (5, (fX5 h1 h2 h3 h4))), (aI k h1 10 (upd (vv n see tm g) (Int32.toNatClampNeg 1) r_1)), (x0, .inr (6, (fX6 x1 (nI tz) (nI ta__1) (nI nq_2) 2 (nI pl_2)))), (aB k x1 240 fx)] H := hP
      replace hD : va_D A [(h0, .inr (5, (fX5 h1 h2 h3 h4))), (aI k h1 10 (upd (vv n see tm g) (Int32.toNatClampNeg 1) r_1)), (x0, .inr (6, (fX6 x1 (nI tz) (nI ta__1) (nI nq_2) 2 (nI pl_2)))), (aB k x1 240 fx)] := hD
      rw [show upd (vv n see tm g) (Int32.toNatClampNeg 1) r_1 = vv n see tm (upd g 1 r_1) from vv_upd _ _ _ _ _ _ (by decide) (by decide) (by decide)] at hP hD
      obtain ⟨gg_12, hgg_12⟩ : ∃ z : Nat → Int32, z = upd g 1 r_1 := ⟨_, rfl⟩
      rw [← hgg_12] at hP hD
      replace hP : va_P D classes [(h0, .inr (5, (fX5 h1 h2 h3 h4))), (aI k h1 10 (vv n see tm gg_12)), (x0, .inr (6, (fX6 x1 (nI tz) (nI ta__1) (nI nq_2) 2 (nI pl_2)))), (aB k x1 240 fx)] H := hP
      replace hD : va_D A [(h0, .inr (5, (fX5 h1 h2 h3 h4))), (aI k h1 10 (vv n see tm gg_12)), (x0, .inr (6, (fX6 x1 (nI tz) (nI ta__1) (nI nq_2) 2 (nI pl_2)))), (aB k x1 240 fx)] := hD
      refine lv_iload_n hx hb dX5_readClause_20 rfl (lv_at hl 2 rfl) ?_
      refine lv_bipush (v := 7) hx hb dX5_readClause_21 (by decide) ?_
      refine lv_icmp_ne (tgt := 58) hx hb dX5_readClause_23 (by decide) (fun _ => ?_) (fun h => absurd h (by decide))
      refine lv_aload_n hx hb dX5_readClause_58 rfl (lv_at hl 1 rfl) ?_
      refine rw_v (D := D) (wr := [(h0, .inr (5, (fX5 h1 h2 h3 h4))), (aI k h1 10 (vv n see tm gg_12))]) (va_runV (As := []) (rest := []) ⟨hx, hb, hml, hown, hts⟩ ((y_needSemicolon l D k st lo x0 x1 tz ta__1 (nI nq_2) 2 (nI pl_2) fx (by first | assumption | omega) (by first | assumption | omega)) H.size) (cwV 0 hts (gV tw_488 tw_489 tw_490 tw_80 tw_491) rfl rfl rfl (by decide +kernel) ⟨Nat.le_of_ble_eq_true rfl, Nat.le_of_ble_eq_true rfl⟩) (pV hS hAlo hlo hP hK (va_Dlo hD hAlo) hZ [2, 3] (by decide) rfl (ci := 6) (q := (RX6, TX6, 6)) (q0 := 0) rfl rfl) rfl rfl hl.1 rfl (lv_room (Nat.le_of_ble_eq_true rfl)) dX5_readClause_59 ⟨Nat.le_of_ble_eq_true rfl, Nat.le_of_ble_eq_true rfl⟩) hS hA hP hD [2, 3] [0, 1] rfl rfl (by decide) (by decide) (fun u H locs hw_13 hP hD hS => ?_)
      obtain ⟨ta__13, fn__13, fb__13⟩ := u
      replace hP : va_P D classes [(h0, .inr (5, (fX5 h1 h2 h3 h4))), (aI k h1 10 (vv n see tm gg_12)), (x0, .inr (6, (fX6 x1 (nI tz) (nI ta__13) (nI nq_2) fn__13 fb__13))), (aB k x1 240 fx)] H := hP
      replace hD : va_D A [(h0, .inr (5, (fX5 h1 h2 h3 h4))), (aI k h1 10 (vv n see tm gg_12)), (x0, .inr (6, (fX6 x1 (nI tz) (nI ta__13) (nI nq_2) fn__13 fb__13))), (aB k x1 240 fx)] := hD
      try dsimp only at hw_13
      obtain ⟨hs0_14, hs1_14⟩ := hw_13.1 (by decide)
      replace hs0_14 := hs0_14.symm
      subst hs0_14
      replace hs1_14 := hs1_14.symm
      subst hs1_14
      have hP9 := hP.sub (ws' := [(h0, .inr (5, (fX5 h1 h2 h3 h4))), (aI k h1 10 (vv n see tm gg_12)), (x0, .inr (6, (fX6 x1 (nI tz) (nI ta__13) (nI nq_2) 2 (nI pl_2)))), (aB k x1 240 fx)]) [0, 1, 2, 3] rfl
      have hD9 := hD.sub (ws' := [(h0, .inr (5, (fX5 h1 h2 h3 h4))), (aI k h1 10 (vv n see tm gg_12)), (x0, .inr (6, (fX6 x1 (nI tz) (nI ta__13) (nI nq_2) 2 (nI pl_2)))), (aB k x1 240 fx)]) [0, 1, 2, 3] (by decide) rfl
      exact W.vret hx hb hr (fun t ht hW => ⟨⟨(see, tm, gg_12, ta__13, (nI nq_2), 2, (nI pl_2)), rfl, ⟨.inr ⟨2, pl_2, rfl, by decide, by decide, by simp [siC, siF, hq_2, (show zLE 1 = -50 from rfl), (show zMO 1 = 50 from rfl), (show decide ((1 : Nat) = 1) = true from rfl), -List.getD_eq_getElem?_getD], by simp [siC, siF, hq_2, (show zLE 1 = -50 from rfl), (show zMO 1 = 50 from rfl), (show decide ((1 : Nat) = 1) = true from rfl), -List.getD_eq_getElem?_getD], rfl⟩, by omega, by omega, by omega, by omega⟩, by rw [ht]; exact hP9, hD9⟩, hS.F ht⟩) hS.2.2 dX5_readClause_62
  · refine lv_aload_n hx hb dX5_readClause_0 rfl (lv_at hl 0 rfl) ?_
    refine va_get (D := D) (ci := 5) (v := .ref h1) (C := RX5) (T := TX5) (N := 4) hx hb hts inX5 hown hK hP 0 rfl rfl 0 (by decide) (hts _ tw_146) (fun _ h9 => h9) rfl dX5_readClause_1 ?_
    refine lv_iload_n hx hb dX5_readClause_4 rfl (lv_at hl 2 rfl) ?_
    refine lv_aload_n hx hb dX5_readClause_5 rfl (lv_at hl 1 rfl) ?_
    refine va_getsN (A := A) hx hb (hZ.2.2.2.2.1.narrow hAlo) hS hown ((hZ.2.2.2.2.2.2.2.2.1.2.1 (RX5, 106, "LastPlace", "LEAST", "[I", RX7) (List.mem_of_getElem? (i := 1) rfl)).use rfl) (fun _ h9 => h9) dX5_readClause_6 ?_
    refine lv_iload_n hx hb dX5_readClause_9 rfl (lv_at hl 2 rfl) ?_
    refine va_ti (A := A) hx hb (hZ.2.2.2.2.2.1.narrow hAlo) hS (i := 2) (by unfold vp_in; decide) (v := .int 0) rfl dX5_readClause_10 ?_
    refine va_getsN (A := A) hx hb (hZ.2.2.1.narrow hAlo) hS hown ((hZ.2.2.2.2.2.2.2.2.1.2.1 (RX5, 109, "LastPlace", "MOST", "[I", RX7) (List.mem_of_getElem? (i := 2) rfl)).use rfl) (fun _ h9 => h9) dX5_readClause_11 ?_
    refine lv_iload_n hx hb dX5_readClause_14 rfl (lv_at hl 2 rfl) ?_
    refine va_ti (A := A) hx hb (hZ.2.2.2.1.narrow hAlo) hS (i := 2) (by unfold vp_in; decide) (v := .int 99) rfl dX5_readClause_15 ?_
    refine rw_i (D := D) (wr := [(h0, .inr (5, (fX5 h1 h2 h3 h4))), (aI k h1 10 (vv n see tm g))]) (va_runV (As := [.int 0, .int 99]) (rest := [.int 2, .ref h1]) ⟨hx, hb, hml, hown, hts⟩ ((y_needNumber l D k st lo x0 x1 tz ta na 0 fb fx 0 99 (by first | assumption | omega) (by first | assumption | omega) (by decide)) s.heap.size) (cwV 2 hts (gV tw_467 tw_468 tw_469 tw_80 tw_470) rfl rfl rfl (by decide +kernel) ⟨Nat.le_of_ble_eq_true rfl, Nat.le_of_ble_eq_true rfl⟩) (pV hS hAlo hlo hP hK (va_Dlo hD hAlo) hZ [2, 3] (by decide) rfl (ci := 6) (q := (RX6, TX6, 6)) (q0 := 0) rfl rfl) rfl rfl hl.1 rfl (lv_room (Nat.le_of_ble_eq_true rfl)) dX5_readClause_16 ⟨Nat.le_of_ble_eq_true rfl, Nat.le_of_ble_eq_true rfl⟩) hS hA hP hD [2, 3] [0, 1] rfl rfl (by decide) (by decide) (fun r_15 u H locs hw_15 hP hD hS => ?_)
    obtain ⟨ta__15, na__15, fn__15, fb__15⟩ := u
    replace hP : va_P D classes [(h0, .inr (5, (fX5 h1 h2 h3 h4))), (aI k h1 10 (vv n see tm g)), (x0, .inr (6, (fX6 x1 (nI tz) (nI ta__15) na__15 fn__15 fb__15))), (aB k x1 240 fx)] H := hP
    replace hD : va_D A [(h0, .inr (5, (fX5 h1 h2 h3 h4))), (aI k h1 10 (vv n see tm g)), (x0, .inr (6, (fX6 x1 (nI tz) (nI ta__15) na__15 fn__15 fb__15))), (aB k x1 240 fx)] := hD
    try dsimp only at hw_15
    obtain ⟨pl_16, nq_16, rfl, hq_16⟩ := hw_15.2.1 rfl
    rw [show decide ((0 : Int32) < 0) = false from by decide] at hq_16
    rcases hq_16 with ⟨rfl, hq_16⟩ | ⟨rfl, hr_16, rfl, hq_16⟩ | ⟨rfl, hr_16, rfl, hq_16⟩
    · refine va_iast hx hb hK hP hD hS 1 1 rfl rfl (by unfold vp_in; decide) dX5_readClause_19 (fun H locs hP hD hS => ?_)
      replace hP : va_P D classes [(h0, .inr (5, (fX5 h1 h2 h3 h4))), (aI k h1 10 (upd (vv n see tm g) (Int32.toNatClampNeg 2) r_15)), (x0, .inr (6, (fX6 x1 (nI tz) (nI ta__15) (nI nq_16) 0 fb__15))), (aB k x1 240 fx)] H := hP
      replace hD : va_D A [(h0, .inr (5, (fX5 h1 h2 h3 h4))), (aI k h1 10 (upd (vv n see tm g) (Int32.toNatClampNeg 2) r_15)), (x0, .inr (6, (fX6 x1 (nI tz) (nI ta__15) (nI nq_16) 0 fb__15))), (aB k x1 240 fx)] := hD
      rw [show upd (vv n see tm g) (Int32.toNatClampNeg 2) r_15 = vv n see tm (upd g 2 r_15) from vv_upd _ _ _ _ _ _ (by decide) (by decide) (by decide)] at hP hD
      obtain ⟨gg_18, hgg_18⟩ : ∃ z : Nat → Int32, z = upd g 2 r_15 := ⟨_, rfl⟩
      rw [← hgg_18] at hP hD
      replace hP : va_P D classes [(h0, .inr (5, (fX5 h1 h2 h3 h4))), (aI k h1 10 (vv n see tm gg_18)), (x0, .inr (6, (fX6 x1 (nI tz) (nI ta__15) (nI nq_16) 0 fb__15))), (aB k x1 240 fx)] H := hP
      replace hD : va_D A [(h0, .inr (5, (fX5 h1 h2 h3 h4))), (aI k h1 10 (vv n see tm gg_18)), (x0, .inr (6, (fX6 x1 (nI tz) (nI ta__15) (nI nq_16) 0 fb__15))), (aB k x1 240 fx)] := hD
      refine lv_iload_n hx hb dX5_readClause_20 rfl (lv_at hl 2 rfl) ?_
      refine lv_bipush (v := 7) hx hb dX5_readClause_21 (by decide) ?_
      refine lv_icmp_ne (tgt := 58) hx hb dX5_readClause_23 (by decide) (fun _ => ?_) (fun h => absurd h (by decide))
      refine lv_aload_n hx hb dX5_readClause_58 rfl (lv_at hl 1 rfl) ?_
      refine rw_v (D := D) (wr := [(h0, .inr (5, (fX5 h1 h2 h3 h4))), (aI k h1 10 (vv n see tm gg_18))]) (va_runV (As := []) (rest := []) ⟨hx, hb, hml, hown, hts⟩ ((y_needSemicolon l D k st lo x0 x1 tz ta__15 (nI nq_16) 0 fb__15 fx (by first | assumption | omega) (by first | assumption | omega)) H.size) (cwV 0 hts (gV tw_488 tw_489 tw_490 tw_80 tw_491) rfl rfl rfl (by decide +kernel) ⟨Nat.le_of_ble_eq_true rfl, Nat.le_of_ble_eq_true rfl⟩) (pV hS hAlo hlo hP hK (va_Dlo hD hAlo) hZ [2, 3] (by decide) rfl (ci := 6) (q := (RX6, TX6, 6)) (q0 := 0) rfl rfl) rfl rfl hl.1 rfl (lv_room (Nat.le_of_ble_eq_true rfl)) dX5_readClause_59 ⟨Nat.le_of_ble_eq_true rfl, Nat.le_of_ble_eq_true rfl⟩) hS hA hP hD [2, 3] [0, 1] rfl rfl (by decide) (by decide) (fun u H locs hw_19 hP hD hS => ?_)
      obtain ⟨ta__19, fn__19, fb__19⟩ := u
      replace hP : va_P D classes [(h0, .inr (5, (fX5 h1 h2 h3 h4))), (aI k h1 10 (vv n see tm gg_18)), (x0, .inr (6, (fX6 x1 (nI tz) (nI ta__19) (nI nq_16) fn__19 fb__19))), (aB k x1 240 fx)] H := hP
      replace hD : va_D A [(h0, .inr (5, (fX5 h1 h2 h3 h4))), (aI k h1 10 (vv n see tm gg_18)), (x0, .inr (6, (fX6 x1 (nI tz) (nI ta__19) (nI nq_16) fn__19 fb__19))), (aB k x1 240 fx)] := hD
      try dsimp only at hw_19
      rcases hw_19.2.1 rfl with ⟨rfl, hq_20⟩ | ⟨rfl, pl_20, hq_20, rfl⟩
      · have hP9 := hP.sub (ws' := [(h0, .inr (5, (fX5 h1 h2 h3 h4))), (aI k h1 10 (vv n see tm gg_18)), (x0, .inr (6, (fX6 x1 (nI tz) (nI ta__19) (nI nq_16) 0 fb__19))), (aB k x1 240 fx)]) [0, 1, 2, 3] rfl
        have hD9 := hD.sub (ws' := [(h0, .inr (5, (fX5 h1 h2 h3 h4))), (aI k h1 10 (vv n see tm gg_18)), (x0, .inr (6, (fX6 x1 (nI tz) (nI ta__19) (nI nq_16) 0 fb__19))), (aB k x1 240 fx)]) [0, 1, 2, 3] (by decide) rfl
        exact W.vret hx hb hr (fun t ht hW => ⟨⟨(see, tm, gg_18, ta__19, (nI nq_16), 0, fb__19), rfl, ⟨.inl ⟨rfl, r_15, 0, (by simp [siC, siF, hq_16, hq_20, (show zLE 2 = 0 from rfl), (show zMO 2 = 99 from rfl), (show decide ((2 : Nat) = 1) = false from rfl), -List.getD_eq_getElem?_getD]), by rw [if_neg (by decide), vv_upd _ _ _ _ 2 _ (by decide) (by decide) (by decide), hgg_18]⟩, by omega, by omega, by omega, by omega⟩, by rw [ht]; exact hP9, hD9⟩, hS.F ht⟩) hS.2.2 dX5_readClause_62
      · have hP9 := hP.sub (ws' := [(h0, .inr (5, (fX5 h1 h2 h3 h4))), (aI k h1 10 (vv n see tm gg_18)), (x0, .inr (6, (fX6 x1 (nI tz) (nI ta__19) (nI nq_16) 1 (nI pl_20)))), (aB k x1 240 fx)]) [0, 1, 2, 3] rfl
        have hD9 := hD.sub (ws' := [(h0, .inr (5, (fX5 h1 h2 h3 h4))), (aI k h1 10 (vv n see tm gg_18)), (x0, .inr (6, (fX6 x1 (nI tz) (nI ta__19) (nI nq_16) 1 (nI pl_20)))), (aB k x1 240 fx)]) [0, 1, 2, 3] (by decide) rfl
        exact W.vret hx hb hr (fun t ht hW => ⟨⟨(see, tm, gg_18, ta__19, (nI nq_16), 1, (nI pl_20)), rfl, ⟨.inr ⟨1, pl_20, rfl, by decide, by decide, by simp [siC, siF, hq_16, hq_20, (show zLE 2 = 0 from rfl), (show zMO 2 = 99 from rfl), (show decide ((2 : Nat) = 1) = false from rfl), -List.getD_eq_getElem?_getD], by simp [siC, siF, hq_16, hq_20, (show zLE 2 = 0 from rfl), (show zMO 2 = 99 from rfl), (show decide ((2 : Nat) = 1) = false from rfl), -List.getD_eq_getElem?_getD], rfl⟩, by omega, by omega, by omega, by omega⟩, by rw [ht]; exact hP9, hD9⟩, hS.F ht⟩) hS.2.2 dX5_readClause_62
    · refine va_iast hx hb hK hP hD hS 1 1 rfl rfl (by unfold vp_in; decide) dX5_readClause_19 (fun H locs hP hD hS => ?_)
      replace hP : va_P D classes [(h0, .inr (5, (fX5 h1 h2 h3 h4))), (aI k h1 10 (upd (vv n see tm g) (Int32.toNatClampNeg 2) r_15)), (x0, .inr (6, (fX6 x1 (nI tz) (nI ta__15) (nI nq_16) 1 (nI pl_16)))), (aB k x1 240 fx)] H := hP
      replace hD : va_D A [(h0, .inr (5, (fX5 h1 h2 h3 h4))), (aI k h1 10 (upd (vv n see tm g) (Int32.toNatClampNeg 2) r_15)), (x0, .inr (6, (fX6 x1 (nI tz) (nI ta__15) (nI nq_16) 1 (nI pl_16)))), (aB k x1 240 fx)] := hD
      rw [show upd (vv n see tm g) (Int32.toNatClampNeg 2) r_15 = vv n see tm (upd g 2 r_15) from vv_upd _ _ _ _ _ _ (by decide) (by decide) (by decide)] at hP hD
      obtain ⟨gg_22, hgg_22⟩ : ∃ z : Nat → Int32, z = upd g 2 r_15 := ⟨_, rfl⟩
      rw [← hgg_22] at hP hD
      replace hP : va_P D classes [(h0, .inr (5, (fX5 h1 h2 h3 h4))), (aI k h1 10 (vv n see tm gg_22)), (x0, .inr (6, (fX6 x1 (nI tz) (nI ta__15) (nI nq_16) 1 (nI pl_16)))), (aB k x1 240 fx)] H := hP
      replace hD : va_D A [(h0, .inr (5, (fX5 h1 h2 h3 h4))), (aI k h1 10 (vv n see tm gg_22)), (x0, .inr (6, (fX6 x1 (nI tz) (nI ta__15) (nI nq_16) 1 (nI pl_16)))), (aB k x1 240 fx)] := hD
      refine lv_iload_n hx hb dX5_readClause_20 rfl (lv_at hl 2 rfl) ?_
      refine lv_bipush (v := 7) hx hb dX5_readClause_21 (by decide) ?_
      refine lv_icmp_ne (tgt := 58) hx hb dX5_readClause_23 (by decide) (fun _ => ?_) (fun h => absurd h (by decide))
      refine lv_aload_n hx hb dX5_readClause_58 rfl (lv_at hl 1 rfl) ?_
      refine rw_v (D := D) (wr := [(h0, .inr (5, (fX5 h1 h2 h3 h4))), (aI k h1 10 (vv n see tm gg_22))]) (va_runV (As := []) (rest := []) ⟨hx, hb, hml, hown, hts⟩ ((y_needSemicolon l D k st lo x0 x1 tz ta__15 (nI nq_16) 1 (nI pl_16) fx (by first | assumption | omega) (by first | assumption | omega)) H.size) (cwV 0 hts (gV tw_488 tw_489 tw_490 tw_80 tw_491) rfl rfl rfl (by decide +kernel) ⟨Nat.le_of_ble_eq_true rfl, Nat.le_of_ble_eq_true rfl⟩) (pV hS hAlo hlo hP hK (va_Dlo hD hAlo) hZ [2, 3] (by decide) rfl (ci := 6) (q := (RX6, TX6, 6)) (q0 := 0) rfl rfl) rfl rfl hl.1 rfl (lv_room (Nat.le_of_ble_eq_true rfl)) dX5_readClause_59 ⟨Nat.le_of_ble_eq_true rfl, Nat.le_of_ble_eq_true rfl⟩) hS hA hP hD [2, 3] [0, 1] rfl rfl (by decide) (by decide) (fun u H locs hw_23 hP hD hS => ?_)
      obtain ⟨ta__23, fn__23, fb__23⟩ := u
      replace hP : va_P D classes [(h0, .inr (5, (fX5 h1 h2 h3 h4))), (aI k h1 10 (vv n see tm gg_22)), (x0, .inr (6, (fX6 x1 (nI tz) (nI ta__23) (nI nq_16) fn__23 fb__23))), (aB k x1 240 fx)] H := hP
      replace hD : va_D A [(h0, .inr (5, (fX5 h1 h2 h3 h4))), (aI k h1 10 (vv n see tm gg_22)), (x0, .inr (6, (fX6 x1 (nI tz) (nI ta__23) (nI nq_16) fn__23 fb__23))), (aB k x1 240 fx)] := hD
      try dsimp only at hw_23
      obtain ⟨hs0_24, hs1_24⟩ := hw_23.1 (by decide)
      replace hs0_24 := hs0_24.symm
      subst hs0_24
      replace hs1_24 := hs1_24.symm
      subst hs1_24
      have hP9 := hP.sub (ws' := [(h0, .inr (5, (fX5 h1 h2 h3 h4))), (aI k h1 10 (vv n see tm gg_22)), (x0, .inr (6, (fX6 x1 (nI tz) (nI ta__23) (nI nq_16) 1 (nI pl_16)))), (aB k x1 240 fx)]) [0, 1, 2, 3] rfl
      have hD9 := hD.sub (ws' := [(h0, .inr (5, (fX5 h1 h2 h3 h4))), (aI k h1 10 (vv n see tm gg_22)), (x0, .inr (6, (fX6 x1 (nI tz) (nI ta__23) (nI nq_16) 1 (nI pl_16)))), (aB k x1 240 fx)]) [0, 1, 2, 3] (by decide) rfl
      exact W.vret hx hb hr (fun t ht hW => ⟨⟨(see, tm, gg_22, ta__23, (nI nq_16), 1, (nI pl_16)), rfl, ⟨.inr ⟨1, pl_16, rfl, by decide, by decide, by simp [siC, siF, hq_16, (show zLE 2 = 0 from rfl), (show zMO 2 = 99 from rfl), (show decide ((2 : Nat) = 1) = false from rfl), -List.getD_eq_getElem?_getD], by simp [siC, siF, hq_16, (show zLE 2 = 0 from rfl), (show zMO 2 = 99 from rfl), (show decide ((2 : Nat) = 1) = false from rfl), -List.getD_eq_getElem?_getD], rfl⟩, by omega, by omega, by omega, by omega⟩, by rw [ht]; exact hP9, hD9⟩, hS.F ht⟩) hS.2.2 dX5_readClause_62
    · refine va_iast hx hb hK hP hD hS 1 1 rfl rfl (by unfold vp_in; decide) dX5_readClause_19 (fun H locs hP hD hS => ?_)
      replace hP : va_P D classes [(h0, .inr (5, (fX5 h1 h2 h3 h4))), (aI k h1 10 (upd (vv n see tm g) (Int32.toNatClampNeg 2) r_15)), (x0, .inr (6, (fX6 x1 (nI tz) (nI ta__15) (nI nq_16) 2 (nI pl_16)))), (aB k x1 240 fx)] H := hP
      replace hD : va_D A [(h0, .inr (5, (fX5 h1 h2 h3 h4))), (aI k h1 10 (upd (vv n see tm g) (Int32.toNatClampNeg 2) r_15)), (x0, .inr (6, (fX6 x1 (nI tz) (nI ta__15) (nI nq_16) 2 (nI pl_16)))), (aB k x1 240 fx)] := hD
      rw [show upd (vv n see tm g) (Int32.toNatClampNeg 2) r_15 = vv n see tm (upd g 2 r_15) from vv_upd _ _ _ _ _ _ (by decide) (by decide) (by decide)] at hP hD
      obtain ⟨gg_26, hgg_26⟩ : ∃ z : Nat → Int32, z = upd g 2 r_15 := ⟨_, rfl⟩
      rw [← hgg_26] at hP hD
      replace hP : va_P D classes [(h0, .inr (5, (fX5 h1 h2 h3 h4))), (aI k h1 10 (vv n see tm gg_26)), (x0, .inr (6, (fX6 x1 (nI tz) (nI ta__15) (nI nq_16) 2 (nI pl_16)))), (aB k x1 240 fx)] H := hP
      replace hD : va_D A [(h0, .inr (5, (fX5 h1 h2 h3 h4))), (aI k h1 10 (vv n see tm gg_26)), (x0, .inr (6, (fX6 x1 (nI tz) (nI ta__15) (nI nq_16) 2 (nI pl_16)))), (aB k x1 240 fx)] := hD
      refine lv_iload_n hx hb dX5_readClause_20 rfl (lv_at hl 2 rfl) ?_
      refine lv_bipush (v := 7) hx hb dX5_readClause_21 (by decide) ?_
      refine lv_icmp_ne (tgt := 58) hx hb dX5_readClause_23 (by decide) (fun _ => ?_) (fun h => absurd h (by decide))
      refine lv_aload_n hx hb dX5_readClause_58 rfl (lv_at hl 1 rfl) ?_
      refine rw_v (D := D) (wr := [(h0, .inr (5, (fX5 h1 h2 h3 h4))), (aI k h1 10 (vv n see tm gg_26))]) (va_runV (As := []) (rest := []) ⟨hx, hb, hml, hown, hts⟩ ((y_needSemicolon l D k st lo x0 x1 tz ta__15 (nI nq_16) 2 (nI pl_16) fx (by first | assumption | omega) (by first | assumption | omega)) H.size) (cwV 0 hts (gV tw_488 tw_489 tw_490 tw_80 tw_491) rfl rfl rfl (by decide +kernel) ⟨Nat.le_of_ble_eq_true rfl, Nat.le_of_ble_eq_true rfl⟩) (pV hS hAlo hlo hP hK (va_Dlo hD hAlo) hZ [2, 3] (by decide) rfl (ci := 6) (q := (RX6, TX6, 6)) (q0 := 0) rfl rfl) rfl rfl hl.1 rfl (lv_room (Nat.le_of_ble_eq_true rfl)) dX5_readClause_59 ⟨Nat.le_of_ble_eq_true rfl, Nat.le_of_ble_eq_true rfl⟩) hS hA hP hD [2, 3] [0, 1] rfl rfl (by decide) (by decide) (fun u H locs hw_27 hP hD hS => ?_)
      obtain ⟨ta__27, fn__27, fb__27⟩ := u
      replace hP : va_P D classes [(h0, .inr (5, (fX5 h1 h2 h3 h4))), (aI k h1 10 (vv n see tm gg_26)), (x0, .inr (6, (fX6 x1 (nI tz) (nI ta__27) (nI nq_16) fn__27 fb__27))), (aB k x1 240 fx)] H := hP
      replace hD : va_D A [(h0, .inr (5, (fX5 h1 h2 h3 h4))), (aI k h1 10 (vv n see tm gg_26)), (x0, .inr (6, (fX6 x1 (nI tz) (nI ta__27) (nI nq_16) fn__27 fb__27))), (aB k x1 240 fx)] := hD
      try dsimp only at hw_27
      obtain ⟨hs0_28, hs1_28⟩ := hw_27.1 (by decide)
      replace hs0_28 := hs0_28.symm
      subst hs0_28
      replace hs1_28 := hs1_28.symm
      subst hs1_28
      have hP9 := hP.sub (ws' := [(h0, .inr (5, (fX5 h1 h2 h3 h4))), (aI k h1 10 (vv n see tm gg_26)), (x0, .inr (6, (fX6 x1 (nI tz) (nI ta__27) (nI nq_16) 2 (nI pl_16)))), (aB k x1 240 fx)]) [0, 1, 2, 3] rfl
      have hD9 := hD.sub (ws' := [(h0, .inr (5, (fX5 h1 h2 h3 h4))), (aI k h1 10 (vv n see tm gg_26)), (x0, .inr (6, (fX6 x1 (nI tz) (nI ta__27) (nI nq_16) 2 (nI pl_16)))), (aB k x1 240 fx)]) [0, 1, 2, 3] (by decide) rfl
      exact W.vret hx hb hr (fun t ht hW => ⟨⟨(see, tm, gg_26, ta__27, (nI nq_16), 2, (nI pl_16)), rfl, ⟨.inr ⟨2, pl_16, rfl, by decide, by decide, by simp [siC, siF, hq_16, (show zLE 2 = 0 from rfl), (show zMO 2 = 99 from rfl), (show decide ((2 : Nat) = 1) = false from rfl), -List.getD_eq_getElem?_getD], by simp [siC, siF, hq_16, (show zLE 2 = 0 from rfl), (show zMO 2 = 99 from rfl), (show decide ((2 : Nat) = 1) = false from rfl), -List.getD_eq_getElem?_getD], rfl⟩, by omega, by omega, by omega, by omega⟩, by rw [ht]; exact hP9, hD9⟩, hS.F ht⟩) hS.2.2 dX5_readClause_62
  · refine lv_aload_n hx hb dX5_readClause_0 rfl (lv_at hl 0 rfl) ?_
    refine va_get (D := D) (ci := 5) (v := .ref h1) (C := RX5) (T := TX5) (N := 4) hx hb hts inX5 hown hK hP 0 rfl rfl 0 (by decide) (hts _ tw_146) (fun _ h9 => h9) rfl dX5_readClause_1 ?_
    refine lv_iload_n hx hb dX5_readClause_4 rfl (lv_at hl 2 rfl) ?_
    refine lv_aload_n hx hb dX5_readClause_5 rfl (lv_at hl 1 rfl) ?_
    refine va_getsN (A := A) hx hb (hZ.2.2.2.2.1.narrow hAlo) hS hown ((hZ.2.2.2.2.2.2.2.2.1.2.1 (RX5, 106, "LastPlace", "LEAST", "[I", RX7) (List.mem_of_getElem? (i := 1) rfl)).use rfl) (fun _ h9 => h9) dX5_readClause_6 ?_
    refine lv_iload_n hx hb dX5_readClause_9 rfl (lv_at hl 2 rfl) ?_
    refine va_ti (A := A) hx hb (hZ.2.2.2.2.2.1.narrow hAlo) hS (i := 3) (by unfold vp_in; decide) (v := .int 0) rfl dX5_readClause_10 ?_
    refine va_getsN (A := A) hx hb (hZ.2.2.1.narrow hAlo) hS hown ((hZ.2.2.2.2.2.2.2.2.1.2.1 (RX5, 109, "LastPlace", "MOST", "[I", RX7) (List.mem_of_getElem? (i := 2) rfl)).use rfl) (fun _ h9 => h9) dX5_readClause_11 ?_
    refine lv_iload_n hx hb dX5_readClause_14 rfl (lv_at hl 2 rfl) ?_
    refine va_ti (A := A) hx hb (hZ.2.2.2.1.narrow hAlo) hS (i := 3) (by unfold vp_in; decide) (v := .int 99) rfl dX5_readClause_15 ?_
    refine rw_i (D := D) (wr := [(h0, .inr (5, (fX5 h1 h2 h3 h4))), (aI k h1 10 (vv n see tm g))]) (va_runV (As := [.int 0, .int 99]) (rest := [.int 3, .ref h1]) ⟨hx, hb, hml, hown, hts⟩ ((y_needNumber l D k st lo x0 x1 tz ta na 0 fb fx 0 99 (by first | assumption | omega) (by first | assumption | omega) (by decide)) s.heap.size) (cwV 2 hts (gV tw_467 tw_468 tw_469 tw_80 tw_470) rfl rfl rfl (by decide +kernel) ⟨Nat.le_of_ble_eq_true rfl, Nat.le_of_ble_eq_true rfl⟩) (pV hS hAlo hlo hP hK (va_Dlo hD hAlo) hZ [2, 3] (by decide) rfl (ci := 6) (q := (RX6, TX6, 6)) (q0 := 0) rfl rfl) rfl rfl hl.1 rfl (lv_room (Nat.le_of_ble_eq_true rfl)) dX5_readClause_16 ⟨Nat.le_of_ble_eq_true rfl, Nat.le_of_ble_eq_true rfl⟩) hS hA hP hD [2, 3] [0, 1] rfl rfl (by decide) (by decide) (fun r_29 u H locs hw_29 hP hD hS => ?_)
    obtain ⟨ta__29, na__29, fn__29, fb__29⟩ := u
    replace hP : va_P D classes [(h0, .inr (5, (fX5 h1 h2 h3 h4))), (aI k h1 10 (vv n see tm g)), (x0, .inr (6, (fX6 x1 (nI tz) (nI ta__29) na__29 fn__29 fb__29))), (aB k x1 240 fx)] H := hP
    replace hD : va_D A [(h0, .inr (5, (fX5 h1 h2 h3 h4))), (aI k h1 10 (vv n see tm g)), (x0, .inr (6, (fX6 x1 (nI tz) (nI ta__29) na__29 fn__29 fb__29))), (aB k x1 240 fx)] := hD
    try dsimp only at hw_29
    obtain ⟨pl_30, nq_30, rfl, hq_30⟩ := hw_29.2.1 rfl
    rw [show decide ((0 : Int32) < 0) = false from by decide] at hq_30
    rcases hq_30 with ⟨rfl, hq_30⟩ | ⟨rfl, hr_30, rfl, hq_30⟩ | ⟨rfl, hr_30, rfl, hq_30⟩
    · refine va_iast hx hb hK hP hD hS 1 1 rfl rfl (by unfold vp_in; decide) dX5_readClause_19 (fun H locs hP hD hS => ?_)
      replace hP : va_P D classes [(h0, .inr (5, (fX5 h1 h2 h3 h4))), (aI k h1 10 (upd (vv n see tm g) (Int32.toNatClampNeg 3) r_29)), (x0, .inr (6, (fX6 x1 (nI tz) (nI ta__29) (nI nq_30) 0 fb__29))), (aB k x1 240 fx)] H := hP
      replace hD : va_D A [(h0, .inr (5, (fX5 h1 h2 h3 h4))), (aI k h1 10 (upd (vv n see tm g) (Int32.toNatClampNeg 3) r_29)), (x0, .inr (6, (fX6 x1 (nI tz) (nI ta__29) (nI nq_30) 0 fb__29))), (aB k x1 240 fx)] := hD
      rw [show upd (vv n see tm g) (Int32.toNatClampNeg 3) r_29 = vv n see tm (upd g 3 r_29) from vv_upd _ _ _ _ _ _ (by decide) (by decide) (by decide)] at hP hD
      obtain ⟨gg_32, hgg_32⟩ : ∃ z : Nat → Int32, z = upd g 3 r_29 := ⟨_, rfl⟩
      rw [← hgg_32] at hP hD
      replace hP : va_P D classes [(h0, .inr (5, (fX5 h1 h2 h3 h4))), (aI k h1 10 (vv n see tm gg_32)), (x0, .inr (6, (fX6 x1 (nI tz) (nI ta__29) (nI nq_30) 0 fb__29))), (aB k x1 240 fx)] H := hP
      replace hD : va_D A [(h0, .inr (5, (fX5 h1 h2 h3 h4))), (aI k h1 10 (vv n see tm gg_32)), (x0, .inr (6, (fX6 x1 (nI tz) (nI ta__29) (nI nq_30) 0 fb__29))), (aB k x1 240 fx)] := hD
      refine lv_iload_n hx hb dX5_readClause_20 rfl (lv_at hl 2 rfl) ?_
      refine lv_bipush (v := 7) hx hb dX5_readClause_21 (by decide) ?_
      refine lv_icmp_ne (tgt := 58) hx hb dX5_readClause_23 (by decide) (fun _ => ?_) (fun h => absurd h (by decide))
      refine lv_aload_n hx hb dX5_readClause_58 rfl (lv_at hl 1 rfl) ?_
      refine rw_v (D := D) (wr := [(h0, .inr (5, (fX5 h1 h2 h3 h4))), (aI k h1 10 (vv n see tm gg_32))]) (va_runV (As := []) (rest := []) ⟨hx, hb, hml, hown, hts⟩ ((y_needSemicolon l D k st lo x0 x1 tz ta__29 (nI nq_30) 0 fb__29 fx (by first | assumption | omega) (by first | assumption | omega)) H.size) (cwV 0 hts (gV tw_488 tw_489 tw_490 tw_80 tw_491) rfl rfl rfl (by decide +kernel) ⟨Nat.le_of_ble_eq_true rfl, Nat.le_of_ble_eq_true rfl⟩) (pV hS hAlo hlo hP hK (va_Dlo hD hAlo) hZ [2, 3] (by decide) rfl (ci := 6) (q := (RX6, TX6, 6)) (q0 := 0) rfl rfl) rfl rfl hl.1 rfl (lv_room (Nat.le_of_ble_eq_true rfl)) dX5_readClause_59 ⟨Nat.le_of_ble_eq_true rfl, Nat.le_of_ble_eq_true rfl⟩) hS hA hP hD [2, 3] [0, 1] rfl rfl (by decide) (by decide) (fun u H locs hw_33 hP hD hS => ?_)
      obtain ⟨ta__33, fn__33, fb__33⟩ := u
      replace hP : va_P D classes [(h0, .inr (5, (fX5 h1 h2 h3 h4))), (aI k h1 10 (vv n see tm gg_32)), (x0, .inr (6, (fX6 x1 (nI tz) (nI ta__33) (nI nq_30) fn__33 fb__33))), (aB k x1 240 fx)] H := hP
      replace hD : va_D A [(h0, .inr (5, (fX5 h1 h2 h3 h4))), (aI k h1 10 (vv n see tm gg_32)), (x0, .inr (6, (fX6 x1 (nI tz) (nI ta__33) (nI nq_30) fn__33 fb__33))), (aB k x1 240 fx)] := hD
      try dsimp only at hw_33
      rcases hw_33.2.1 rfl with ⟨rfl, hq_34⟩ | ⟨rfl, pl_34, hq_34, rfl⟩
      · have hP9 := hP.sub (ws' := [(h0, .inr (5, (fX5 h1 h2 h3 h4))), (aI k h1 10 (vv n see tm gg_32)), (x0, .inr (6, (fX6 x1 (nI tz) (nI ta__33) (nI nq_30) 0 fb__33))), (aB k x1 240 fx)]) [0, 1, 2, 3] rfl
        have hD9 := hD.sub (ws' := [(h0, .inr (5, (fX5 h1 h2 h3 h4))), (aI k h1 10 (vv n see tm gg_32)), (x0, .inr (6, (fX6 x1 (nI tz) (nI ta__33) (nI nq_30) 0 fb__33))), (aB k x1 240 fx)]) [0, 1, 2, 3] (by decide) rfl
        exact W.vret hx hb hr (fun t ht hW => ⟨⟨(see, tm, gg_32, ta__33, (nI nq_30), 0, fb__33), rfl, ⟨.inl ⟨rfl, r_29, 0, (by simp [siC, siF, hq_30, hq_34, (show zLE 3 = 0 from rfl), (show zMO 3 = 99 from rfl), (show decide ((3 : Nat) = 1) = false from rfl), -List.getD_eq_getElem?_getD]), by rw [if_neg (by decide), vv_upd _ _ _ _ 3 _ (by decide) (by decide) (by decide), hgg_32]⟩, by omega, by omega, by omega, by omega⟩, by rw [ht]; exact hP9, hD9⟩, hS.F ht⟩) hS.2.2 dX5_readClause_62
      · have hP9 := hP.sub (ws' := [(h0, .inr (5, (fX5 h1 h2 h3 h4))), (aI k h1 10 (vv n see tm gg_32)), (x0, .inr (6, (fX6 x1 (nI tz) (nI ta__33) (nI nq_30) 1 (nI pl_34)))), (aB k x1 240 fx)]) [0, 1, 2, 3] rfl
        have hD9 := hD.sub (ws' := [(h0, .inr (5, (fX5 h1 h2 h3 h4))), (aI k h1 10 (vv n see tm gg_32)), (x0, .inr (6, (fX6 x1 (nI tz) (nI ta__33) (nI nq_30) 1 (nI pl_34)))), (aB k x1 240 fx)]) [0, 1, 2, 3] (by decide) rfl
        exact W.vret hx hb hr (fun t ht hW => ⟨⟨(see, tm, gg_32, ta__33, (nI nq_30), 1, (nI pl_34)), rfl, ⟨.inr ⟨1, pl_34, rfl, by decide, by decide, by simp [siC, siF, hq_30, hq_34, (show zLE 3 = 0 from rfl), (show zMO 3 = 99 from rfl), (show decide ((3 : Nat) = 1) = false from rfl), -List.getD_eq_getElem?_getD], by simp [siC, siF, hq_30, hq_34, (show zLE 3 = 0 from rfl), (show zMO 3 = 99 from rfl), (show decide ((3 : Nat) = 1) = false from rfl), -List.getD_eq_getElem?_getD], rfl⟩, by omega, by omega, by omega, by omega⟩, by rw [ht]; exact hP9, hD9⟩, hS.F ht⟩) hS.2.2 dX5_readClause_62
    · refine va_iast hx hb hK hP hD hS 1 1 rfl rfl (by unfold vp_in; decide) dX5_readClause_19 (fun H locs hP hD hS => ?_)
      replace hP : va_P D classes [(h0, .inr (5, (fX5 h1 h2 h3 h4))), (aI k h1 10 (upd (vv n see tm g) (Int32.toNatClampNeg 3) r_29)), (x0, .inr (6, (fX6 x1 (nI tz) (nI ta__29) (nI nq_30) 1 (nI pl_30)))), (aB k x1 240 fx)] H := hP
      replace hD : va_D A [(h0, .inr (5, (fX5 h1 h2 h3 h4))), (aI k h1 10 (upd (vv n see tm g) (Int32.toNatClampNeg 3) r_29)), (x0, .inr (6, (fX6 x1 (nI tz) (nI ta__29) (nI nq_30) 1 (nI pl_30)))), (aB k x1 240 fx)] := hD
      rw [show upd (vv n see tm g) (Int32.toNatClampNeg 3) r_29 = vv n see tm (upd g 3 r_29) from vv_upd _ _ _ _ _ _ (by decide) (by decide) (by decide)] at hP hD
      obtain ⟨gg_36, hgg_36⟩ : ∃ z : Nat → Int32, z = upd g 3 r_29 := ⟨_, rfl⟩
      rw [← hgg_36] at hP hD
      replace hP : va_P D classes [(h0, .inr (5, (fX5 h1 h2 h3 h4))), (aI k h1 10 (vv n see tm gg_36)), (x0, .inr (6, (fX6 x1 (nI tz) (nI ta__29) (nI nq_30) 1 (nI pl_30)))), (aB k x1 240 fx)] H := hP
      replace hD : va_D A [(h0, .inr (5, (fX5 h1 h2 h3 h4))), (aI k h1 10 (vv n see tm gg_36)), (x0, .inr (6, (fX6 x1 (nI tz) (nI ta__29) (nI nq_30) 1 (nI pl_30)))), (aB k x1 240 fx)] := hD
      refine lv_iload_n hx hb dX5_readClause_20 rfl (lv_at hl 2 rfl) ?_
      refine lv_bipush (v := 7) hx hb dX5_readClause_21 (by decide) ?_
      refine lv_icmp_ne (tgt := 58) hx hb dX5_readClause_23 (by decide) (fun _ => ?_) (fun h => absurd h (by decide))
      refine lv_aload_n hx hb dX5_readClause_58 rfl (lv_at hl 1 rfl) ?_
      refine rw_v (D := D) (wr := [(h0, .inr (5, (fX5 h1 h2 h3 h4))), (aI k h1 10 (vv n see tm gg_36))]) (va_runV (As := []) (rest := []) ⟨hx, hb, hml, hown, hts⟩ ((y_needSemicolon l D k st lo x0 x1 tz ta__29 (nI nq_30) 1 (nI pl_30) fx (by first | assumption | omega) (by first | assumption | omega)) H.size) (cwV 0 hts (gV tw_488 tw_489 tw_490 tw_80 tw_491) rfl rfl rfl (by decide +kernel) ⟨Nat.le_of_ble_eq_true rfl, Nat.le_of_ble_eq_true rfl⟩) (pV hS hAlo hlo hP hK (va_Dlo hD hAlo) hZ [2, 3] (by decide) rfl (ci := 6) (q := (RX6, TX6, 6)) (q0 := 0) rfl rfl) rfl rfl hl.1 rfl (lv_room (Nat.le_of_ble_eq_true rfl)) dX5_readClause_59 ⟨Nat.le_of_ble_eq_true rfl, Nat.le_of_ble_eq_true rfl⟩) hS hA hP hD [2, 3] [0, 1] rfl rfl (by decide) (by decide) (fun u H locs hw_37 hP hD hS => ?_)
      obtain ⟨ta__37, fn__37, fb__37⟩ := u
      replace hP : va_P D classes [(h0, .inr (5, (fX5 h1 h2 h3 h4))), (aI k h1 10 (vv n see tm gg_36)), (x0, .inr (6, (fX6 x1 (nI tz) (nI ta__37) (nI nq_30) fn__37 fb__37))), (aB k x1 240 fx)] H := hP
      replace hD : va_D A [(h0, .inr (5, (fX5 h1 h2 h3 h4))), (aI k h1 10 (vv n see tm gg_36)), (x0, .inr (6, (fX6 x1 (nI tz) (nI ta__37) (nI nq_30) fn__37 fb__37))), (aB k x1 240 fx)] := hD
      try dsimp only at hw_37
      obtain ⟨hs0_38, hs1_38⟩ := hw_37.1 (by decide)
      replace hs0_38 := hs0_38.symm
      subst hs0_38
      replace hs1_38 := hs1_38.symm
      subst hs1_38
      have hP9 := hP.sub (ws' := [(h0, .inr (5, (fX5 h1 h2 h3 h4))), (aI k h1 10 (vv n see tm gg_36)), (x0, .inr (6, (fX6 x1 (nI tz) (nI ta__37) (nI nq_30) 1 (nI pl_30)))), (aB k x1 240 fx)]) [0, 1, 2, 3] rfl
      have hD9 := hD.sub (ws' := [(h0, .inr (5, (fX5 h1 h2 h3 h4))), (aI k h1 10 (vv n see tm gg_36)), (x0, .inr (6, (fX6 x1 (nI tz) (nI ta__37) (nI nq_30) 1 (nI pl_30)))), (aB k x1 240 fx)]) [0, 1, 2, 3] (by decide) rfl
      exact W.vret hx hb hr (fun t ht hW => ⟨⟨(see, tm, gg_36, ta__37, (nI nq_30), 1, (nI pl_30)), rfl, ⟨.inr ⟨1, pl_30, rfl, by decide, by decide, by simp [siC, siF, hq_30, (show zLE 3 = 0 from rfl), (show zMO 3 = 99 from rfl), (show decide ((3 : Nat) = 1) = false from rfl), -List.getD_eq_getElem?_getD], by simp [siC, siF, hq_30, (show zLE 3 = 0 from rfl), (show zMO 3 = 99 from rfl), (show decide ((3 : Nat) = 1) = false from rfl), -List.getD_eq_getElem?_getD], rfl⟩, by omega, by omega, by omega, by omega⟩, by rw [ht]; exact hP9, hD9⟩, hS.F ht⟩) hS.2.2 dX5_readClause_62
    · refine va_iast hx hb hK hP hD hS 1 1 rfl rfl (by unfold vp_in; decide) dX5_readClause_19 (fun H locs hP hD hS => ?_)
      replace hP : va_P D classes [(h0, .inr (5, (fX5 h1 h2 h3 h4))), (aI k h1 10 (upd (vv n see tm g) (Int32.toNatClampNeg 3) r_29)), (x0, .inr (6, (fX6 x1 (nI tz) (nI ta__29) (nI nq_30) 2 (nI pl_30)))), (aB k x1 240 fx)] H := hP
      replace hD : va_D A [(h0, .inr (5, (fX5 h1 h2 h3 h4))), (aI k h1 10 (upd (vv n see tm g) (Int32.toNatClampNeg 3) r_29)), (x0, .inr (6, (fX6 x1 (nI tz) (nI ta__29) (nI nq_30) 2 (nI pl_30)))), (aB k x1 240 fx)] := hD
      rw [show upd (vv n see tm g) (Int32.toNatClampNeg 3) r_29 = vv n see tm (upd g 3 r_29) from vv_upd _ _ _ _ _ _ (by decide) (by decide) (by decide)] at hP hD
      obtain ⟨gg_40, hgg_40⟩ : ∃ z : Nat → Int32, z = upd g 3 r_29 := ⟨_, rfl⟩
      rw [← hgg_40] at hP hD
      replace hP : va_P D classes [(h0, .inr (5, (fX5 h1 h2 h3 h4))), (aI k h1 10 (vv n see tm gg_40)), (x0, .inr (6, (fX6 x1 (nI tz) (nI ta__29) (nI nq_30) 2 (nI pl_30)))), (aB k x1 240 fx)] H := hP
      replace hD : va_D A [(h0, .inr (5, (fX5 h1 h2 h3 h4))), (aI k h1 10 (vv n see tm gg_40)), (x0, .inr (6, (fX6 x1 (nI tz) (nI ta__29) (nI nq_30) 2 (nI pl_30)))), (aB k x1 240 fx)] := hD
      refine lv_iload_n hx hb dX5_readClause_20 rfl (lv_at hl 2 rfl) ?_
      refine lv_bipush (v := 7) hx hb dX5_readClause_21 (by decide) ?_
      refine lv_icmp_ne (tgt := 58) hx hb dX5_readClause_23 (by decide) (fun _ => ?_) (fun h => absurd h (by decide))
      refine lv_aload_n hx hb dX5_readClause_58 rfl (lv_at hl 1 rfl) ?_
      refine rw_v (D := D) (wr := [(h0, .inr (5, (fX5 h1 h2 h3 h4))), (aI k h1 10 (vv n see tm gg_40))]) (va_runV (As := []) (rest := []) ⟨hx, hb, hml, hown, hts⟩ ((y_needSemicolon l D k st lo x0 x1 tz ta__29 (nI nq_30) 2 (nI pl_30) fx (by first | assumption | omega) (by first | assumption | omega)) H.size) (cwV 0 hts (gV tw_488 tw_489 tw_490 tw_80 tw_491) rfl rfl rfl (by decide +kernel) ⟨Nat.le_of_ble_eq_true rfl, Nat.le_of_ble_eq_true rfl⟩) (pV hS hAlo hlo hP hK (va_Dlo hD hAlo) hZ [2, 3] (by decide) rfl (ci := 6) (q := (RX6, TX6, 6)) (q0 := 0) rfl rfl) rfl rfl hl.1 rfl (lv_room (Nat.le_of_ble_eq_true rfl)) dX5_readClause_59 ⟨Nat.le_of_ble_eq_true rfl, Nat.le_of_ble_eq_true rfl⟩) hS hA hP hD [2, 3] [0, 1] rfl rfl (by decide) (by decide) (fun u H locs hw_41 hP hD hS => ?_)
      obtain ⟨ta__41, fn__41, fb__41⟩ := u
      replace hP : va_P D classes [(h0, .inr (5, (fX5 h1 h2 h3 h4))), (aI k h1 10 (vv n see tm gg_40)), (x0, .inr (6, (fX6 x1 (nI tz) (nI ta__41) (nI nq_30) fn__41 fb__41))), (aB k x1 240 fx)] H := hP
      replace hD : va_D A [(h0, .inr (5, (fX5 h1 h2 h3 h4))), (aI k h1 10 (vv n see tm gg_40)), (x0, .inr (6, (fX6 x1 (nI tz) (nI ta__41) (nI nq_30) fn__41 fb__41))), (aB k x1 240 fx)] := hD
      try dsimp only at hw_41
      obtain ⟨hs0_42, hs1_42⟩ := hw_41.1 (by decide)
      replace hs0_42 := hs0_42.symm
      subst hs0_42
      replace hs1_42 := hs1_42.symm
      subst hs1_42
      have hP9 := hP.sub (ws' := [(h0, .inr (5, (fX5 h1 h2 h3 h4))), (aI k h1 10 (vv n see tm gg_40)), (x0, .inr (6, (fX6 x1 (nI tz) (nI ta__41) (nI nq_30) 2 (nI pl_30)))), (aB k x1 240 fx)]) [0, 1, 2, 3] rfl
      have hD9 := hD.sub (ws' := [(h0, .inr (5, (fX5 h1 h2 h3 h4))), (aI k h1 10 (vv n see tm gg_40)), (x0, .inr (6, (fX6 x1 (nI tz) (nI ta__41) (nI nq_30) 2 (nI pl_30)))), (aB k x1 240 fx)]) [0, 1, 2, 3] (by decide) rfl
      exact W.vret hx hb hr (fun t ht hW => ⟨⟨(see, tm, gg_40, ta__41, (nI nq_30), 2, (nI pl_30)), rfl, ⟨.inr ⟨2, pl_30, rfl, by decide, by decide, by simp [siC, siF, hq_30, (show zLE 3 = 0 from rfl), (show zMO 3 = 99 from rfl), (show decide ((3 : Nat) = 1) = false from rfl), -List.getD_eq_getElem?_getD], by simp [siC, siF, hq_30, (show zLE 3 = 0 from rfl), (show zMO 3 = 99 from rfl), (show decide ((3 : Nat) = 1) = false from rfl), -List.getD_eq_getElem?_getD], rfl⟩, by omega, by omega, by omega, by omega⟩, by rw [ht]; exact hP9, hD9⟩, hS.F ht⟩) hS.2.2 dX5_readClause_62
  · refine lv_aload_n hx hb dX5_readClause_0 rfl (lv_at hl 0 rfl) ?_
    refine va_get (D := D) (ci := 5) (v := .ref h1) (C := RX5) (T := TX5) (N := 4) hx hb hts inX5 hown hK hP 0 rfl rfl 0 (by decide) (hts _ tw_146) (fun _ h9 => h9) rfl dX5_readClause_1 ?_
    refine lv_iload_n hx hb dX5_readClause_4 rfl (lv_at hl 2 rfl) ?_
    refine lv_aload_n hx hb dX5_readClause_5 rfl (lv_at hl 1 rfl) ?_
    refine va_getsN (A := A) hx hb (hZ.2.2.2.2.1.narrow hAlo) hS hown ((hZ.2.2.2.2.2.2.2.2.1.2.1 (RX5, 106, "LastPlace", "LEAST", "[I", RX7) (List.mem_of_getElem? (i := 1) rfl)).use rfl) (fun _ h9 => h9) dX5_readClause_6 ?_
    refine lv_iload_n hx hb dX5_readClause_9 rfl (lv_at hl 2 rfl) ?_
    refine va_ti (A := A) hx hb (hZ.2.2.2.2.2.1.narrow hAlo) hS (i := 4) (by unfold vp_in; decide) (v := .int 0) rfl dX5_readClause_10 ?_
    refine va_getsN (A := A) hx hb (hZ.2.2.1.narrow hAlo) hS hown ((hZ.2.2.2.2.2.2.2.2.1.2.1 (RX5, 109, "LastPlace", "MOST", "[I", RX7) (List.mem_of_getElem? (i := 2) rfl)).use rfl) (fun _ h9 => h9) dX5_readClause_11 ?_
    refine lv_iload_n hx hb dX5_readClause_14 rfl (lv_at hl 2 rfl) ?_
    refine va_ti (A := A) hx hb (hZ.2.2.2.1.narrow hAlo) hS (i := 4) (by unfold vp_in; decide) (v := .int 99) rfl dX5_readClause_15 ?_
    refine rw_i (D := D) (wr := [(h0, .inr (5, (fX5 h1 h2 h3 h4))), (aI k h1 10 (vv n see tm g))]) (va_runV (As := [.int 0, .int 99]) (rest := [.int 4, .ref h1]) ⟨hx, hb, hml, hown, hts⟩ ((y_needNumber l D k st lo x0 x1 tz ta na 0 fb fx 0 99 (by first | assumption | omega) (by first | assumption | omega) (by decide)) s.heap.size) (cwV 2 hts (gV tw_467 tw_468 tw_469 tw_80 tw_470) rfl rfl rfl (by decide +kernel) ⟨Nat.le_of_ble_eq_true rfl, Nat.le_of_ble_eq_true rfl⟩) (pV hS hAlo hlo hP hK (va_Dlo hD hAlo) hZ [2, 3] (by decide) rfl (ci := 6) (q := (RX6, TX6, 6)) (q0 := 0) rfl rfl) rfl rfl hl.1 rfl (lv_room (Nat.le_of_ble_eq_true rfl)) dX5_readClause_16 ⟨Nat.le_of_ble_eq_true rfl, Nat.le_of_ble_eq_true rfl⟩) hS hA hP hD [2, 3] [0, 1] rfl rfl (by decide) (by decide) (fun r_43 u H locs hw_43 hP hD hS => ?_)
    obtain ⟨ta__43, na__43, fn__43, fb__43⟩ := u
    replace hP : va_P D classes [(h0, .inr (5, (fX5 h1 h2 h3 h4))), (aI k h1 10 (vv n see tm g)), (x0, .inr (6, (fX6 x1 (nI tz) (nI ta__43) na__43 fn__43 fb__43))), (aB k x1 240 fx)] H := hP
    replace hD : va_D A [(h0, .inr (5, (fX5 h1 h2 h3 h4))), (aI k h1 10 (vv n see tm g)), (x0, .inr (6, (fX6 x1 (nI tz) (nI ta__43) na__43 fn__43 fb__43))), (aB k x1 240 fx)] := hD
    try dsimp only at hw_43
    obtain ⟨pl_44, nq_44, rfl, hq_44⟩ := hw_43.2.1 rfl
    rw [show decide ((0 : Int32) < 0) = false from by decide] at hq_44
    rcases hq_44 with ⟨rfl, hq_44⟩ | ⟨rfl, hr_44, rfl, hq_44⟩ | ⟨rfl, hr_44, rfl, hq_44⟩
    · refine va_iast hx hb hK hP hD hS 1 1 rfl rfl (by unfold vp_in; decide) dX5_readClause_19 (fun H locs hP hD hS => ?_)
      replace hP : va_P D classes [(h0, .inr (5, (fX5 h1 h2 h3 h4))), (aI k h1 10 (upd (vv n see tm g) (Int32.toNatClampNeg 4) r_43)), (x0, .inr (6, (fX6 x1 (nI tz) (nI ta__43) (nI nq_44) 0 fb__43))), (aB k x1 240 fx)] H := hP
      replace hD : va_D A [(h0, .inr (5, (fX5 h1 h2 h3 h4))), (aI k h1 10 (upd (vv n see tm g) (Int32.toNatClampNeg 4) r_43)), (x0, .inr (6, (fX6 x1 (nI tz) (nI ta__43) (nI nq_44) 0 fb__43))), (aB k x1 240 fx)] := hD
      rw [show upd (vv n see tm g) (Int32.toNatClampNeg 4) r_43 = vv n see tm (upd g 4 r_43) from vv_upd _ _ _ _ _ _ (by decide) (by decide) (by decide)] at hP hD
      obtain ⟨gg_46, hgg_46⟩ : ∃ z : Nat → Int32, z = upd g 4 r_43 := ⟨_, rfl⟩
      rw [← hgg_46] at hP hD
      replace hP : va_P D classes [(h0, .inr (5, (fX5 h1 h2 h3 h4))), (aI k h1 10 (vv n see tm gg_46)), (x0, .inr (6, (fX6 x1 (nI tz) (nI ta__43) (nI nq_44) 0 fb__43))), (aB k x1 240 fx)] H := hP
      replace hD : va_D A [(h0, .inr (5, (fX5 h1 h2 h3 h4))), (aI k h1 10 (vv n see tm gg_46)), (x0, .inr (6, (fX6 x1 (nI tz) (nI ta__43) (nI nq_44) 0 fb__43))), (aB k x1 240 fx)] := hD
      refine lv_iload_n hx hb dX5_readClause_20 rfl (lv_at hl 2 rfl) ?_
      refine lv_bipush (v := 7) hx hb dX5_readClause_21 (by decide) ?_
      refine lv_icmp_ne (tgt := 58) hx hb dX5_readClause_23 (by decide) (fun _ => ?_) (fun h => absurd h (by decide))
      refine lv_aload_n hx hb dX5_readClause_58 rfl (lv_at hl 1 rfl) ?_
      refine rw_v (D := D) (wr := [(h0, .inr (5, (fX5 h1 h2 h3 h4))), (aI k h1 10 (vv n see tm gg_46))]) (va_runV (As := []) (rest := []) ⟨hx, hb, hml, hown, hts⟩ ((y_needSemicolon l D k st lo x0 x1 tz ta__43 (nI nq_44) 0 fb__43 fx (by first | assumption | omega) (by first | assumption | omega)) H.size) (cwV 0 hts (gV tw_488 tw_489 tw_490 tw_80 tw_491) rfl rfl rfl (by decide +kernel) ⟨Nat.le_of_ble_eq_true rfl, Nat.le_of_ble_eq_true rfl⟩) (pV hS hAlo hlo hP hK (va_Dlo hD hAlo) hZ [2, 3] (by decide) rfl (ci := 6) (q := (RX6, TX6, 6)) (q0 := 0) rfl rfl) rfl rfl hl.1 rfl (lv_room (Nat.le_of_ble_eq_true rfl)) dX5_readClause_59 ⟨Nat.le_of_ble_eq_true rfl, Nat.le_of_ble_eq_true rfl⟩) hS hA hP hD [2, 3] [0, 1] rfl rfl (by decide) (by decide) (fun u H locs hw_47 hP hD hS => ?_)
      obtain ⟨ta__47, fn__47, fb__47⟩ := u
      replace hP : va_P D classes [(h0, .inr (5, (fX5 h1 h2 h3 h4))), (aI k h1 10 (vv n see tm gg_46)), (x0, .inr (6, (fX6 x1 (nI tz) (nI ta__47) (nI nq_44) fn__47 fb__47))), (aB k x1 240 fx)] H := hP
      replace hD : va_D A [(h0, .inr (5, (fX5 h1 h2 h3 h4))), (aI k h1 10 (vv n see tm gg_46)), (x0, .inr (6, (fX6 x1 (nI tz) (nI ta__47) (nI nq_44) fn__47 fb__47))), (aB k x1 240 fx)] := hD
      try dsimp only at hw_47
      rcases hw_47.2.1 rfl with ⟨rfl, hq_48⟩ | ⟨rfl, pl_48, hq_48, rfl⟩
      · have hP9 := hP.sub (ws' := [(h0, .inr (5, (fX5 h1 h2 h3 h4))), (aI k h1 10 (vv n see tm gg_46)), (x0, .inr (6, (fX6 x1 (nI tz) (nI ta__47) (nI nq_44) 0 fb__47))), (aB k x1 240 fx)]) [0, 1, 2, 3] rfl
        have hD9 := hD.sub (ws' := [(h0, .inr (5, (fX5 h1 h2 h3 h4))), (aI k h1 10 (vv n see tm gg_46)), (x0, .inr (6, (fX6 x1 (nI tz) (nI ta__47) (nI nq_44) 0 fb__47))), (aB k x1 240 fx)]) [0, 1, 2, 3] (by decide) rfl
        exact W.vret hx hb hr (fun t ht hW => ⟨⟨(see, tm, gg_46, ta__47, (nI nq_44), 0, fb__47), rfl, ⟨.inl ⟨rfl, r_43, 0, (by simp [siC, siF, hq_44, hq_48, (show zLE 4 = 0 from rfl), (show zMO 4 = 99 from rfl), (show decide ((4 : Nat) = 1) = false from rfl), -List.getD_eq_getElem?_getD]), by rw [if_neg (by decide), vv_upd _ _ _ _ 4 _ (by decide) (by decide) (by decide), hgg_46]⟩, by omega, by omega, by omega, by omega⟩, by rw [ht]; exact hP9, hD9⟩, hS.F ht⟩) hS.2.2 dX5_readClause_62
      · have hP9 := hP.sub (ws' := [(h0, .inr (5, (fX5 h1 h2 h3 h4))), (aI k h1 10 (vv n see tm gg_46)), (x0, .inr (6, (fX6 x1 (nI tz) (nI ta__47) (nI nq_44) 1 (nI pl_48)))), (aB k x1 240 fx)]) [0, 1, 2, 3] rfl
        have hD9 := hD.sub (ws' := [(h0, .inr (5, (fX5 h1 h2 h3 h4))), (aI k h1 10 (vv n see tm gg_46)), (x0, .inr (6, (fX6 x1 (nI tz) (nI ta__47) (nI nq_44) 1 (nI pl_48)))), (aB k x1 240 fx)]) [0, 1, 2, 3] (by decide) rfl
        exact W.vret hx hb hr (fun t ht hW => ⟨⟨(see, tm, gg_46, ta__47, (nI nq_44), 1, (nI pl_48)), rfl, ⟨.inr ⟨1, pl_48, rfl, by decide, by decide, by simp [siC, siF, hq_44, hq_48, (show zLE 4 = 0 from rfl), (show zMO 4 = 99 from rfl), (show decide ((4 : Nat) = 1) = false from rfl), -List.getD_eq_getElem?_getD], by simp [siC, siF, hq_44, hq_48, (show zLE 4 = 0 from rfl), (show zMO 4 = 99 from rfl), (show decide ((4 : Nat) = 1) = false from rfl), -List.getD_eq_getElem?_getD], rfl⟩, by omega, by omega, by omega, by omega⟩, by rw [ht]; exact hP9, hD9⟩, hS.F ht⟩) hS.2.2 dX5_readClause_62
    · refine va_iast hx hb hK hP hD hS 1 1 rfl rfl (by unfold vp_in; decide) dX5_readClause_19 (fun H locs hP hD hS => ?_)
      replace hP : va_P D classes [(h0, .inr (5, (fX5 h1 h2 h3 h4))), (aI k h1 10 (upd (vv n see tm g) (Int32.toNatClampNeg 4) r_43)), (x0, .inr (6, (fX6 x1 (nI tz) (nI ta__43) (nI nq_44) 1 (nI pl_44)))), (aB k x1 240 fx)] H := hP
      replace hD : va_D A [(h0, .inr (5, (fX5 h1 h2 h3 h4))), (aI k h1 10 (upd (vv n see tm g) (Int32.toNatClampNeg 4) r_43)), (x0, .inr (6, (fX6 x1 (nI tz) (nI ta__43) (nI nq_44) 1 (nI pl_44)))), (aB k x1 240 fx)] := hD
      rw [show upd (vv n see tm g) (Int32.toNatClampNeg 4) r_43 = vv n see tm (upd g 4 r_43) from vv_upd _ _ _ _ _ _ (by decide) (by decide) (by decide)] at hP hD
      obtain ⟨gg_50, hgg_50⟩ : ∃ z : Nat → Int32, z = upd g 4 r_43 := ⟨_, rfl⟩
      rw [← hgg_50] at hP hD
      replace hP : va_P D classes [(h0, .inr (5, (fX5 h1 h2 h3 h4))), (aI k h1 10 (vv n see tm gg_50)), (x0, .inr (6, (fX6 x1 (nI tz) (nI ta__43) (nI nq_44) 1 (nI pl_44)))), (aB k x1 240 fx)] H := hP
      replace hD : va_D A [(h0, .inr (5, (fX5 h1 h2 h3 h4))), (aI k h1 10 (vv n see tm gg_50)), (x0, .inr (6, (fX6 x1 (nI tz) (nI ta__43) (nI nq_44) 1 (nI pl_44)))), (aB k x1 240 fx)] := hD
      refine lv_iload_n hx hb dX5_readClause_20 rfl (lv_at hl 2 rfl) ?_
      refine lv_bipush (v := 7) hx hb dX5_readClause_21 (by decide) ?_
      refine lv_icmp_ne (tgt := 58) hx hb dX5_readClause_23 (by decide) (fun _ => ?_) (fun h => absurd h (by decide))
      refine lv_aload_n hx hb dX5_readClause_58 rfl (lv_at hl 1 rfl) ?_
      refine rw_v (D := D) (wr := [(h0, .inr (5, (fX5 h1 h2 h3 h4))), (aI k h1 10 (vv n see tm gg_50))]) (va_runV (As := []) (rest := []) ⟨hx, hb, hml, hown, hts⟩ ((y_needSemicolon l D k st lo x0 x1 tz ta__43 (nI nq_44) 1 (nI pl_44) fx (by first | assumption | omega) (by first | assumption | omega)) H.size) (cwV 0 hts (gV tw_488 tw_489 tw_490 tw_80 tw_491) rfl rfl rfl (by decide +kernel) ⟨Nat.le_of_ble_eq_true rfl, Nat.le_of_ble_eq_true rfl⟩) (pV hS hAlo hlo hP hK (va_Dlo hD hAlo) hZ [2, 3] (by decide) rfl (ci := 6) (q := (RX6, TX6, 6)) (q0 := 0) rfl rfl) rfl rfl hl.1 rfl (lv_room (Nat.le_of_ble_eq_true rfl)) dX5_readClause_59 ⟨Nat.le_of_ble_eq_true rfl, Nat.le_of_ble_eq_true rfl⟩) hS hA hP hD [2, 3] [0, 1] rfl rfl (by decide) (by decide) (fun u H locs hw_51 hP hD hS => ?_)
      obtain ⟨ta__51, fn__51, fb__51⟩ := u
      replace hP : va_P D classes [(h0, .inr (5, (fX5 h1 h2 h3 h4))), (aI k h1 10 (vv n see tm gg_50)), (x0, .inr (6, (fX6 x1 (nI tz) (nI ta__51) (nI nq_44) fn__51 fb__51))), (aB k x1 240 fx)] H := hP
      replace hD : va_D A [(h0, .inr (5, (fX5 h1 h2 h3 h4))), (aI k h1 10 (vv n see tm gg_50)), (x0, .inr (6, (fX6 x1 (nI tz) (nI ta__51) (nI nq_44) fn__51 fb__51))), (aB k x1 240 fx)] := hD
      try dsimp only at hw_51
      obtain ⟨hs0_52, hs1_52⟩ := hw_51.1 (by decide)
      replace hs0_52 := hs0_52.symm
      subst hs0_52
      replace hs1_52 := hs1_52.symm
      subst hs1_52
      have hP9 := hP.sub (ws' := [(h0, .inr (5, (fX5 h1 h2 h3 h4))), (aI k h1 10 (vv n see tm gg_50)), (x0, .inr (6, (fX6 x1 (nI tz) (nI ta__51) (nI nq_44) 1 (nI pl_44)))), (aB k x1 240 fx)]) [0, 1, 2, 3] rfl
      have hD9 := hD.sub (ws' := [(h0, .inr (5, (fX5 h1 h2 h3 h4))), (aI k h1 10 (vv n see tm gg_50)), (x0, .inr (6, (fX6 x1 (nI tz) (nI ta__51) (nI nq_44) 1 (nI pl_44)))), (aB k x1 240 fx)]) [0, 1, 2, 3] (by decide) rfl
      exact W.vret hx hb hr (fun t ht hW => ⟨⟨(see, tm, gg_50, ta__51, (nI nq_44), 1, (nI pl_44)), rfl, ⟨.inr ⟨1, pl_44, rfl, by decide, by decide, by simp [siC, siF, hq_44, (show zLE 4 = 0 from rfl), (show zMO 4 = 99 from rfl), (show decide ((4 : Nat) = 1) = false from rfl), -List.getD_eq_getElem?_getD], by simp [siC, siF, hq_44, (show zLE 4 = 0 from rfl), (show zMO 4 = 99 from rfl), (show decide ((4 : Nat) = 1) = false from rfl), -List.getD_eq_getElem?_getD], rfl⟩, by omega, by omega, by omega, by omega⟩, by rw [ht]; exact hP9, hD9⟩, hS.F ht⟩) hS.2.2 dX5_readClause_62
    · refine va_iast hx hb hK hP hD hS 1 1 rfl rfl (by unfold vp_in; decide) dX5_readClause_19 (fun H locs hP hD hS => ?_)
      replace hP : va_P D classes [(h0, .inr (5, (fX5 h1 h2 h3 h4))), (aI k h1 10 (upd (vv n see tm g) (Int32.toNatClampNeg 4) r_43)), (x0, .inr (6, (fX6 x1 (nI tz) (nI ta__43) (nI nq_44) 2 (nI pl_44)))), (aB k x1 240 fx)] H := hP
      replace hD : va_D A [(h0, .inr (5, (fX5 h1 h2 h3 h4))), (aI k h1 10 (upd (vv n see tm g) (Int32.toNatClampNeg 4) r_43)), (x0, .inr (6, (fX6 x1 (nI tz) (nI ta__43) (nI nq_44) 2 (nI pl_44)))), (aB k x1 240 fx)] := hD
      rw [show upd (vv n see tm g) (Int32.toNatClampNeg 4) r_43 = vv n see tm (upd g 4 r_43) from vv_upd _ _ _ _ _ _ (by decide) (by decide) (by decide)] at hP hD
      obtain ⟨gg_54, hgg_54⟩ : ∃ z : Nat → Int32, z = upd g 4 r_43 := ⟨_, rfl⟩
      rw [← hgg_54] at hP hD
      replace hP : va_P D classes [(h0, .inr (5, (fX5 h1 h2 h3 h4))), (aI k h1 10 (vv n see tm gg_54)), (x0, .inr (6, (fX6 x1 (nI tz) (nI ta__43) (nI nq_44) 2 (nI pl_44)))), (aB k x1 240 fx)] H := hP
      replace hD : va_D A [(h0, .inr (5, (fX5 h1 h2 h3 h4))), (aI k h1 10 (vv n see tm gg_54)), (x0, .inr (6, (fX6 x1 (nI tz) (nI ta__43) (nI nq_44) 2 (nI pl_44)))), (aB k x1 240 fx)] := hD
      refine lv_iload_n hx hb dX5_readClause_20 rfl (lv_at hl 2 rfl) ?_
      refine lv_bipush (v := 7) hx hb dX5_readClause_21 (by decide) ?_
      refine lv_icmp_ne (tgt := 58) hx hb dX5_readClause_23 (by decide) (fun _ => ?_) (fun h => absurd h (by decide))
      refine lv_aload_n hx hb dX5_readClause_58 rfl (lv_at hl 1 rfl) ?_
      refine rw_v (D := D) (wr := [(h0, .inr (5, (fX5 h1 h2 h3 h4))), (aI k h1 10 (vv n see tm gg_54))]) (va_runV (As := []) (rest := []) ⟨hx, hb, hml, hown, hts⟩ ((y_needSemicolon l D k st lo x0 x1 tz ta__43 (nI nq_44) 2 (nI pl_44) fx (by first | assumption | omega) (by first | assumption | omega)) H.size) (cwV 0 hts (gV tw_488 tw_489 tw_490 tw_80 tw_491) rfl rfl rfl (by decide +kernel) ⟨Nat.le_of_ble_eq_true rfl, Nat.le_of_ble_eq_true rfl⟩) (pV hS hAlo hlo hP hK (va_Dlo hD hAlo) hZ [2, 3] (by decide) rfl (ci := 6) (q := (RX6, TX6, 6)) (q0 := 0) rfl rfl) rfl rfl hl.1 rfl (lv_room (Nat.le_of_ble_eq_true rfl)) dX5_readClause_59 ⟨Nat.le_of_ble_eq_true rfl, Nat.le_of_ble_eq_true rfl⟩) hS hA hP hD [2, 3] [0, 1] rfl rfl (by decide) (by decide) (fun u H locs hw_55 hP hD hS => ?_)
      obtain ⟨ta__55, fn__55, fb__55⟩ := u
      replace hP : va_P D classes [(h0, .inr (5, (fX5 h1 h2 h3 h4))), (aI k h1 10 (vv n see tm gg_54)), (x0, .inr (6, (fX6 x1 (nI tz) (nI ta__55) (nI nq_44) fn__55 fb__55))), (aB k x1 240 fx)] H := hP
      replace hD : va_D A [(h0, .inr (5, (fX5 h1 h2 h3 h4))), (aI k h1 10 (vv n see tm gg_54)), (x0, .inr (6, (fX6 x1 (nI tz) (nI ta__55) (nI nq_44) fn__55 fb__55))), (aB k x1 240 fx)] := hD
      try dsimp only at hw_55
      obtain ⟨hs0_56, hs1_56⟩ := hw_55.1 (by decide)
      replace hs0_56 := hs0_56.symm
      subst hs0_56
      replace hs1_56 := hs1_56.symm
      subst hs1_56
      have hP9 := hP.sub (ws' := [(h0, .inr (5, (fX5 h1 h2 h3 h4))), (aI k h1 10 (vv n see tm gg_54)), (x0, .inr (6, (fX6 x1 (nI tz) (nI ta__55) (nI nq_44) 2 (nI pl_44)))), (aB k x1 240 fx)]) [0, 1, 2, 3] rfl
      have hD9 := hD.sub (ws' := [(h0, .inr (5, (fX5 h1 h2 h3 h4))), (aI k h1 10 (vv n see tm gg_54)), (x0, .inr (6, (fX6 x1 (nI tz) (nI ta__55) (nI nq_44) 2 (nI pl_44)))), (aB k x1 240 fx)]) [0, 1, 2, 3] (by decide) rfl
      exact W.vret hx hb hr (fun t ht hW => ⟨⟨(see, tm, gg_54, ta__55, (nI nq_44), 2, (nI pl_44)), rfl, ⟨.inr ⟨2, pl_44, rfl, by decide, by decide, by simp [siC, siF, hq_44, (show zLE 4 = 0 from rfl), (show zMO 4 = 99 from rfl), (show decide ((4 : Nat) = 1) = false from rfl), -List.getD_eq_getElem?_getD], by simp [siC, siF, hq_44, (show zLE 4 = 0 from rfl), (show zMO 4 = 99 from rfl), (show decide ((4 : Nat) = 1) = false from rfl), -List.getD_eq_getElem?_getD], rfl⟩, by omega, by omega, by omega, by omega⟩, by rw [ht]; exact hP9, hD9⟩, hS.F ht⟩) hS.2.2 dX5_readClause_62
  · refine lv_aload_n hx hb dX5_readClause_0 rfl (lv_at hl 0 rfl) ?_
    refine va_get (D := D) (ci := 5) (v := .ref h1) (C := RX5) (T := TX5) (N := 4) hx hb hts inX5 hown hK hP 0 rfl rfl 0 (by decide) (hts _ tw_146) (fun _ h9 => h9) rfl dX5_readClause_1 ?_
    refine lv_iload_n hx hb dX5_readClause_4 rfl (lv_at hl 2 rfl) ?_
    refine lv_aload_n hx hb dX5_readClause_5 rfl (lv_at hl 1 rfl) ?_
    refine va_getsN (A := A) hx hb (hZ.2.2.2.2.1.narrow hAlo) hS hown ((hZ.2.2.2.2.2.2.2.2.1.2.1 (RX5, 106, "LastPlace", "LEAST", "[I", RX7) (List.mem_of_getElem? (i := 1) rfl)).use rfl) (fun _ h9 => h9) dX5_readClause_6 ?_
    refine lv_iload_n hx hb dX5_readClause_9 rfl (lv_at hl 2 rfl) ?_
    refine va_ti (A := A) hx hb (hZ.2.2.2.2.2.1.narrow hAlo) hS (i := 5) (by unfold vp_in; decide) (v := .int 0) rfl dX5_readClause_10 ?_
    refine va_getsN (A := A) hx hb (hZ.2.2.1.narrow hAlo) hS hown ((hZ.2.2.2.2.2.2.2.2.1.2.1 (RX5, 109, "LastPlace", "MOST", "[I", RX7) (List.mem_of_getElem? (i := 2) rfl)).use rfl) (fun _ h9 => h9) dX5_readClause_11 ?_
    refine lv_iload_n hx hb dX5_readClause_14 rfl (lv_at hl 2 rfl) ?_
    refine va_ti (A := A) hx hb (hZ.2.2.2.1.narrow hAlo) hS (i := 5) (by unfold vp_in; decide) (v := .int 200) rfl dX5_readClause_15 ?_
    refine rw_i (D := D) (wr := [(h0, .inr (5, (fX5 h1 h2 h3 h4))), (aI k h1 10 (vv n see tm g))]) (va_runV (As := [.int 0, .int 200]) (rest := [.int 5, .ref h1]) ⟨hx, hb, hml, hown, hts⟩ ((y_needNumber l D k st lo x0 x1 tz ta na 0 fb fx 0 200 (by first | assumption | omega) (by first | assumption | omega) (by decide)) s.heap.size) (cwV 2 hts (gV tw_467 tw_468 tw_469 tw_80 tw_470) rfl rfl rfl (by decide +kernel) ⟨Nat.le_of_ble_eq_true rfl, Nat.le_of_ble_eq_true rfl⟩) (pV hS hAlo hlo hP hK (va_Dlo hD hAlo) hZ [2, 3] (by decide) rfl (ci := 6) (q := (RX6, TX6, 6)) (q0 := 0) rfl rfl) rfl rfl hl.1 rfl (lv_room (Nat.le_of_ble_eq_true rfl)) dX5_readClause_16 ⟨Nat.le_of_ble_eq_true rfl, Nat.le_of_ble_eq_true rfl⟩) hS hA hP hD [2, 3] [0, 1] rfl rfl (by decide) (by decide) (fun r_57 u H locs hw_57 hP hD hS => ?_)
    obtain ⟨ta__57, na__57, fn__57, fb__57⟩ := u
    replace hP : va_P D classes [(h0, .inr (5, (fX5 h1 h2 h3 h4))), (aI k h1 10 (vv n see tm g)), (x0, .inr (6, (fX6 x1 (nI tz) (nI ta__57) na__57 fn__57 fb__57))), (aB k x1 240 fx)] H := hP
    replace hD : va_D A [(h0, .inr (5, (fX5 h1 h2 h3 h4))), (aI k h1 10 (vv n see tm g)), (x0, .inr (6, (fX6 x1 (nI tz) (nI ta__57) na__57 fn__57 fb__57))), (aB k x1 240 fx)] := hD
    try dsimp only at hw_57
    obtain ⟨pl_58, nq_58, rfl, hq_58⟩ := hw_57.2.1 rfl
    rw [show decide ((0 : Int32) < 0) = false from by decide] at hq_58
    rcases hq_58 with ⟨rfl, hq_58⟩ | ⟨rfl, hr_58, rfl, hq_58⟩ | ⟨rfl, hr_58, rfl, hq_58⟩
    · refine va_iast hx hb hK hP hD hS 1 1 rfl rfl (by unfold vp_in; decide) dX5_readClause_19 (fun H locs hP hD hS => ?_)
      replace hP : va_P D classes [(h0, .inr (5, (fX5 h1 h2 h3 h4))), (aI k h1 10 (upd (vv n see tm g) (Int32.toNatClampNeg 5) r_57)), (x0, .inr (6, (fX6 x1 (nI tz) (nI ta__57) (nI nq_58) 0 fb__57))), (aB k x1 240 fx)] H := hP
      replace hD : va_D A [(h0, .inr (5, (fX5 h1 h2 h3 h4))), (aI k h1 10 (upd (vv n see tm g) (Int32.toNatClampNeg 5) r_57)), (x0, .inr (6, (fX6 x1 (nI tz) (nI ta__57) (nI nq_58) 0 fb__57))), (aB k x1 240 fx)] := hD
      rw [show upd (vv n see tm g) (Int32.toNatClampNeg 5) r_57 = vv n see tm (upd g 5 r_57) from vv_upd _ _ _ _ _ _ (by decide) (by decide) (by decide)] at hP hD
      obtain ⟨gg_60, hgg_60⟩ : ∃ z : Nat → Int32, z = upd g 5 r_57 := ⟨_, rfl⟩
      rw [← hgg_60] at hP hD
      replace hP : va_P D classes [(h0, .inr (5, (fX5 h1 h2 h3 h4))), (aI k h1 10 (vv n see tm gg_60)), (x0, .inr (6, (fX6 x1 (nI tz) (nI ta__57) (nI nq_58) 0 fb__57))), (aB k x1 240 fx)] H := hP
      replace hD : va_D A [(h0, .inr (5, (fX5 h1 h2 h3 h4))), (aI k h1 10 (vv n see tm gg_60)), (x0, .inr (6, (fX6 x1 (nI tz) (nI ta__57) (nI nq_58) 0 fb__57))), (aB k x1 240 fx)] := hD
      refine lv_iload_n hx hb dX5_readClause_20 rfl (lv_at hl 2 rfl) ?_
      refine lv_bipush (v := 7) hx hb dX5_readClause_21 (by decide) ?_
      refine lv_icmp_ne (tgt := 58) hx hb dX5_readClause_23 (by decide) (fun _ => ?_) (fun h => absurd h (by decide))
      refine lv_aload_n hx hb dX5_readClause_58 rfl (lv_at hl 1 rfl) ?_
      refine rw_v (D := D) (wr := [(h0, .inr (5, (fX5 h1 h2 h3 h4))), (aI k h1 10 (vv n see tm gg_60))]) (va_runV (As := []) (rest := []) ⟨hx, hb, hml, hown, hts⟩ ((y_needSemicolon l D k st lo x0 x1 tz ta__57 (nI nq_58) 0 fb__57 fx (by first | assumption | omega) (by first | assumption | omega)) H.size) (cwV 0 hts (gV tw_488 tw_489 tw_490 tw_80 tw_491) rfl rfl rfl (by decide +kernel) ⟨Nat.le_of_ble_eq_true rfl, Nat.le_of_ble_eq_true rfl⟩) (pV hS hAlo hlo hP hK (va_Dlo hD hAlo) hZ [2, 3] (by decide) rfl (ci := 6) (q := (RX6, TX6, 6)) (q0 := 0) rfl rfl) rfl rfl hl.1 rfl (lv_room (Nat.le_of_ble_eq_true rfl)) dX5_readClause_59 ⟨Nat.le_of_ble_eq_true rfl, Nat.le_of_ble_eq_true rfl⟩) hS hA hP hD [2, 3] [0, 1] rfl rfl (by decide) (by decide) (fun u H locs hw_61 hP hD hS => ?_)
      obtain ⟨ta__61, fn__61, fb__61⟩ := u
      replace hP : va_P D classes [(h0, .inr (5, (fX5 h1 h2 h3 h4))), (aI k h1 10 (vv n see tm gg_60)), (x0, .inr (6, (fX6 x1 (nI tz) (nI ta__61) (nI nq_58) fn__61 fb__61))), (aB k x1 240 fx)] H := hP
      replace hD : va_D A [(h0, .inr (5, (fX5 h1 h2 h3 h4))), (aI k h1 10 (vv n see tm gg_60)), (x0, .inr (6, (fX6 x1 (nI tz) (nI ta__61) (nI nq_58) fn__61 fb__61))), (aB k x1 240 fx)] := hD
      try dsimp only at hw_61
      rcases hw_61.2.1 rfl with ⟨rfl, hq_62⟩ | ⟨rfl, pl_62, hq_62, rfl⟩
      · have hP9 := hP.sub (ws' := [(h0, .inr (5, (fX5 h1 h2 h3 h4))), (aI k h1 10 (vv n see tm gg_60)), (x0, .inr (6, (fX6 x1 (nI tz) (nI ta__61) (nI nq_58) 0 fb__61))), (aB k x1 240 fx)]) [0, 1, 2, 3] rfl
        have hD9 := hD.sub (ws' := [(h0, .inr (5, (fX5 h1 h2 h3 h4))), (aI k h1 10 (vv n see tm gg_60)), (x0, .inr (6, (fX6 x1 (nI tz) (nI ta__61) (nI nq_58) 0 fb__61))), (aB k x1 240 fx)]) [0, 1, 2, 3] (by decide) rfl
        exact W.vret hx hb hr (fun t ht hW => ⟨⟨(see, tm, gg_60, ta__61, (nI nq_58), 0, fb__61), rfl, ⟨.inl ⟨rfl, r_57, 0, (by simp [siC, siF, hq_58, hq_62, (show zLE 5 = 0 from rfl), (show zMO 5 = 200 from rfl), (show decide ((5 : Nat) = 1) = false from rfl), -List.getD_eq_getElem?_getD]), by rw [if_neg (by decide), vv_upd _ _ _ _ 5 _ (by decide) (by decide) (by decide), hgg_60]⟩, by omega, by omega, by omega, by omega⟩, by rw [ht]; exact hP9, hD9⟩, hS.F ht⟩) hS.2.2 dX5_readClause_62
      · have hP9 := hP.sub (ws' := [(h0, .inr (5, (fX5 h1 h2 h3 h4))), (aI k h1 10 (vv n see tm gg_60)), (x0, .inr (6, (fX6 x1 (nI tz) (nI ta__61) (nI nq_58) 1 (nI pl_62)))), (aB k x1 240 fx)]) [0, 1, 2, 3] rfl
        have hD9 := hD.sub (ws' := [(h0, .inr (5, (fX5 h1 h2 h3 h4))), (aI k h1 10 (vv n see tm gg_60)), (x0, .inr (6, (fX6 x1 (nI tz) (nI ta__61) (nI nq_58) 1 (nI pl_62)))), (aB k x1 240 fx)]) [0, 1, 2, 3] (by decide) rfl
        exact W.vret hx hb hr (fun t ht hW => ⟨⟨(see, tm, gg_60, ta__61, (nI nq_58), 1, (nI pl_62)), rfl, ⟨.inr ⟨1, pl_62, rfl, by decide, by decide, by simp [siC, siF, hq_58, hq_62, (show zLE 5 = 0 from rfl), (show zMO 5 = 200 from rfl), (show decide ((5 : Nat) = 1) = false from rfl), -List.getD_eq_getElem?_getD], by simp [siC, siF, hq_58, hq_62, (show zLE 5 = 0 from rfl), (show zMO 5 = 200 from rfl), (show decide ((5 : Nat) = 1) = false from rfl), -List.getD_eq_getElem?_getD], rfl⟩, by omega, by omega, by omega, by omega⟩, by rw [ht]; exact hP9, hD9⟩, hS.F ht⟩) hS.2.2 dX5_readClause_62
    · refine va_iast hx hb hK hP hD hS 1 1 rfl rfl (by unfold vp_in; decide) dX5_readClause_19 (fun H locs hP hD hS => ?_)
      replace hP : va_P D classes [(h0, .inr (5, (fX5 h1 h2 h3 h4))), (aI k h1 10 (upd (vv n see tm g) (Int32.toNatClampNeg 5) r_57)), (x0, .inr (6, (fX6 x1 (nI tz) (nI ta__57) (nI nq_58) 1 (nI pl_58)))), (aB k x1 240 fx)] H := hP
      replace hD : va_D A [(h0, .inr (5, (fX5 h1 h2 h3 h4))), (aI k h1 10 (upd (vv n see tm g) (Int32.toNatClampNeg 5) r_57)), (x0, .inr (6, (fX6 x1 (nI tz) (nI ta__57) (nI nq_58) 1 (nI pl_58)))), (aB k x1 240 fx)] := hD
      rw [show upd (vv n see tm g) (Int32.toNatClampNeg 5) r_57 = vv n see tm (upd g 5 r_57) from vv_upd _ _ _ _ _ _ (by decide) (by decide) (by decide)] at hP hD
      obtain ⟨gg_64, hgg_64⟩ : ∃ z : Nat → Int32, z = upd g 5 r_57 := ⟨_, rfl⟩
      rw [← hgg_64] at hP hD
      replace hP : va_P D classes [(h0, .inr (5, (fX5 h1 h2 h3 h4))), (aI k h1 10 (vv n see tm gg_64)), (x0, .inr (6, (fX6 x1 (nI tz) (nI ta__57) (nI nq_58) 1 (nI pl_58)))), (aB k x1 240 fx)] H := hP
      replace hD : va_D A [(h0, .inr (5, (fX5 h1 h2 h3 h4))), (aI k h1 10 (vv n see tm gg_64)), (x0, .inr (6, (fX6 x1 (nI tz) (nI ta__57) (nI nq_58) 1 (nI pl_58)))), (aB k x1 240 fx)] := hD
      refine lv_iload_n hx hb dX5_readClause_20 rfl (lv_at hl 2 rfl) ?_
      refine lv_bipush (v := 7) hx hb dX5_readClause_21 (by decide) ?_
      refine lv_icmp_ne (tgt := 58) hx hb dX5_readClause_23 (by decide) (fun _ => ?_) (fun h => absurd h (by decide))
      refine lv_aload_n hx hb dX5_readClause_58 rfl (lv_at hl 1 rfl) ?_
      refine rw_v (D := D) (wr := [(h0, .inr (5, (fX5 h1 h2 h3 h4))), (aI k h1 10 (vv n see tm gg_64))]) (va_runV (As := []) (rest := []) ⟨hx, hb, hml, hown, hts⟩ ((y_needSemicolon l D k st lo x0 x1 tz ta__57 (nI nq_58) 1 (nI pl_58) fx (by first | assumption | omega) (by first | assumption | omega)) H.size) (cwV 0 hts (gV tw_488 tw_489 tw_490 tw_80 tw_491) rfl rfl rfl (by decide +kernel) ⟨Nat.le_of_ble_eq_true rfl, Nat.le_of_ble_eq_true rfl⟩) (pV hS hAlo hlo hP hK (va_Dlo hD hAlo) hZ [2, 3] (by decide) rfl (ci := 6) (q := (RX6, TX6, 6)) (q0 := 0) rfl rfl) rfl rfl hl.1 rfl (lv_room (Nat.le_of_ble_eq_true rfl)) dX5_readClause_59 ⟨Nat.le_of_ble_eq_true rfl, Nat.le_of_ble_eq_true rfl⟩) hS hA hP hD [2, 3] [0, 1] rfl rfl (by decide) (by decide) (fun u H locs hw_65 hP hD hS => ?_)
      obtain ⟨ta__65, fn__65, fb__65⟩ := u
      replace hP : va_P D classes [(h0, .inr (5, (fX5 h1 h2 h3 h4))), (aI k h1 10 (vv n see tm gg_64)), (x0, .inr (6, (fX6 x1 (nI tz) (nI ta__65) (nI nq_58) fn__65 fb__65))), (aB k x1 240 fx)] H := hP
      replace hD : va_D A [(h0, .inr (5, (fX5 h1 h2 h3 h4))), (aI k h1 10 (vv n see tm gg_64)), (x0, .inr (6, (fX6 x1 (nI tz) (nI ta__65) (nI nq_58) fn__65 fb__65))), (aB k x1 240 fx)] := hD
      try dsimp only at hw_65
      obtain ⟨hs0_66, hs1_66⟩ := hw_65.1 (by decide)
      replace hs0_66 := hs0_66.symm
      subst hs0_66
      replace hs1_66 := hs1_66.symm
      subst hs1_66
      have hP9 := hP.sub (ws' := [(h0, .inr (5, (fX5 h1 h2 h3 h4))), (aI k h1 10 (vv n see tm gg_64)), (x0, .inr (6, (fX6 x1 (nI tz) (nI ta__65) (nI nq_58) 1 (nI pl_58)))), (aB k x1 240 fx)]) [0, 1, 2, 3] rfl
      have hD9 := hD.sub (ws' := [(h0, .inr (5, (fX5 h1 h2 h3 h4))), (aI k h1 10 (vv n see tm gg_64)), (x0, .inr (6, (fX6 x1 (nI tz) (nI ta__65) (nI nq_58) 1 (nI pl_58)))), (aB k x1 240 fx)]) [0, 1, 2, 3] (by decide) rfl
      exact W.vret hx hb hr (fun t ht hW => ⟨⟨(see, tm, gg_64, ta__65, (nI nq_58), 1, (nI pl_58)), rfl, ⟨.inr ⟨1, pl_58, rfl, by decide, by decide, by simp [siC, siF, hq_58, (show zLE 5 = 0 from rfl), (show zMO 5 = 200 from rfl), (show decide ((5 : Nat) = 1) = false from rfl), -List.getD_eq_getElem?_getD], by simp [siC, siF, hq_58, (show zLE 5 = 0 from rfl), (show zMO 5 = 200 from rfl), (show decide ((5 : Nat) = 1) = false from rfl), -List.getD_eq_getElem?_getD], rfl⟩, by omega, by omega, by omega, by omega⟩, by rw [ht]; exact hP9, hD9⟩, hS.F ht⟩) hS.2.2 dX5_readClause_62
    · refine va_iast hx hb hK hP hD hS 1 1 rfl rfl (by unfold vp_in; decide) dX5_readClause_19 (fun H locs hP hD hS => ?_)
      replace hP : va_P D classes [(h0, .inr (5, (fX5 h1 h2 h3 h4))), (aI k h1 10 (upd (vv n see tm g) (Int32.toNatClampNeg 5) r_57)), (x0, .inr (6, (fX6 x1 (nI tz) (nI ta__57) (nI nq_58) 2 (nI pl_58)))), (aB k x1 240 fx)] H := hP
      replace hD : va_D A [(h0, .inr (5, (fX5 h1 h2 h3 h4))), (aI k h1 10 (upd (vv n see tm g) (Int32.toNatClampNeg 5) r_57)), (x0, .inr (6, (fX6 x1 (nI tz) (nI ta__57) (nI nq_58) 2 (nI pl_58)))), (aB k x1 240 fx)] := hD
      rw [show upd (vv n see tm g) (Int32.toNatClampNeg 5) r_57 = vv n see tm (upd g 5 r_57) from vv_upd _ _ _ _ _ _ (by decide) (by decide) (by decide)] at hP hD
      obtain ⟨gg_68, hgg_68⟩ : ∃ z : Nat → Int32, z = upd g 5 r_57 := ⟨_, rfl⟩
      rw [← hgg_68] at hP hD
      replace hP : va_P D classes [(h0, .inr (5, (fX5 h1 h2 h3 h4))), (aI k h1 10 (vv n see tm gg_68)), (x0, .inr (6, (fX6 x1 (nI tz) (nI ta__57) (nI nq_58) 2 (nI pl_58)))), (aB k x1 240 fx)] H := hP
      replace hD : va_D A [(h0, .inr (5, (fX5 h1 h2 h3 h4))), (aI k h1 10 (vv n see tm gg_68)), (x0, .inr (6, (fX6 x1 (nI tz) (nI ta__57) (nI nq_58) 2 (nI pl_58)))), (aB k x1 240 fx)] := hD
      refine lv_iload_n hx hb dX5_readClause_20 rfl (lv_at hl 2 rfl) ?_
      refine lv_bipush (v := 7) hx hb dX5_readClause_21 (by decide) ?_
      refine lv_icmp_ne (tgt := 58) hx hb dX5_readClause_23 (by decide) (fun _ => ?_) (fun h => absurd h (by decide))
      refine lv_aload_n hx hb dX5_readClause_58 rfl (lv_at hl 1 rfl) ?_
      refine rw_v (D := D) (wr := [(h0, .inr (5, (fX5 h1 h2 h3 h4))), (aI k h1 10 (vv n see tm gg_68))]) (va_runV (As := []) (rest := []) ⟨hx, hb, hml, hown, hts⟩ ((y_needSemicolon l D k st lo x0 x1 tz ta__57 (nI nq_58) 2 (nI pl_58) fx (by first | assumption | omega) (by first | assumption | omega)) H.size) (cwV 0 hts (gV tw_488 tw_489 tw_490 tw_80 tw_491) rfl rfl rfl (by decide +kernel) ⟨Nat.le_of_ble_eq_true rfl, Nat.le_of_ble_eq_true rfl⟩) (pV hS hAlo hlo hP hK (va_Dlo hD hAlo) hZ [2, 3] (by decide) rfl (ci := 6) (q := (RX6, TX6, 6)) (q0 := 0) rfl rfl) rfl rfl hl.1 rfl (lv_room (Nat.le_of_ble_eq_true rfl)) dX5_readClause_59 ⟨Nat.le_of_ble_eq_true rfl, Nat.le_of_ble_eq_true rfl⟩) hS hA hP hD [2, 3] [0, 1] rfl rfl (by decide) (by decide) (fun u H locs hw_69 hP hD hS => ?_)
      obtain ⟨ta__69, fn__69, fb__69⟩ := u
      replace hP : va_P D classes [(h0, .inr (5, (fX5 h1 h2 h3 h4))), (aI k h1 10 (vv n see tm gg_68)), (x0, .inr (6, (fX6 x1 (nI tz) (nI ta__69) (nI nq_58) fn__69 fb__69))), (aB k x1 240 fx)] H := hP
      replace hD : va_D A [(h0, .inr (5, (fX5 h1 h2 h3 h4))), (aI k h1 10 (vv n see tm gg_68)), (x0, .inr (6, (fX6 x1 (nI tz) (nI ta__69) (nI nq_58) fn__69 fb__69))), (aB k x1 240 fx)] := hD
      try dsimp only at hw_69
      obtain ⟨hs0_70, hs1_70⟩ := hw_69.1 (by decide)
      replace hs0_70 := hs0_70.symm
      subst hs0_70
      replace hs1_70 := hs1_70.symm
      subst hs1_70
      have hP9 := hP.sub (ws' := [(h0, .inr (5, (fX5 h1 h2 h3 h4))), (aI k h1 10 (vv n see tm gg_68)), (x0, .inr (6, (fX6 x1 (nI tz) (nI ta__69) (nI nq_58) 2 (nI pl_58)))), (aB k x1 240 fx)]) [0, 1, 2, 3] rfl
      have hD9 := hD.sub (ws' := [(h0, .inr (5, (fX5 h1 h2 h3 h4))), (aI k h1 10 (vv n see tm gg_68)), (x0, .inr (6, (fX6 x1 (nI tz) (nI ta__69) (nI nq_58) 2 (nI pl_58)))), (aB k x1 240 fx)]) [0, 1, 2, 3] (by decide) rfl
      exact W.vret hx hb hr (fun t ht hW => ⟨⟨(see, tm, gg_68, ta__69, (nI nq_58), 2, (nI pl_58)), rfl, ⟨.inr ⟨2, pl_58, rfl, by decide, by decide, by simp [siC, siF, hq_58, (show zLE 5 = 0 from rfl), (show zMO 5 = 200 from rfl), (show decide ((5 : Nat) = 1) = false from rfl), -List.getD_eq_getElem?_getD], by simp [siC, siF, hq_58, (show zLE 5 = 0 from rfl), (show zMO 5 = 200 from rfl), (show decide ((5 : Nat) = 1) = false from rfl), -List.getD_eq_getElem?_getD], rfl⟩, by omega, by omega, by omega, by omega⟩, by rw [ht]; exact hP9, hD9⟩, hS.F ht⟩) hS.2.2 dX5_readClause_62
  · refine lv_aload_n hx hb dX5_readClause_0 rfl (lv_at hl 0 rfl) ?_
    refine va_get (D := D) (ci := 5) (v := .ref h1) (C := RX5) (T := TX5) (N := 4) hx hb hts inX5 hown hK hP 0 rfl rfl 0 (by decide) (hts _ tw_146) (fun _ h9 => h9) rfl dX5_readClause_1 ?_
    refine lv_iload_n hx hb dX5_readClause_4 rfl (lv_at hl 2 rfl) ?_
    refine lv_aload_n hx hb dX5_readClause_5 rfl (lv_at hl 1 rfl) ?_
    refine va_getsN (A := A) hx hb (hZ.2.2.2.2.1.narrow hAlo) hS hown ((hZ.2.2.2.2.2.2.2.2.1.2.1 (RX5, 106, "LastPlace", "LEAST", "[I", RX7) (List.mem_of_getElem? (i := 1) rfl)).use rfl) (fun _ h9 => h9) dX5_readClause_6 ?_
    refine lv_iload_n hx hb dX5_readClause_9 rfl (lv_at hl 2 rfl) ?_
    refine va_ti (A := A) hx hb (hZ.2.2.2.2.2.1.narrow hAlo) hS (i := 6) (by unfold vp_in; decide) (v := .int 0) rfl dX5_readClause_10 ?_
    refine va_getsN (A := A) hx hb (hZ.2.2.1.narrow hAlo) hS hown ((hZ.2.2.2.2.2.2.2.2.1.2.1 (RX5, 109, "LastPlace", "MOST", "[I", RX7) (List.mem_of_getElem? (i := 2) rfl)).use rfl) (fun _ h9 => h9) dX5_readClause_11 ?_
    refine lv_iload_n hx hb dX5_readClause_14 rfl (lv_at hl 2 rfl) ?_
    refine va_ti (A := A) hx hb (hZ.2.2.2.1.narrow hAlo) hS (i := 6) (by unfold vp_in; decide) (v := .int 2) rfl dX5_readClause_15 ?_
    refine rw_i (D := D) (wr := [(h0, .inr (5, (fX5 h1 h2 h3 h4))), (aI k h1 10 (vv n see tm g))]) (va_runV (As := [.int 0, .int 2]) (rest := [.int 6, .ref h1]) ⟨hx, hb, hml, hown, hts⟩ ((y_needNumber l D k st lo x0 x1 tz ta na 0 fb fx 0 2 (by first | assumption | omega) (by first | assumption | omega) (by decide)) s.heap.size) (cwV 2 hts (gV tw_467 tw_468 tw_469 tw_80 tw_470) rfl rfl rfl (by decide +kernel) ⟨Nat.le_of_ble_eq_true rfl, Nat.le_of_ble_eq_true rfl⟩) (pV hS hAlo hlo hP hK (va_Dlo hD hAlo) hZ [2, 3] (by decide) rfl (ci := 6) (q := (RX6, TX6, 6)) (q0 := 0) rfl rfl) rfl rfl hl.1 rfl (lv_room (Nat.le_of_ble_eq_true rfl)) dX5_readClause_16 ⟨Nat.le_of_ble_eq_true rfl, Nat.le_of_ble_eq_true rfl⟩) hS hA hP hD [2, 3] [0, 1] rfl rfl (by decide) (by decide) (fun r_71 u H locs hw_71 hP hD hS => ?_)
    obtain ⟨ta__71, na__71, fn__71, fb__71⟩ := u
    replace hP : va_P D classes [(h0, .inr (5, (fX5 h1 h2 h3 h4))), (aI k h1 10 (vv n see tm g)), (x0, .inr (6, (fX6 x1 (nI tz) (nI ta__71) na__71 fn__71 fb__71))), (aB k x1 240 fx)] H := hP
    replace hD : va_D A [(h0, .inr (5, (fX5 h1 h2 h3 h4))), (aI k h1 10 (vv n see tm g)), (x0, .inr (6, (fX6 x1 (nI tz) (nI ta__71) na__71 fn__71 fb__71))), (aB k x1 240 fx)] := hD
    try dsimp only at hw_71
    obtain ⟨pl_72, nq_72, rfl, hq_72⟩ := hw_71.2.1 rfl
    rw [show decide ((0 : Int32) < 0) = false from by decide] at hq_72
    rcases hq_72 with ⟨rfl, hq_72⟩ | ⟨rfl, hr_72, rfl, hq_72⟩ | ⟨rfl, hr_72, rfl, hq_72⟩
    · obtain ⟨nb_73, hnl_73, hnh_73, rfl⟩ := inB_ofc (a := 0) (b := 2) (by omega) (by omega) hw_71.2.2.2.2
      refine va_iast hx hb hK hP hD hS 1 1 rfl rfl (by unfold vp_in; decide) dX5_readClause_19 (fun H locs hP hD hS => ?_)
      replace hP : va_P D classes [(h0, .inr (5, (fX5 h1 h2 h3 h4))), (aI k h1 10 (upd (vv n see tm g) (Int32.toNatClampNeg 6) (nI nb_73))), (x0, .inr (6, (fX6 x1 (nI tz) (nI ta__71) (nI nq_72) 0 fb__71))), (aB k x1 240 fx)] H := hP
      replace hD : va_D A [(h0, .inr (5, (fX5 h1 h2 h3 h4))), (aI k h1 10 (upd (vv n see tm g) (Int32.toNatClampNeg 6) (nI nb_73))), (x0, .inr (6, (fX6 x1 (nI tz) (nI ta__71) (nI nq_72) 0 fb__71))), (aB k x1 240 fx)] := hD
      rw [show upd (vv n see tm g) (Int32.toNatClampNeg 6) (nI nb_73) = vv n nb_73 tm g from vv_upd6 _ _ _ _ _] at hP hD
      replace hP : va_P D classes [(h0, .inr (5, (fX5 h1 h2 h3 h4))), (aI k h1 10 (vv n nb_73 tm g)), (x0, .inr (6, (fX6 x1 (nI tz) (nI ta__71) (nI nq_72) 0 fb__71))), (aB k x1 240 fx)] H := hP
      replace hD : va_D A [(h0, .inr (5, (fX5 h1 h2 h3 h4))), (aI k h1 10 (vv n nb_73 tm g)), (x0, .inr (6, (fX6 x1 (nI tz) (nI ta__71) (nI nq_72) 0 fb__71))), (aB k x1 240 fx)] := hD
      refine lv_iload_n hx hb dX5_readClause_20 rfl (lv_at hl 2 rfl) ?_
      refine lv_bipush (v := 7) hx hb dX5_readClause_21 (by decide) ?_
      refine lv_icmp_ne (tgt := 58) hx hb dX5_readClause_23 (by decide) (fun _ => ?_) (fun h => absurd h (by decide))
      refine lv_aload_n hx hb dX5_readClause_58 rfl (lv_at hl 1 rfl) ?_
      refine rw_v (D := D) (wr := [(h0, .inr (5, (fX5 h1 h2 h3 h4))), (aI k h1 10 (vv n nb_73 tm g))]) (va_runV (As := []) (rest := []) ⟨hx, hb, hml, hown, hts⟩ ((y_needSemicolon l D k st lo x0 x1 tz ta__71 (nI nq_72) 0 fb__71 fx (by first | assumption | omega) (by first | assumption | omega)) H.size) (cwV 0 hts (gV tw_488 tw_489 tw_490 tw_80 tw_491) rfl rfl rfl (by decide +kernel) ⟨Nat.le_of_ble_eq_true rfl, Nat.le_of_ble_eq_true rfl⟩) (pV hS hAlo hlo hP hK (va_Dlo hD hAlo) hZ [2, 3] (by decide) rfl (ci := 6) (q := (RX6, TX6, 6)) (q0 := 0) rfl rfl) rfl rfl hl.1 rfl (lv_room (Nat.le_of_ble_eq_true rfl)) dX5_readClause_59 ⟨Nat.le_of_ble_eq_true rfl, Nat.le_of_ble_eq_true rfl⟩) hS hA hP hD [2, 3] [0, 1] rfl rfl (by decide) (by decide) (fun u H locs hw_76 hP hD hS => ?_)
      obtain ⟨ta__76, fn__76, fb__76⟩ := u
      replace hP : va_P D classes [(h0, .inr (5, (fX5 h1 h2 h3 h4))), (aI k h1 10 (vv n nb_73 tm g)), (x0, .inr (6, (fX6 x1 (nI tz) (nI ta__76) (nI nq_72) fn__76 fb__76))), (aB k x1 240 fx)] H := hP
      replace hD : va_D A [(h0, .inr (5, (fX5 h1 h2 h3 h4))), (aI k h1 10 (vv n nb_73 tm g)), (x0, .inr (6, (fX6 x1 (nI tz) (nI ta__76) (nI nq_72) fn__76 fb__76))), (aB k x1 240 fx)] := hD
      try dsimp only at hw_76
      rcases hw_76.2.1 rfl with ⟨rfl, hq_77⟩ | ⟨rfl, pl_77, hq_77, rfl⟩
      · have hP9 := hP.sub (ws' := [(h0, .inr (5, (fX5 h1 h2 h3 h4))), (aI k h1 10 (vv n nb_73 tm g)), (x0, .inr (6, (fX6 x1 (nI tz) (nI ta__76) (nI nq_72) 0 fb__76))), (aB k x1 240 fx)]) [0, 1, 2, 3] rfl
        have hD9 := hD.sub (ws' := [(h0, .inr (5, (fX5 h1 h2 h3 h4))), (aI k h1 10 (vv n nb_73 tm g)), (x0, .inr (6, (fX6 x1 (nI tz) (nI ta__76) (nI nq_72) 0 fb__76))), (aB k x1 240 fx)]) [0, 1, 2, 3] (by decide) rfl
        exact W.vret hx hb hr (fun t ht hW => ⟨⟨(nb_73, tm, g, ta__76, (nI nq_72), 0, fb__76), rfl, ⟨.inl ⟨rfl, (nI nb_73), 0, (by simp [siC, siF, hq_72, hq_77, nI_clamp (show nb_73 < 2 ^ 31 by omega), (show zLE 6 = 0 from rfl), (show zMO 6 = 2 from rfl), (show decide ((6 : Nat) = 1) = false from rfl), -List.getD_eq_getElem?_getD]), by rw [if_neg (by decide), vv_upd6]⟩, by omega, by omega, by omega, by omega⟩, by rw [ht]; exact hP9, hD9⟩, hS.F ht⟩) hS.2.2 dX5_readClause_62
      · have hP9 := hP.sub (ws' := [(h0, .inr (5, (fX5 h1 h2 h3 h4))), (aI k h1 10 (vv n nb_73 tm g)), (x0, .inr (6, (fX6 x1 (nI tz) (nI ta__76) (nI nq_72) 1 (nI pl_77)))), (aB k x1 240 fx)]) [0, 1, 2, 3] rfl
        have hD9 := hD.sub (ws' := [(h0, .inr (5, (fX5 h1 h2 h3 h4))), (aI k h1 10 (vv n nb_73 tm g)), (x0, .inr (6, (fX6 x1 (nI tz) (nI ta__76) (nI nq_72) 1 (nI pl_77)))), (aB k x1 240 fx)]) [0, 1, 2, 3] (by decide) rfl
        exact W.vret hx hb hr (fun t ht hW => ⟨⟨(nb_73, tm, g, ta__76, (nI nq_72), 1, (nI pl_77)), rfl, ⟨.inr ⟨1, pl_77, rfl, by decide, by decide, by simp [siC, siF, hq_72, hq_77, nI_clamp (show nb_73 < 2 ^ 31 by omega), (show zLE 6 = 0 from rfl), (show zMO 6 = 2 from rfl), (show decide ((6 : Nat) = 1) = false from rfl), -List.getD_eq_getElem?_getD], by simp [siC, siF, hq_72, hq_77, nI_clamp (show nb_73 < 2 ^ 31 by omega), (show zLE 6 = 0 from rfl), (show zMO 6 = 2 from rfl), (show decide ((6 : Nat) = 1) = false from rfl), -List.getD_eq_getElem?_getD], rfl⟩, by omega, by omega, by omega, by omega⟩, by rw [ht]; exact hP9, hD9⟩, hS.F ht⟩) hS.2.2 dX5_readClause_62
    · obtain ⟨nb_78, hnl_78, hnh_78, rfl⟩ := inB_ofc (a := 0) (b := 2) (by omega) (by omega) hw_71.2.2.2.2
      refine va_iast hx hb hK hP hD hS 1 1 rfl rfl (by unfold vp_in; decide) dX5_readClause_19 (fun H locs hP hD hS => ?_)
      replace hP : va_P D classes [(h0, .inr (5, (fX5 h1 h2 h3 h4))), (aI k h1 10 (upd (vv n see tm g) (Int32.toNatClampNeg 6) (nI nb_78))), (x0, .inr (6, (fX6 x1 (nI tz) (nI ta__71) (nI nq_72) 1 (nI pl_72)))), (aB k x1 240 fx)] H := hP
      replace hD : va_D A [(h0, .inr (5, (fX5 h1 h2 h3 h4))), (aI k h1 10 (upd (vv n see tm g) (Int32.toNatClampNeg 6) (nI nb_78))), (x0, .inr (6, (fX6 x1 (nI tz) (nI ta__71) (nI nq_72) 1 (nI pl_72)))), (aB k x1 240 fx)] := hD
      rw [show upd (vv n see tm g) (Int32.toNatClampNeg 6) (nI nb_78) = vv n nb_78 tm g from vv_upd6 _ _ _ _ _] at hP hD
      replace hP : va_P D classes [(h0, .inr (5, (fX5 h1 h2 h3 h4))), (aI k h1 10 (vv n nb_78 tm g)), (x0, .inr (6, (fX6 x1 (nI tz) (nI ta__71) (nI nq_72) 1 (nI pl_72)))), (aB k x1 240 fx)] H := hP
      replace hD : va_D A [(h0, .inr (5, (fX5 h1 h2 h3 h4))), (aI k h1 10 (vv n nb_78 tm g)), (x0, .inr (6, (fX6 x1 (nI tz) (nI ta__71) (nI nq_72) 1 (nI pl_72)))), (aB k x1 240 fx)] := hD
      refine lv_iload_n hx hb dX5_readClause_20 rfl (lv_at hl 2 rfl) ?_
      refine lv_bipush (v := 7) hx hb dX5_readClause_21 (by decide) ?_
      refine lv_icmp_ne (tgt := 58) hx hb dX5_readClause_23 (by decide) (fun _ => ?_) (fun h => absurd h (by decide))
      refine lv_aload_n hx hb dX5_readClause_58 rfl (lv_at hl 1 rfl) ?_
      refine rw_v (D := D) (wr := [(h0, .inr (5, (fX5 h1 h2 h3 h4))), (aI k h1 10 (vv n nb_78 tm g))]) (va_runV (As := []) (rest := []) ⟨hx, hb, hml, hown, hts⟩ ((y_needSemicolon l D k st lo x0 x1 tz ta__71 (nI nq_72) 1 (nI pl_72) fx (by first | assumption | omega) (by first | assumption | omega)) H.size) (cwV 0 hts (gV tw_488 tw_489 tw_490 tw_80 tw_491) rfl rfl rfl (by decide +kernel) ⟨Nat.le_of_ble_eq_true rfl, Nat.le_of_ble_eq_true rfl⟩) (pV hS hAlo hlo hP hK (va_Dlo hD hAlo) hZ [2, 3] (by decide) rfl (ci := 6) (q := (RX6, TX6, 6)) (q0 := 0) rfl rfl) rfl rfl hl.1 rfl (lv_room (Nat.le_of_ble_eq_true rfl)) dX5_readClause_59 ⟨Nat.le_of_ble_eq_true rfl, Nat.le_of_ble_eq_true rfl⟩) hS hA hP hD [2, 3] [0, 1] rfl rfl (by decide) (by decide) (fun u H locs hw_81 hP hD hS => ?_)
      obtain ⟨ta__81, fn__81, fb__81⟩ := u
      replace hP : va_P D classes [(h0, .inr (5, (fX5 h1 h2 h3 h4))), (aI k h1 10 (vv n nb_78 tm g)), (x0, .inr (6, (fX6 x1 (nI tz) (nI ta__81) (nI nq_72) fn__81 fb__81))), (aB k x1 240 fx)] H := hP
      replace hD : va_D A [(h0, .inr (5, (fX5 h1 h2 h3 h4))), (aI k h1 10 (vv n nb_78 tm g)), (x0, .inr (6, (fX6 x1 (nI tz) (nI ta__81) (nI nq_72) fn__81 fb__81))), (aB k x1 240 fx)] := hD
      try dsimp only at hw_81
      obtain ⟨hs0_82, hs1_82⟩ := hw_81.1 (by decide)
      replace hs0_82 := hs0_82.symm
      subst hs0_82
      replace hs1_82 := hs1_82.symm
      subst hs1_82
      have hP9 := hP.sub (ws' := [(h0, .inr (5, (fX5 h1 h2 h3 h4))), (aI k h1 10 (vv n nb_78 tm g)), (x0, .inr (6, (fX6 x1 (nI tz) (nI ta__81) (nI nq_72) 1 (nI pl_72)))), (aB k x1 240 fx)]) [0, 1, 2, 3] rfl
      have hD9 := hD.sub (ws' := [(h0, .inr (5, (fX5 h1 h2 h3 h4))), (aI k h1 10 (vv n nb_78 tm g)), (x0, .inr (6, (fX6 x1 (nI tz) (nI ta__81) (nI nq_72) 1 (nI pl_72)))), (aB k x1 240 fx)]) [0, 1, 2, 3] (by decide) rfl
      exact W.vret hx hb hr (fun t ht hW => ⟨⟨(nb_78, tm, g, ta__81, (nI nq_72), 1, (nI pl_72)), rfl, ⟨.inr ⟨1, pl_72, rfl, by decide, by decide, by simp [siC, siF, hq_72, nI_clamp (show nb_78 < 2 ^ 31 by omega), (show zLE 6 = 0 from rfl), (show zMO 6 = 2 from rfl), (show decide ((6 : Nat) = 1) = false from rfl), -List.getD_eq_getElem?_getD], by simp [siC, siF, hq_72, nI_clamp (show nb_78 < 2 ^ 31 by omega), (show zLE 6 = 0 from rfl), (show zMO 6 = 2 from rfl), (show decide ((6 : Nat) = 1) = false from rfl), -List.getD_eq_getElem?_getD], rfl⟩, by omega, by omega, by omega, by omega⟩, by rw [ht]; exact hP9, hD9⟩, hS.F ht⟩) hS.2.2 dX5_readClause_62
    · obtain ⟨nb_83, hnl_83, hnh_83, rfl⟩ := inB_ofc (a := 0) (b := 2) (by omega) (by omega) hw_71.2.2.2.2
      refine va_iast hx hb hK hP hD hS 1 1 rfl rfl (by unfold vp_in; decide) dX5_readClause_19 (fun H locs hP hD hS => ?_)
      replace hP : va_P D classes [(h0, .inr (5, (fX5 h1 h2 h3 h4))), (aI k h1 10 (upd (vv n see tm g) (Int32.toNatClampNeg 6) (nI nb_83))), (x0, .inr (6, (fX6 x1 (nI tz) (nI ta__71) (nI nq_72) 2 (nI pl_72)))), (aB k x1 240 fx)] H := hP
      replace hD : va_D A [(h0, .inr (5, (fX5 h1 h2 h3 h4))), (aI k h1 10 (upd (vv n see tm g) (Int32.toNatClampNeg 6) (nI nb_83))), (x0, .inr (6, (fX6 x1 (nI tz) (nI ta__71) (nI nq_72) 2 (nI pl_72)))), (aB k x1 240 fx)] := hD
      rw [show upd (vv n see tm g) (Int32.toNatClampNeg 6) (nI nb_83) = vv n nb_83 tm g from vv_upd6 _ _ _ _ _] at hP hD
      replace hP : va_P D classes [(h0, .inr (5, (fX5 h1 h2 h3 h4))), (aI k h1 10 (vv n nb_83 tm g)), (x0, .inr (6, (fX6 x1 (nI tz) (nI ta__71) (nI nq_72) 2 (nI pl_72)))), (aB k x1 240 fx)] H := hP
      replace hD : va_D A [(h0, .inr (5, (fX5 h1 h2 h3 h4))), (aI k h1 10 (vv n nb_83 tm g)), (x0, .inr (6, (fX6 x1 (nI tz) (nI ta__71) (nI nq_72) 2 (nI pl_72)))), (aB k x1 240 fx)] := hD
      refine lv_iload_n hx hb dX5_readClause_20 rfl (lv_at hl 2 rfl) ?_
      refine lv_bipush (v := 7) hx hb dX5_readClause_21 (by decide) ?_
      refine lv_icmp_ne (tgt := 58) hx hb dX5_readClause_23 (by decide) (fun _ => ?_) (fun h => absurd h (by decide))
      refine lv_aload_n hx hb dX5_readClause_58 rfl (lv_at hl 1 rfl) ?_
      refine rw_v (D := D) (wr := [(h0, .inr (5, (fX5 h1 h2 h3 h4))), (aI k h1 10 (vv n nb_83 tm g))]) (va_runV (As := []) (rest := []) ⟨hx, hb, hml, hown, hts⟩ ((y_needSemicolon l D k st lo x0 x1 tz ta__71 (nI nq_72) 2 (nI pl_72) fx (by first | assumption | omega) (by first | assumption | omega)) H.size) (cwV 0 hts (gV tw_488 tw_489 tw_490 tw_80 tw_491) rfl rfl rfl (by decide +kernel) ⟨Nat.le_of_ble_eq_true rfl, Nat.le_of_ble_eq_true rfl⟩) (pV hS hAlo hlo hP hK (va_Dlo hD hAlo) hZ [2, 3] (by decide) rfl (ci := 6) (q := (RX6, TX6, 6)) (q0 := 0) rfl rfl) rfl rfl hl.1 rfl (lv_room (Nat.le_of_ble_eq_true rfl)) dX5_readClause_59 ⟨Nat.le_of_ble_eq_true rfl, Nat.le_of_ble_eq_true rfl⟩) hS hA hP hD [2, 3] [0, 1] rfl rfl (by decide) (by decide) (fun u H locs hw_86 hP hD hS => ?_)
      obtain ⟨ta__86, fn__86, fb__86⟩ := u
      replace hP : va_P D classes [(h0, .inr (5, (fX5 h1 h2 h3 h4))), (aI k h1 10 (vv n nb_83 tm g)), (x0, .inr (6, (fX6 x1 (nI tz) (nI ta__86) (nI nq_72) fn__86 fb__86))), (aB k x1 240 fx)] H := hP
      replace hD : va_D A [(h0, .inr (5, (fX5 h1 h2 h3 h4))), (aI k h1 10 (vv n nb_83 tm g)), (x0, .inr (6, (fX6 x1 (nI tz) (nI ta__86) (nI nq_72) fn__86 fb__86))), (aB k x1 240 fx)] := hD
      try dsimp only at hw_86
      obtain ⟨hs0_87, hs1_87⟩ := hw_86.1 (by decide)
      replace hs0_87 := hs0_87.symm
      subst hs0_87
      replace hs1_87 := hs1_87.symm
      subst hs1_87
      have hP9 := hP.sub (ws' := [(h0, .inr (5, (fX5 h1 h2 h3 h4))), (aI k h1 10 (vv n nb_83 tm g)), (x0, .inr (6, (fX6 x1 (nI tz) (nI ta__86) (nI nq_72) 2 (nI pl_72)))), (aB k x1 240 fx)]) [0, 1, 2, 3] rfl
      have hD9 := hD.sub (ws' := [(h0, .inr (5, (fX5 h1 h2 h3 h4))), (aI k h1 10 (vv n nb_83 tm g)), (x0, .inr (6, (fX6 x1 (nI tz) (nI ta__86) (nI nq_72) 2 (nI pl_72)))), (aB k x1 240 fx)]) [0, 1, 2, 3] (by decide) rfl
      exact W.vret hx hb hr (fun t ht hW => ⟨⟨(nb_83, tm, g, ta__86, (nI nq_72), 2, (nI pl_72)), rfl, ⟨.inr ⟨2, pl_72, rfl, by decide, by decide, by simp [siC, siF, hq_72, nI_clamp (show nb_83 < 2 ^ 31 by omega), (show zLE 6 = 0 from rfl), (show zMO 6 = 2 from rfl), (show decide ((6 : Nat) = 1) = false from rfl), -List.getD_eq_getElem?_getD], by simp [siC, siF, hq_72, nI_clamp (show nb_83 < 2 ^ 31 by omega), (show zLE 6 = 0 from rfl), (show zMO 6 = 2 from rfl), (show decide ((6 : Nat) = 1) = false from rfl), -List.getD_eq_getElem?_getD], rfl⟩, by omega, by omega, by omega, by omega⟩, by rw [ht]; exact hP9, hD9⟩, hS.F ht⟩) hS.2.2 dX5_readClause_62
  · refine lv_aload_n hx hb dX5_readClause_0 rfl (lv_at hl 0 rfl) ?_
    refine va_get (D := D) (ci := 5) (v := .ref h1) (C := RX5) (T := TX5) (N := 4) hx hb hts inX5 hown hK hP 0 rfl rfl 0 (by decide) (hts _ tw_146) (fun _ h9 => h9) rfl dX5_readClause_1 ?_
    refine lv_iload_n hx hb dX5_readClause_4 rfl (lv_at hl 2 rfl) ?_
    refine lv_aload_n hx hb dX5_readClause_5 rfl (lv_at hl 1 rfl) ?_
    refine va_getsN (A := A) hx hb (hZ.2.2.2.2.1.narrow hAlo) hS hown ((hZ.2.2.2.2.2.2.2.2.1.2.1 (RX5, 106, "LastPlace", "LEAST", "[I", RX7) (List.mem_of_getElem? (i := 1) rfl)).use rfl) (fun _ h9 => h9) dX5_readClause_6 ?_
    refine lv_iload_n hx hb dX5_readClause_9 rfl (lv_at hl 2 rfl) ?_
    refine va_ti (A := A) hx hb (hZ.2.2.2.2.2.1.narrow hAlo) hS (i := 7) (by unfold vp_in; decide) (v := .int 0) rfl dX5_readClause_10 ?_
    refine va_getsN (A := A) hx hb (hZ.2.2.1.narrow hAlo) hS hown ((hZ.2.2.2.2.2.2.2.2.1.2.1 (RX5, 109, "LastPlace", "MOST", "[I", RX7) (List.mem_of_getElem? (i := 2) rfl)).use rfl) (fun _ h9 => h9) dX5_readClause_11 ?_
    refine lv_iload_n hx hb dX5_readClause_14 rfl (lv_at hl 2 rfl) ?_
    refine va_ti (A := A) hx hb (hZ.2.2.2.1.narrow hAlo) hS (i := 7) (by unfold vp_in; decide) (v := .int 60) rfl dX5_readClause_15 ?_
    refine rw_i (D := D) (wr := [(h0, .inr (5, (fX5 h1 h2 h3 h4))), (aI k h1 10 (vv n see tm g))]) (va_runV (As := [.int 0, .int 60]) (rest := [.int 7, .ref h1]) ⟨hx, hb, hml, hown, hts⟩ ((y_needNumber l D k st lo x0 x1 tz ta na 0 fb fx 0 60 (by first | assumption | omega) (by first | assumption | omega) (by decide)) s.heap.size) (cwV 2 hts (gV tw_467 tw_468 tw_469 tw_80 tw_470) rfl rfl rfl (by decide +kernel) ⟨Nat.le_of_ble_eq_true rfl, Nat.le_of_ble_eq_true rfl⟩) (pV hS hAlo hlo hP hK (va_Dlo hD hAlo) hZ [2, 3] (by decide) rfl (ci := 6) (q := (RX6, TX6, 6)) (q0 := 0) rfl rfl) rfl rfl hl.1 rfl (lv_room (Nat.le_of_ble_eq_true rfl)) dX5_readClause_16 ⟨Nat.le_of_ble_eq_true rfl, Nat.le_of_ble_eq_true rfl⟩) hS hA hP hD [2, 3] [0, 1] rfl rfl (by decide) (by decide) (fun r_88 u H locs hw_88 hP hD hS => ?_)
    obtain ⟨ta__88, na__88, fn__88, fb__88⟩ := u
    replace hP : va_P D classes [(h0, .inr (5, (fX5 h1 h2 h3 h4))), (aI k h1 10 (vv n see tm g)), (x0, .inr (6, (fX6 x1 (nI tz) (nI ta__88) na__88 fn__88 fb__88))), (aB k x1 240 fx)] H := hP
    replace hD : va_D A [(h0, .inr (5, (fX5 h1 h2 h3 h4))), (aI k h1 10 (vv n see tm g)), (x0, .inr (6, (fX6 x1 (nI tz) (nI ta__88) na__88 fn__88 fb__88))), (aB k x1 240 fx)] := hD
    try dsimp only at hw_88
    obtain ⟨pl_89, nq_89, rfl, hq_89⟩ := hw_88.2.1 rfl
    rw [show decide ((0 : Int32) < 0) = false from by decide] at hq_89
    rcases hq_89 with ⟨rfl, hq_89⟩ | ⟨rfl, hr_89, rfl, hq_89⟩ | ⟨rfl, hr_89, rfl, hq_89⟩
    · refine va_iast hx hb hK hP hD hS 1 1 rfl rfl (by unfold vp_in; decide) dX5_readClause_19 (fun H locs hP hD hS => ?_)
      replace hP : va_P D classes [(h0, .inr (5, (fX5 h1 h2 h3 h4))), (aI k h1 10 (upd (vv n see tm g) (Int32.toNatClampNeg 7) r_88)), (x0, .inr (6, (fX6 x1 (nI tz) (nI ta__88) (nI nq_89) 0 fb__88))), (aB k x1 240 fx)] H := hP
      replace hD : va_D A [(h0, .inr (5, (fX5 h1 h2 h3 h4))), (aI k h1 10 (upd (vv n see tm g) (Int32.toNatClampNeg 7) r_88)), (x0, .inr (6, (fX6 x1 (nI tz) (nI ta__88) (nI nq_89) 0 fb__88))), (aB k x1 240 fx)] := hD
      rw [show upd (vv n see tm g) (Int32.toNatClampNeg 7) r_88 = vv n see tm (upd g 7 r_88) from vv_upd _ _ _ _ _ _ (by decide) (by decide) (by decide)] at hP hD
      obtain ⟨gg_91, hgg_91⟩ : ∃ z : Nat → Int32, z = upd g 7 r_88 := ⟨_, rfl⟩
      rw [← hgg_91] at hP hD
      replace hP : va_P D classes [(h0, .inr (5, (fX5 h1 h2 h3 h4))), (aI k h1 10 (vv n see tm gg_91)), (x0, .inr (6, (fX6 x1 (nI tz) (nI ta__88) (nI nq_89) 0 fb__88))), (aB k x1 240 fx)] H := hP
      replace hD : va_D A [(h0, .inr (5, (fX5 h1 h2 h3 h4))), (aI k h1 10 (vv n see tm gg_91)), (x0, .inr (6, (fX6 x1 (nI tz) (nI ta__88) (nI nq_89) 0 fb__88))), (aB k x1 240 fx)] := hD
      refine lv_iload_n hx hb dX5_readClause_20 rfl (lv_at hl 2 rfl) ?_
      refine lv_bipush (v := 7) hx hb dX5_readClause_21 (by decide) ?_
      refine lv_icmp_ne (tgt := 58) hx hb dX5_readClause_23 (by decide) (fun h => absurd (by decide) h) (fun _ => ?_)
      refine lv_aload_n hx hb dX5_readClause_26 rfl (lv_at hl 1 rfl) ?_
      refine lv_bipush (v := 8) hx hb dX5_readClause_27 (by decide) ?_
      refine ro_r (D := D) (va_runS (As := [.int 8]) (rest := [.ref x0]) ⟨hx, hb, hml, hown, hts⟩ ((x_wordOf_8 l D k st lo ) H.size) (va_cwS 1 hts (gS tw_386 tw_387 tw_81 tw_388) rfl rfl rfl (by decide +kernel) ⟨Nat.le_of_ble_eq_true rfl, Nat.le_of_ble_eq_true rfl⟩) (pS hS hAlo hlo hP hK (va_Dlo hD hAlo) hZ [] (by decide) rfl) rfl rfl hl.1 rfl (lv_room (Nat.le_of_ble_eq_true rfl)) dX5_readClause_29 ⟨Nat.le_of_ble_eq_true rfl, Nat.le_of_ble_eq_true rfl⟩) hS hA hP (fun H locs hP hS => ?_)
      refine rw_v (D := D) (wr := [(h0, .inr (5, (fX5 h1 h2 h3 h4))), (aI k h1 10 (vv n see tm gg_91))]) (va_runV (As := [.ref (st (100 + 8))]) (rest := []) ⟨hx, hb, hml, hown, hts⟩ ((y_needWord l D k st lo x0 x1 tz ta__88 (nI nq_89) 0 fb__88 fx 8 (by first | assumption | omega) (by first | assumption | omega) (by first | assumption | omega)) H.size) (cwV 1 hts (gV tw_482 tw_483 tw_484 tw_80 tw_485) rfl rfl rfl (by decide +kernel) ⟨Nat.le_of_ble_eq_true rfl, Nat.le_of_ble_eq_true rfl⟩) (pV hS hAlo hlo hP hK (va_Dlo hD hAlo) hZ [2, 3] (by decide) rfl (ci := 6) (q := (RX6, TX6, 6)) (q0 := 0) rfl rfl) rfl rfl hl.1 rfl (lv_room (Nat.le_of_ble_eq_true rfl)) dX5_readClause_32 ⟨Nat.le_of_ble_eq_true rfl, Nat.le_of_ble_eq_true rfl⟩) hS hA hP hD [2, 3] [0, 1] rfl rfl (by decide) (by decide) (fun u H locs hw_93 hP hD hS => ?_)
      obtain ⟨ta__93, fn__93, fb__93⟩ := u
      replace hP : va_P D classes [(h0, .inr (5, (fX5 h1 h2 h3 h4))), (aI k h1 10 (vv n see tm gg_91)), (x0, .inr (6, (fX6 x1 (nI tz) (nI ta__93) (nI nq_89) fn__93 fb__93))), (aB k x1 240 fx)] H := hP
      replace hD : va_D A [(h0, .inr (5, (fX5 h1 h2 h3 h4))), (aI k h1 10 (vv n see tm gg_91)), (x0, .inr (6, (fX6 x1 (nI tz) (nI ta__93) (nI nq_89) fn__93 fb__93))), (aB k x1 240 fx)] := hD
      try dsimp only at hw_93
      rcases hw_93.2.1 rfl with ⟨rfl, hq_94⟩ | ⟨rfl, pl_94, hq_94, rfl⟩
      · refine lv_aload_n hx hb dX5_readClause_35 rfl (lv_at hl 0 rfl) ?_
        refine va_get (D := D) (ci := 5) (v := .ref h1) (C := RX5) (T := TX5) (N := 4) hx hb hts inX5 hown hK hP 0 rfl rfl 0 (by decide) (hts _ tw_146) (fun _ h9 => h9) rfl dX5_readClause_36 ?_
        refine lv_bipush (v := 8) hx hb dX5_readClause_39 (by decide) ?_
        refine lv_aload_n hx hb dX5_readClause_41 rfl (lv_at hl 1 rfl) ?_
        refine va_getsN (A := A) hx hb (hZ.2.2.2.2.1.narrow hAlo) hS hown ((hZ.2.2.2.2.2.2.2.2.1.2.1 (RX5, 106, "LastPlace", "LEAST", "[I", RX7) (List.mem_of_getElem? (i := 1) rfl)).use rfl) (fun _ h9 => h9) dX5_readClause_42 ?_
        refine lv_bipush (v := 8) hx hb dX5_readClause_45 (by decide) ?_
        refine va_ti (A := A) hx hb (hZ.2.2.2.2.2.1.narrow hAlo) hS (i := 8) (by unfold vp_in; decide) (v := .int 0) rfl dX5_readClause_47 ?_
        refine va_getsN (A := A) hx hb (hZ.2.2.1.narrow hAlo) hS hown ((hZ.2.2.2.2.2.2.2.2.1.2.1 (RX5, 109, "LastPlace", "MOST", "[I", RX7) (List.mem_of_getElem? (i := 2) rfl)).use rfl) (fun _ h9 => h9) dX5_readClause_48 ?_
        refine lv_bipush (v := 8) hx hb dX5_readClause_51 (by decide) ?_
        refine va_ti (A := A) hx hb (hZ.2.2.2.1.narrow hAlo) hS (i := 8) (by unfold vp_in; decide) (v := .int 3) rfl dX5_readClause_53 ?_
        refine rw_i (D := D) (wr := [(h0, .inr (5, (fX5 h1 h2 h3 h4))), (aI k h1 10 (vv n see tm gg_91))]) (va_runV (As := [.int 0, .int 3]) (rest := [.int 8, .ref h1]) ⟨hx, hb, hml, hown, hts⟩ ((y_needNumber l D k st lo x0 x1 tz ta__93 (nI nq_89) 0 fb__93 fx 0 3 (by first | assumption | omega) (by first | assumption | omega) (by decide)) H.size) (cwV 2 hts (gV tw_467 tw_468 tw_469 tw_80 tw_470) rfl rfl rfl (by decide +kernel) ⟨Nat.le_of_ble_eq_true rfl, Nat.le_of_ble_eq_true rfl⟩) (pV hS hAlo hlo hP hK (va_Dlo hD hAlo) hZ [2, 3] (by decide) rfl (ci := 6) (q := (RX6, TX6, 6)) (q0 := 0) rfl rfl) rfl rfl hl.1 rfl (lv_room (Nat.le_of_ble_eq_true rfl)) dX5_readClause_54 ⟨Nat.le_of_ble_eq_true rfl, Nat.le_of_ble_eq_true rfl⟩) hS hA hP hD [2, 3] [0, 1] rfl rfl (by decide) (by decide) (fun r_95 u H locs hw_95 hP hD hS => ?_)
        obtain ⟨ta__95, na__95, fn__95, fb__95⟩ := u
        replace hP : va_P D classes [(h0, .inr (5, (fX5 h1 h2 h3 h4))), (aI k h1 10 (vv n see tm gg_91)), (x0, .inr (6, (fX6 x1 (nI tz) (nI ta__95) na__95 fn__95 fb__95))), (aB k x1 240 fx)] H := hP
        replace hD : va_D A [(h0, .inr (5, (fX5 h1 h2 h3 h4))), (aI k h1 10 (vv n see tm gg_91)), (x0, .inr (6, (fX6 x1 (nI tz) (nI ta__95) na__95 fn__95 fb__95))), (aB k x1 240 fx)] := hD
        try dsimp only at hw_95
        obtain ⟨pl_96, nq_96, rfl, hq_96⟩ := hw_95.2.1 rfl
        rw [show decide ((0 : Int32) < 0) = false from by decide] at hq_96
        rcases hq_96 with ⟨rfl, hq_96⟩ | ⟨rfl, hr_96, rfl, hq_96⟩ | ⟨rfl, hr_96, rfl, hq_96⟩
        · obtain ⟨nb_97, hnl_97, hnh_97, rfl⟩ := inB_ofc (a := 0) (b := 3) (by omega) (by omega) hw_95.2.2.2.2
          refine va_iast hx hb hK hP hD hS 1 1 rfl rfl (by unfold vp_in; decide) dX5_readClause_57 (fun H locs hP hD hS => ?_)
          replace hP : va_P D classes [(h0, .inr (5, (fX5 h1 h2 h3 h4))), (aI k h1 10 (upd (vv n see tm gg_91) (Int32.toNatClampNeg 8) (nI nb_97))), (x0, .inr (6, (fX6 x1 (nI tz) (nI ta__95) (nI nq_96) 0 fb__95))), (aB k x1 240 fx)] H := hP
          replace hD : va_D A [(h0, .inr (5, (fX5 h1 h2 h3 h4))), (aI k h1 10 (upd (vv n see tm gg_91) (Int32.toNatClampNeg 8) (nI nb_97))), (x0, .inr (6, (fX6 x1 (nI tz) (nI ta__95) (nI nq_96) 0 fb__95))), (aB k x1 240 fx)] := hD
          rw [show upd (vv n see tm gg_91) (Int32.toNatClampNeg 8) (nI nb_97) = vv n see nb_97 gg_91 from vv_upd8 _ _ _ _ _] at hP hD
          replace hP : va_P D classes [(h0, .inr (5, (fX5 h1 h2 h3 h4))), (aI k h1 10 (vv n see nb_97 gg_91)), (x0, .inr (6, (fX6 x1 (nI tz) (nI ta__95) (nI nq_96) 0 fb__95))), (aB k x1 240 fx)] H := hP
          replace hD : va_D A [(h0, .inr (5, (fX5 h1 h2 h3 h4))), (aI k h1 10 (vv n see nb_97 gg_91)), (x0, .inr (6, (fX6 x1 (nI tz) (nI ta__95) (nI nq_96) 0 fb__95))), (aB k x1 240 fx)] := hD
          refine lv_aload_n hx hb dX5_readClause_58 rfl (lv_at hl 1 rfl) ?_
          refine rw_v (D := D) (wr := [(h0, .inr (5, (fX5 h1 h2 h3 h4))), (aI k h1 10 (vv n see nb_97 gg_91))]) (va_runV (As := []) (rest := []) ⟨hx, hb, hml, hown, hts⟩ ((y_needSemicolon l D k st lo x0 x1 tz ta__95 (nI nq_96) 0 fb__95 fx (by first | assumption | omega) (by first | assumption | omega)) H.size) (cwV 0 hts (gV tw_488 tw_489 tw_490 tw_80 tw_491) rfl rfl rfl (by decide +kernel) ⟨Nat.le_of_ble_eq_true rfl, Nat.le_of_ble_eq_true rfl⟩) (pV hS hAlo hlo hP hK (va_Dlo hD hAlo) hZ [2, 3] (by decide) rfl (ci := 6) (q := (RX6, TX6, 6)) (q0 := 0) rfl rfl) rfl rfl hl.1 rfl (lv_room (Nat.le_of_ble_eq_true rfl)) dX5_readClause_59 ⟨Nat.le_of_ble_eq_true rfl, Nat.le_of_ble_eq_true rfl⟩) hS hA hP hD [2, 3] [0, 1] rfl rfl (by decide) (by decide) (fun u H locs hw_100 hP hD hS => ?_)
          obtain ⟨ta__100, fn__100, fb__100⟩ := u
          replace hP : va_P D classes [(h0, .inr (5, (fX5 h1 h2 h3 h4))), (aI k h1 10 (vv n see nb_97 gg_91)), (x0, .inr (6, (fX6 x1 (nI tz) (nI ta__100) (nI nq_96) fn__100 fb__100))), (aB k x1 240 fx)] H := hP
          replace hD : va_D A [(h0, .inr (5, (fX5 h1 h2 h3 h4))), (aI k h1 10 (vv n see nb_97 gg_91)), (x0, .inr (6, (fX6 x1 (nI tz) (nI ta__100) (nI nq_96) fn__100 fb__100))), (aB k x1 240 fx)] := hD
          try dsimp only at hw_100
          rcases hw_100.2.1 rfl with ⟨rfl, hq_101⟩ | ⟨rfl, pl_101, hq_101, rfl⟩
          · have hP9 := hP.sub (ws' := [(h0, .inr (5, (fX5 h1 h2 h3 h4))), (aI k h1 10 (vv n see nb_97 gg_91)), (x0, .inr (6, (fX6 x1 (nI tz) (nI ta__100) (nI nq_96) 0 fb__100))), (aB k x1 240 fx)]) [0, 1, 2, 3] rfl
            have hD9 := hD.sub (ws' := [(h0, .inr (5, (fX5 h1 h2 h3 h4))), (aI k h1 10 (vv n see nb_97 gg_91)), (x0, .inr (6, (fX6 x1 (nI tz) (nI ta__100) (nI nq_96) 0 fb__100))), (aB k x1 240 fx)]) [0, 1, 2, 3] (by decide) rfl
            exact W.vret hx hb hr (fun t ht hW => ⟨⟨(see, nb_97, gg_91, ta__100, (nI nq_96), 0, fb__100), rfl, ⟨.inl ⟨rfl, r_88, (nI nb_97), (by simp [siC, siF, hq_89, hq_94, hq_96, hq_101, nI_clamp (show nb_97 < 2 ^ 31 by omega), (show zLE 7 = 0 from rfl), (show zMO 7 = 60 from rfl), (show decide ((7 : Nat) = 1) = false from rfl), -List.getD_eq_getElem?_getD]), by rw [if_pos rfl, vv_upd _ _ _ _ 7 _ (by decide) (by decide) (by decide), vv_upd8, hgg_91]⟩, by omega, by omega, by omega, by omega⟩, by rw [ht]; exact hP9, hD9⟩, hS.F ht⟩) hS.2.2 dX5_readClause_62
          · have hP9 := hP.sub (ws' := [(h0, .inr (5, (fX5 h1 h2 h3 h4))), (aI k h1 10 (vv n see nb_97 gg_91)), (x0, .inr (6, (fX6 x1 (nI tz) (nI ta__100) (nI nq_96) 1 (nI pl_101)))), (aB k x1 240 fx)]) [0, 1, 2, 3] rfl
            have hD9 := hD.sub (ws' := [(h0, .inr (5, (fX5 h1 h2 h3 h4))), (aI k h1 10 (vv n see nb_97 gg_91)), (x0, .inr (6, (fX6 x1 (nI tz) (nI ta__100) (nI nq_96) 1 (nI pl_101)))), (aB k x1 240 fx)]) [0, 1, 2, 3] (by decide) rfl
            exact W.vret hx hb hr (fun t ht hW => ⟨⟨(see, nb_97, gg_91, ta__100, (nI nq_96), 1, (nI pl_101)), rfl, ⟨.inr ⟨1, pl_101, rfl, by decide, by decide, by simp [siC, siF, hq_89, hq_94, hq_96, hq_101, nI_clamp (show nb_97 < 2 ^ 31 by omega), (show zLE 7 = 0 from rfl), (show zMO 7 = 60 from rfl), (show decide ((7 : Nat) = 1) = false from rfl), -List.getD_eq_getElem?_getD], by simp [siC, siF, hq_89, hq_94, hq_96, hq_101, nI_clamp (show nb_97 < 2 ^ 31 by omega), (show zLE 7 = 0 from rfl), (show zMO 7 = 60 from rfl), (show decide ((7 : Nat) = 1) = false from rfl), -List.getD_eq_getElem?_getD], rfl⟩, by omega, by omega, by omega, by omega⟩, by rw [ht]; exact hP9, hD9⟩, hS.F ht⟩) hS.2.2 dX5_readClause_62
        · obtain ⟨nb_102, hnl_102, hnh_102, rfl⟩ := inB_ofc (a := 0) (b := 3) (by omega) (by omega) hw_95.2.2.2.2
          refine va_iast hx hb hK hP hD hS 1 1 rfl rfl (by unfold vp_in; decide) dX5_readClause_57 (fun H locs hP hD hS => ?_)
          replace hP : va_P D classes [(h0, .inr (5, (fX5 h1 h2 h3 h4))), (aI k h1 10 (upd (vv n see tm gg_91) (Int32.toNatClampNeg 8) (nI nb_102))), (x0, .inr (6, (fX6 x1 (nI tz) (nI ta__95) (nI nq_96) 1 (nI pl_96)))), (aB k x1 240 fx)] H := hP
          replace hD : va_D A [(h0, .inr (5, (fX5 h1 h2 h3 h4))), (aI k h1 10 (upd (vv n see tm gg_91) (Int32.toNatClampNeg 8) (nI nb_102))), (x0, .inr (6, (fX6 x1 (nI tz) (nI ta__95) (nI nq_96) 1 (nI pl_96)))), (aB k x1 240 fx)] := hD
          rw [show upd (vv n see tm gg_91) (Int32.toNatClampNeg 8) (nI nb_102) = vv n see nb_102 gg_91 from vv_upd8 _ _ _ _ _] at hP hD
          replace hP : va_P D classes [(h0, .inr (5, (fX5 h1 h2 h3 h4))), (aI k h1 10 (vv n see nb_102 gg_91)), (x0, .inr (6, (fX6 x1 (nI tz) (nI ta__95) (nI nq_96) 1 (nI pl_96)))), (aB k x1 240 fx)] H := hP
          replace hD : va_D A [(h0, .inr (5, (fX5 h1 h2 h3 h4))), (aI k h1 10 (vv n see nb_102 gg_91)), (x0, .inr (6, (fX6 x1 (nI tz) (nI ta__95) (nI nq_96) 1 (nI pl_96)))), (aB k x1 240 fx)] := hD
          refine lv_aload_n hx hb dX5_readClause_58 rfl (lv_at hl 1 rfl) ?_
          refine rw_v (D := D) (wr := [(h0, .inr (5, (fX5 h1 h2 h3 h4))), (aI k h1 10 (vv n see nb_102 gg_91))]) (va_runV (As := []) (rest := []) ⟨hx, hb, hml, hown, hts⟩ ((y_needSemicolon l D k st lo x0 x1 tz ta__95 (nI nq_96) 1 (nI pl_96) fx (by first | assumption | omega) (by first | assumption | omega)) H.size) (cwV 0 hts (gV tw_488 tw_489 tw_490 tw_80 tw_491) rfl rfl rfl (by decide +kernel) ⟨Nat.le_of_ble_eq_true rfl, Nat.le_of_ble_eq_true rfl⟩) (pV hS hAlo hlo hP hK (va_Dlo hD hAlo) hZ [2, 3] (by decide) rfl (ci := 6) (q := (RX6, TX6, 6)) (q0 := 0) rfl rfl) rfl rfl hl.1 rfl (lv_room (Nat.le_of_ble_eq_true rfl)) dX5_readClause_59 ⟨Nat.le_of_ble_eq_true rfl, Nat.le_of_ble_eq_true rfl⟩) hS hA hP hD [2, 3] [0, 1] rfl rfl (by decide) (by decide) (fun u H locs hw_105 hP hD hS => ?_)
          obtain ⟨ta__105, fn__105, fb__105⟩ := u
          replace hP : va_P D classes [(h0, .inr (5, (fX5 h1 h2 h3 h4))), (aI k h1 10 (vv n see nb_102 gg_91)), (x0, .inr (6, (fX6 x1 (nI tz) (nI ta__105) (nI nq_96) fn__105 fb__105))), (aB k x1 240 fx)] H := hP
          replace hD : va_D A [(h0, .inr (5, (fX5 h1 h2 h3 h4))), (aI k h1 10 (vv n see nb_102 gg_91)), (x0, .inr (6, (fX6 x1 (nI tz) (nI ta__105) (nI nq_96) fn__105 fb__105))), (aB k x1 240 fx)] := hD
          try dsimp only at hw_105
          obtain ⟨hs0_106, hs1_106⟩ := hw_105.1 (by decide)
          replace hs0_106 := hs0_106.symm
          subst hs0_106
          replace hs1_106 := hs1_106.symm
          subst hs1_106
          have hP9 := hP.sub (ws' := [(h0, .inr (5, (fX5 h1 h2 h3 h4))), (aI k h1 10 (vv n see nb_102 gg_91)), (x0, .inr (6, (fX6 x1 (nI tz) (nI ta__105) (nI nq_96) 1 (nI pl_96)))), (aB k x1 240 fx)]) [0, 1, 2, 3] rfl
          have hD9 := hD.sub (ws' := [(h0, .inr (5, (fX5 h1 h2 h3 h4))), (aI k h1 10 (vv n see nb_102 gg_91)), (x0, .inr (6, (fX6 x1 (nI tz) (nI ta__105) (nI nq_96) 1 (nI pl_96)))), (aB k x1 240 fx)]) [0, 1, 2, 3] (by decide) rfl
          exact W.vret hx hb hr (fun t ht hW => ⟨⟨(see, nb_102, gg_91, ta__105, (nI nq_96), 1, (nI pl_96)), rfl, ⟨.inr ⟨1, pl_96, rfl, by decide, by decide, by simp [siC, siF, hq_89, hq_94, hq_96, nI_clamp (show nb_102 < 2 ^ 31 by omega), (show zLE 7 = 0 from rfl), (show zMO 7 = 60 from rfl), (show decide ((7 : Nat) = 1) = false from rfl), -List.getD_eq_getElem?_getD], by simp [siC, siF, hq_89, hq_94, hq_96, nI_clamp (show nb_102 < 2 ^ 31 by omega), (show zLE 7 = 0 from rfl), (show zMO 7 = 60 from rfl), (show decide ((7 : Nat) = 1) = false from rfl), -List.getD_eq_getElem?_getD], rfl⟩, by omega, by omega, by omega, by omega⟩, by rw [ht]; exact hP9, hD9⟩, hS.F ht⟩) hS.2.2 dX5_readClause_62
        · obtain ⟨nb_107, hnl_107, hnh_107, rfl⟩ := inB_ofc (a := 0) (b := 3) (by omega) (by omega) hw_95.2.2.2.2
          refine va_iast hx hb hK hP hD hS 1 1 rfl rfl (by unfold vp_in; decide) dX5_readClause_57 (fun H locs hP hD hS => ?_)
          replace hP : va_P D classes [(h0, .inr (5, (fX5 h1 h2 h3 h4))), (aI k h1 10 (upd (vv n see tm gg_91) (Int32.toNatClampNeg 8) (nI nb_107))), (x0, .inr (6, (fX6 x1 (nI tz) (nI ta__95) (nI nq_96) 2 (nI pl_96)))), (aB k x1 240 fx)] H := hP
          replace hD : va_D A [(h0, .inr (5, (fX5 h1 h2 h3 h4))), (aI k h1 10 (upd (vv n see tm gg_91) (Int32.toNatClampNeg 8) (nI nb_107))), (x0, .inr (6, (fX6 x1 (nI tz) (nI ta__95) (nI nq_96) 2 (nI pl_96)))), (aB k x1 240 fx)] := hD
          rw [show upd (vv n see tm gg_91) (Int32.toNatClampNeg 8) (nI nb_107) = vv n see nb_107 gg_91 from vv_upd8 _ _ _ _ _] at hP hD
          replace hP : va_P D classes [(h0, .inr (5, (fX5 h1 h2 h3 h4))), (aI k h1 10 (vv n see nb_107 gg_91)), (x0, .inr (6, (fX6 x1 (nI tz) (nI ta__95) (nI nq_96) 2 (nI pl_96)))), (aB k x1 240 fx)] H := hP
          replace hD : va_D A [(h0, .inr (5, (fX5 h1 h2 h3 h4))), (aI k h1 10 (vv n see nb_107 gg_91)), (x0, .inr (6, (fX6 x1 (nI tz) (nI ta__95) (nI nq_96) 2 (nI pl_96)))), (aB k x1 240 fx)] := hD
          refine lv_aload_n hx hb dX5_readClause_58 rfl (lv_at hl 1 rfl) ?_
          refine rw_v (D := D) (wr := [(h0, .inr (5, (fX5 h1 h2 h3 h4))), (aI k h1 10 (vv n see nb_107 gg_91))]) (va_runV (As := []) (rest := []) ⟨hx, hb, hml, hown, hts⟩ ((y_needSemicolon l D k st lo x0 x1 tz ta__95 (nI nq_96) 2 (nI pl_96) fx (by first | assumption | omega) (by first | assumption | omega)) H.size) (cwV 0 hts (gV tw_488 tw_489 tw_490 tw_80 tw_491) rfl rfl rfl (by decide +kernel) ⟨Nat.le_of_ble_eq_true rfl, Nat.le_of_ble_eq_true rfl⟩) (pV hS hAlo hlo hP hK (va_Dlo hD hAlo) hZ [2, 3] (by decide) rfl (ci := 6) (q := (RX6, TX6, 6)) (q0 := 0) rfl rfl) rfl rfl hl.1 rfl (lv_room (Nat.le_of_ble_eq_true rfl)) dX5_readClause_59 ⟨Nat.le_of_ble_eq_true rfl, Nat.le_of_ble_eq_true rfl⟩) hS hA hP hD [2, 3] [0, 1] rfl rfl (by decide) (by decide) (fun u H locs hw_110 hP hD hS => ?_)
          obtain ⟨ta__110, fn__110, fb__110⟩ := u
          replace hP : va_P D classes [(h0, .inr (5, (fX5 h1 h2 h3 h4))), (aI k h1 10 (vv n see nb_107 gg_91)), (x0, .inr (6, (fX6 x1 (nI tz) (nI ta__110) (nI nq_96) fn__110 fb__110))), (aB k x1 240 fx)] H := hP
          replace hD : va_D A [(h0, .inr (5, (fX5 h1 h2 h3 h4))), (aI k h1 10 (vv n see nb_107 gg_91)), (x0, .inr (6, (fX6 x1 (nI tz) (nI ta__110) (nI nq_96) fn__110 fb__110))), (aB k x1 240 fx)] := hD
          try dsimp only at hw_110
          obtain ⟨hs0_111, hs1_111⟩ := hw_110.1 (by decide)
          replace hs0_111 := hs0_111.symm
          subst hs0_111
          replace hs1_111 := hs1_111.symm
          subst hs1_111
          have hP9 := hP.sub (ws' := [(h0, .inr (5, (fX5 h1 h2 h3 h4))), (aI k h1 10 (vv n see nb_107 gg_91)), (x0, .inr (6, (fX6 x1 (nI tz) (nI ta__110) (nI nq_96) 2 (nI pl_96)))), (aB k x1 240 fx)]) [0, 1, 2, 3] rfl
          have hD9 := hD.sub (ws' := [(h0, .inr (5, (fX5 h1 h2 h3 h4))), (aI k h1 10 (vv n see nb_107 gg_91)), (x0, .inr (6, (fX6 x1 (nI tz) (nI ta__110) (nI nq_96) 2 (nI pl_96)))), (aB k x1 240 fx)]) [0, 1, 2, 3] (by decide) rfl
          exact W.vret hx hb hr (fun t ht hW => ⟨⟨(see, nb_107, gg_91, ta__110, (nI nq_96), 2, (nI pl_96)), rfl, ⟨.inr ⟨2, pl_96, rfl, by decide, by decide, by simp [siC, siF, hq_89, hq_94, hq_96, nI_clamp (show nb_107 < 2 ^ 31 by omega), (show zLE 7 = 0 from rfl), (show zMO 7 = 60 from rfl), (show decide ((7 : Nat) = 1) = false from rfl), -List.getD_eq_getElem?_getD], by simp [siC, siF, hq_89, hq_94, hq_96, nI_clamp (show nb_107 < 2 ^ 31 by omega), (show zLE 7 = 0 from rfl), (show zMO 7 = 60 from rfl), (show decide ((7 : Nat) = 1) = false from rfl), -List.getD_eq_getElem?_getD], rfl⟩, by omega, by omega, by omega, by omega⟩, by rw [ht]; exact hP9, hD9⟩, hS.F ht⟩) hS.2.2 dX5_readClause_62
      · refine lv_aload_n hx hb dX5_readClause_35 rfl (lv_at hl 0 rfl) ?_
        refine va_get (D := D) (ci := 5) (v := .ref h1) (C := RX5) (T := TX5) (N := 4) hx hb hts inX5 hown hK hP 0 rfl rfl 0 (by decide) (hts _ tw_146) (fun _ h9 => h9) rfl dX5_readClause_36 ?_
        refine lv_bipush (v := 8) hx hb dX5_readClause_39 (by decide) ?_
        refine lv_aload_n hx hb dX5_readClause_41 rfl (lv_at hl 1 rfl) ?_
        refine va_getsN (A := A) hx hb (hZ.2.2.2.2.1.narrow hAlo) hS hown ((hZ.2.2.2.2.2.2.2.2.1.2.1 (RX5, 106, "LastPlace", "LEAST", "[I", RX7) (List.mem_of_getElem? (i := 1) rfl)).use rfl) (fun _ h9 => h9) dX5_readClause_42 ?_
        refine lv_bipush (v := 8) hx hb dX5_readClause_45 (by decide) ?_
        refine va_ti (A := A) hx hb (hZ.2.2.2.2.2.1.narrow hAlo) hS (i := 8) (by unfold vp_in; decide) (v := .int 0) rfl dX5_readClause_47 ?_
        refine va_getsN (A := A) hx hb (hZ.2.2.1.narrow hAlo) hS hown ((hZ.2.2.2.2.2.2.2.2.1.2.1 (RX5, 109, "LastPlace", "MOST", "[I", RX7) (List.mem_of_getElem? (i := 2) rfl)).use rfl) (fun _ h9 => h9) dX5_readClause_48 ?_
        refine lv_bipush (v := 8) hx hb dX5_readClause_51 (by decide) ?_
        refine va_ti (A := A) hx hb (hZ.2.2.2.1.narrow hAlo) hS (i := 8) (by unfold vp_in; decide) (v := .int 3) rfl dX5_readClause_53 ?_
        refine rw_i (D := D) (wr := [(h0, .inr (5, (fX5 h1 h2 h3 h4))), (aI k h1 10 (vv n see tm gg_91))]) (va_runV (As := [.int 0, .int 3]) (rest := [.int 8, .ref h1]) ⟨hx, hb, hml, hown, hts⟩ ((y_needNumber l D k st lo x0 x1 tz ta__93 (nI nq_89) 1 (nI pl_94) fx 0 3 (by first | assumption | omega) (by first | assumption | omega) (by decide)) H.size) (cwV 2 hts (gV tw_467 tw_468 tw_469 tw_80 tw_470) rfl rfl rfl (by decide +kernel) ⟨Nat.le_of_ble_eq_true rfl, Nat.le_of_ble_eq_true rfl⟩) (pV hS hAlo hlo hP hK (va_Dlo hD hAlo) hZ [2, 3] (by decide) rfl (ci := 6) (q := (RX6, TX6, 6)) (q0 := 0) rfl rfl) rfl rfl hl.1 rfl (lv_room (Nat.le_of_ble_eq_true rfl)) dX5_readClause_54 ⟨Nat.le_of_ble_eq_true rfl, Nat.le_of_ble_eq_true rfl⟩) hS hA hP hD [2, 3] [0, 1] rfl rfl (by decide) (by decide) (fun r_112 u H locs hw_112 hP hD hS => ?_)
        obtain ⟨ta__112, na__112, fn__112, fb__112⟩ := u
        replace hP : va_P D classes [(h0, .inr (5, (fX5 h1 h2 h3 h4))), (aI k h1 10 (vv n see tm gg_91)), (x0, .inr (6, (fX6 x1 (nI tz) (nI ta__112) na__112 fn__112 fb__112))), (aB k x1 240 fx)] H := hP
        replace hD : va_D A [(h0, .inr (5, (fX5 h1 h2 h3 h4))), (aI k h1 10 (vv n see tm gg_91)), (x0, .inr (6, (fX6 x1 (nI tz) (nI ta__112) na__112 fn__112 fb__112))), (aB k x1 240 fx)] := hD
        try dsimp only at hw_112
        have hr_113 := (hw_112.1 (by decide)).1
        obtain ⟨hs0_114, hs1_114, hs2_114, hs3_114⟩ := (hw_112.1 (by decide)).2
        replace hs0_114 := hs0_114.symm
        subst hs0_114
        replace hs1_114 := hs1_114.symm
        subst hs1_114
        replace hs2_114 := hs2_114.symm
        subst hs2_114
        replace hs3_114 := hs3_114.symm
        subst hs3_114
        obtain ⟨nb_115, hnl_115, hnh_115, rfl⟩ := inB_ofc (a := 0) (b := 3) (by omega) (by omega) hw_112.2.2.2.2
        refine va_iast hx hb hK hP hD hS 1 1 rfl rfl (by unfold vp_in; decide) dX5_readClause_57 (fun H locs hP hD hS => ?_)
        replace hP : va_P D classes [(h0, .inr (5, (fX5 h1 h2 h3 h4))), (aI k h1 10 (upd (vv n see tm gg_91) (Int32.toNatClampNeg 8) (nI nb_115))), (x0, .inr (6, (fX6 x1 (nI tz) (nI ta__93) (nI nq_89) 1 (nI pl_94)))), (aB k x1 240 fx)] H := hP
        replace hD : va_D A [(h0, .inr (5, (fX5 h1 h2 h3 h4))), (aI k h1 10 (upd (vv n see tm gg_91) (Int32.toNatClampNeg 8) (nI nb_115))), (x0, .inr (6, (fX6 x1 (nI tz) (nI ta__93) (nI nq_89) 1 (nI pl_94)))), (aB k x1 240 fx)] := hD
        rw [show upd (vv n see tm gg_91) (Int32.toNatClampNeg 8) (nI nb_115) = vv n see nb_115 gg_91 from vv_upd8 _ _ _ _ _] at hP hD
        replace hP : va_P D classes [(h0, .inr (5, (fX5 h1 h2 h3 h4))), (aI k h1 10 (vv n see nb_115 gg_91)), (x0, .inr (6, (fX6 x1 (nI tz) (nI ta__93) (nI nq_89) 1 (nI pl_94)))), (aB k x1 240 fx)] H := hP
        replace hD : va_D A [(h0, .inr (5, (fX5 h1 h2 h3 h4))), (aI k h1 10 (vv n see nb_115 gg_91)), (x0, .inr (6, (fX6 x1 (nI tz) (nI ta__93) (nI nq_89) 1 (nI pl_94)))), (aB k x1 240 fx)] := hD
        refine lv_aload_n hx hb dX5_readClause_58 rfl (lv_at hl 1 rfl) ?_
        refine rw_v (D := D) (wr := [(h0, .inr (5, (fX5 h1 h2 h3 h4))), (aI k h1 10 (vv n see nb_115 gg_91))]) (va_runV (As := []) (rest := []) ⟨hx, hb, hml, hown, hts⟩ ((y_needSemicolon l D k st lo x0 x1 tz ta__93 (nI nq_89) 1 (nI pl_94) fx (by first | assumption | omega) (by first | assumption | omega)) H.size) (cwV 0 hts (gV tw_488 tw_489 tw_490 tw_80 tw_491) rfl rfl rfl (by decide +kernel) ⟨Nat.le_of_ble_eq_true rfl, Nat.le_of_ble_eq_true rfl⟩) (pV hS hAlo hlo hP hK (va_Dlo hD hAlo) hZ [2, 3] (by decide) rfl (ci := 6) (q := (RX6, TX6, 6)) (q0 := 0) rfl rfl) rfl rfl hl.1 rfl (lv_room (Nat.le_of_ble_eq_true rfl)) dX5_readClause_59 ⟨Nat.le_of_ble_eq_true rfl, Nat.le_of_ble_eq_true rfl⟩) hS hA hP hD [2, 3] [0, 1] rfl rfl (by decide) (by decide) (fun u H locs hw_118 hP hD hS => ?_)
        obtain ⟨ta__118, fn__118, fb__118⟩ := u
        replace hP : va_P D classes [(h0, .inr (5, (fX5 h1 h2 h3 h4))), (aI k h1 10 (vv n see nb_115 gg_91)), (x0, .inr (6, (fX6 x1 (nI tz) (nI ta__118) (nI nq_89) fn__118 fb__118))), (aB k x1 240 fx)] H := hP
        replace hD : va_D A [(h0, .inr (5, (fX5 h1 h2 h3 h4))), (aI k h1 10 (vv n see nb_115 gg_91)), (x0, .inr (6, (fX6 x1 (nI tz) (nI ta__118) (nI nq_89) fn__118 fb__118))), (aB k x1 240 fx)] := hD
        try dsimp only at hw_118
        obtain ⟨hs0_119, hs1_119⟩ := hw_118.1 (by decide)
        replace hs0_119 := hs0_119.symm
        subst hs0_119
        replace hs1_119 := hs1_119.symm
        subst hs1_119
        have hP9 := hP.sub (ws' := [(h0, .inr (5, (fX5 h1 h2 h3 h4))), (aI k h1 10 (vv n see nb_115 gg_91)), (x0, .inr (6, (fX6 x1 (nI tz) (nI ta__118) (nI nq_89) 1 (nI pl_94)))), (aB k x1 240 fx)]) [0, 1, 2, 3] rfl
        have hD9 := hD.sub (ws' := [(h0, .inr (5, (fX5 h1 h2 h3 h4))), (aI k h1 10 (vv n see nb_115 gg_91)), (x0, .inr (6, (fX6 x1 (nI tz) (nI ta__118) (nI nq_89) 1 (nI pl_94)))), (aB k x1 240 fx)]) [0, 1, 2, 3] (by decide) rfl
        exact W.vret hx hb hr (fun t ht hW => ⟨⟨(see, nb_115, gg_91, ta__118, (nI nq_89), 1, (nI pl_94)), rfl, ⟨.inr ⟨1, pl_94, rfl, by decide, by decide, by simp [siC, siF, hq_89, hq_94, nI_clamp (show nb_115 < 2 ^ 31 by omega), (show zLE 7 = 0 from rfl), (show zMO 7 = 60 from rfl), (show decide ((7 : Nat) = 1) = false from rfl), -List.getD_eq_getElem?_getD], by simp [siC, siF, hq_89, hq_94, nI_clamp (show nb_115 < 2 ^ 31 by omega), (show zLE 7 = 0 from rfl), (show zMO 7 = 60 from rfl), (show decide ((7 : Nat) = 1) = false from rfl), -List.getD_eq_getElem?_getD], rfl⟩, by omega, by omega, by omega, by omega⟩, by rw [ht]; exact hP9, hD9⟩, hS.F ht⟩) hS.2.2 dX5_readClause_62
    · refine va_iast hx hb hK hP hD hS 1 1 rfl rfl (by unfold vp_in; decide) dX5_readClause_19 (fun H locs hP hD hS => ?_)
      replace hP : va_P D classes [(h0, .inr (5, (fX5 h1 h2 h3 h4))), (aI k h1 10 (upd (vv n see tm g) (Int32.toNatClampNeg 7) r_88)), (x0, .inr (6, (fX6 x1 (nI tz) (nI ta__88) (nI nq_89) 1 (nI pl_89)))), (aB k x1 240 fx)] H := hP
      replace hD : va_D A [(h0, .inr (5, (fX5 h1 h2 h3 h4))), (aI k h1 10 (upd (vv n see tm g) (Int32.toNatClampNeg 7) r_88)), (x0, .inr (6, (fX6 x1 (nI tz) (nI ta__88) (nI nq_89) 1 (nI pl_89)))), (aB k x1 240 fx)] := hD
      rw [show upd (vv n see tm g) (Int32.toNatClampNeg 7) r_88 = vv n see tm (upd g 7 r_88) from vv_upd _ _ _ _ _ _ (by decide) (by decide) (by decide)] at hP hD
      obtain ⟨gg_121, hgg_121⟩ : ∃ z : Nat → Int32, z = upd g 7 r_88 := ⟨_, rfl⟩
      rw [← hgg_121] at hP hD
      replace hP : va_P D classes [(h0, .inr (5, (fX5 h1 h2 h3 h4))), (aI k h1 10 (vv n see tm gg_121)), (x0, .inr (6, (fX6 x1 (nI tz) (nI ta__88) (nI nq_89) 1 (nI pl_89)))), (aB k x1 240 fx)] H := hP
      replace hD : va_D A [(h0, .inr (5, (fX5 h1 h2 h3 h4))), (aI k h1 10 (vv n see tm gg_121)), (x0, .inr (6, (fX6 x1 (nI tz) (nI ta__88) (nI nq_89) 1 (nI pl_89)))), (aB k x1 240 fx)] := hD
      refine lv_iload_n hx hb dX5_readClause_20 rfl (lv_at hl 2 rfl) ?_
      refine lv_bipush (v := 7) hx hb dX5_readClause_21 (by decide) ?_
      refine lv_icmp_ne (tgt := 58) hx hb dX5_readClause_23 (by decide) (fun h => absurd (by decide) h) (fun _ => ?_)
      refine lv_aload_n hx hb dX5_readClause_26 rfl (lv_at hl 1 rfl) ?_
      refine lv_bipush (v := 8) hx hb dX5_readClause_27 (by decide) ?_
      refine ro_r (D := D) (va_runS (As := [.int 8]) (rest := [.ref x0]) ⟨hx, hb, hml, hown, hts⟩ ((x_wordOf_8 l D k st lo ) H.size) (va_cwS 1 hts (gS tw_386 tw_387 tw_81 tw_388) rfl rfl rfl (by decide +kernel) ⟨Nat.le_of_ble_eq_true rfl, Nat.le_of_ble_eq_true rfl⟩) (pS hS hAlo hlo hP hK (va_Dlo hD hAlo) hZ [] (by decide) rfl) rfl rfl hl.1 rfl (lv_room (Nat.le_of_ble_eq_true rfl)) dX5_readClause_29 ⟨Nat.le_of_ble_eq_true rfl, Nat.le_of_ble_eq_true rfl⟩) hS hA hP (fun H locs hP hS => ?_)
      refine rw_v (D := D) (wr := [(h0, .inr (5, (fX5 h1 h2 h3 h4))), (aI k h1 10 (vv n see tm gg_121))]) (va_runV (As := [.ref (st (100 + 8))]) (rest := []) ⟨hx, hb, hml, hown, hts⟩ ((y_needWord l D k st lo x0 x1 tz ta__88 (nI nq_89) 1 (nI pl_89) fx 8 (by first | assumption | omega) (by first | assumption | omega) (by first | assumption | omega)) H.size) (cwV 1 hts (gV tw_482 tw_483 tw_484 tw_80 tw_485) rfl rfl rfl (by decide +kernel) ⟨Nat.le_of_ble_eq_true rfl, Nat.le_of_ble_eq_true rfl⟩) (pV hS hAlo hlo hP hK (va_Dlo hD hAlo) hZ [2, 3] (by decide) rfl (ci := 6) (q := (RX6, TX6, 6)) (q0 := 0) rfl rfl) rfl rfl hl.1 rfl (lv_room (Nat.le_of_ble_eq_true rfl)) dX5_readClause_32 ⟨Nat.le_of_ble_eq_true rfl, Nat.le_of_ble_eq_true rfl⟩) hS hA hP hD [2, 3] [0, 1] rfl rfl (by decide) (by decide) (fun u H locs hw_123 hP hD hS => ?_)
      obtain ⟨ta__123, fn__123, fb__123⟩ := u
      replace hP : va_P D classes [(h0, .inr (5, (fX5 h1 h2 h3 h4))), (aI k h1 10 (vv n see tm gg_121)), (x0, .inr (6, (fX6 x1 (nI tz) (nI ta__123) (nI nq_89) fn__123 fb__123))), (aB k x1 240 fx)] H := hP
      replace hD : va_D A [(h0, .inr (5, (fX5 h1 h2 h3 h4))), (aI k h1 10 (vv n see tm gg_121)), (x0, .inr (6, (fX6 x1 (nI tz) (nI ta__123) (nI nq_89) fn__123 fb__123))), (aB k x1 240 fx)] := hD
      try dsimp only at hw_123
      obtain ⟨hs0_124, hs1_124, hs2_124⟩ := hw_123.1 (by decide)
      replace hs0_124 := hs0_124.symm
      subst hs0_124
      replace hs1_124 := hs1_124.symm
      subst hs1_124
      replace hs2_124 := hs2_124.symm
      subst hs2_124
      refine lv_aload_n hx hb dX5_readClause_35 rfl (lv_at hl 0 rfl) ?_
      refine va_get (D := D) (ci := 5) (v := .ref h1) (C := RX5) (T := TX5) (N := 4) hx hb hts inX5 hown hK hP 0 rfl rfl 0 (by decide) (hts _ tw_146) (fun _ h9 => h9) rfl dX5_readClause_36 ?_
      refine lv_bipush (v := 8) hx hb dX5_readClause_39 (by decide) ?_
      refine lv_aload_n hx hb dX5_readClause_41 rfl (lv_at hl 1 rfl) ?_
      refine va_getsN (A := A) hx hb (hZ.2.2.2.2.1.narrow hAlo) hS hown ((hZ.2.2.2.2.2.2.2.2.1.2.1 (RX5, 106, "LastPlace", "LEAST", "[I", RX7) (List.mem_of_getElem? (i := 1) rfl)).use rfl) (fun _ h9 => h9) dX5_readClause_42 ?_
      refine lv_bipush (v := 8) hx hb dX5_readClause_45 (by decide) ?_
      refine va_ti (A := A) hx hb (hZ.2.2.2.2.2.1.narrow hAlo) hS (i := 8) (by unfold vp_in; decide) (v := .int 0) rfl dX5_readClause_47 ?_
      refine va_getsN (A := A) hx hb (hZ.2.2.1.narrow hAlo) hS hown ((hZ.2.2.2.2.2.2.2.2.1.2.1 (RX5, 109, "LastPlace", "MOST", "[I", RX7) (List.mem_of_getElem? (i := 2) rfl)).use rfl) (fun _ h9 => h9) dX5_readClause_48 ?_
      refine lv_bipush (v := 8) hx hb dX5_readClause_51 (by decide) ?_
      refine va_ti (A := A) hx hb (hZ.2.2.2.1.narrow hAlo) hS (i := 8) (by unfold vp_in; decide) (v := .int 3) rfl dX5_readClause_53 ?_
      refine rw_i (D := D) (wr := [(h0, .inr (5, (fX5 h1 h2 h3 h4))), (aI k h1 10 (vv n see tm gg_121))]) (va_runV (As := [.int 0, .int 3]) (rest := [.int 8, .ref h1]) ⟨hx, hb, hml, hown, hts⟩ ((y_needNumber l D k st lo x0 x1 tz ta__88 (nI nq_89) 1 (nI pl_89) fx 0 3 (by first | assumption | omega) (by first | assumption | omega) (by decide)) H.size) (cwV 2 hts (gV tw_467 tw_468 tw_469 tw_80 tw_470) rfl rfl rfl (by decide +kernel) ⟨Nat.le_of_ble_eq_true rfl, Nat.le_of_ble_eq_true rfl⟩) (pV hS hAlo hlo hP hK (va_Dlo hD hAlo) hZ [2, 3] (by decide) rfl (ci := 6) (q := (RX6, TX6, 6)) (q0 := 0) rfl rfl) rfl rfl hl.1 rfl (lv_room (Nat.le_of_ble_eq_true rfl)) dX5_readClause_54 ⟨Nat.le_of_ble_eq_true rfl, Nat.le_of_ble_eq_true rfl⟩) hS hA hP hD [2, 3] [0, 1] rfl rfl (by decide) (by decide) (fun r_125 u H locs hw_125 hP hD hS => ?_)
      obtain ⟨ta__125, na__125, fn__125, fb__125⟩ := u
      replace hP : va_P D classes [(h0, .inr (5, (fX5 h1 h2 h3 h4))), (aI k h1 10 (vv n see tm gg_121)), (x0, .inr (6, (fX6 x1 (nI tz) (nI ta__125) na__125 fn__125 fb__125))), (aB k x1 240 fx)] H := hP
      replace hD : va_D A [(h0, .inr (5, (fX5 h1 h2 h3 h4))), (aI k h1 10 (vv n see tm gg_121)), (x0, .inr (6, (fX6 x1 (nI tz) (nI ta__125) na__125 fn__125 fb__125))), (aB k x1 240 fx)] := hD
      try dsimp only at hw_125
      have hr_126 := (hw_125.1 (by decide)).1
      obtain ⟨hs0_127, hs1_127, hs2_127, hs3_127⟩ := (hw_125.1 (by decide)).2
      replace hs0_127 := hs0_127.symm
      subst hs0_127
      replace hs1_127 := hs1_127.symm
      subst hs1_127
      replace hs2_127 := hs2_127.symm
      subst hs2_127
      replace hs3_127 := hs3_127.symm
      subst hs3_127
      obtain ⟨nb_128, hnl_128, hnh_128, rfl⟩ := inB_ofc (a := 0) (b := 3) (by omega) (by omega) hw_125.2.2.2.2
      refine va_iast hx hb hK hP hD hS 1 1 rfl rfl (by unfold vp_in; decide) dX5_readClause_57 (fun H locs hP hD hS => ?_)
      replace hP : va_P D classes [(h0, .inr (5, (fX5 h1 h2 h3 h4))), (aI k h1 10 (upd (vv n see tm gg_121) (Int32.toNatClampNeg 8) (nI nb_128))), (x0, .inr (6, (fX6 x1 (nI tz) (nI ta__88) (nI nq_89) 1 (nI pl_89)))), (aB k x1 240 fx)] H := hP
      replace hD : va_D A [(h0, .inr (5, (fX5 h1 h2 h3 h4))), (aI k h1 10 (upd (vv n see tm gg_121) (Int32.toNatClampNeg 8) (nI nb_128))), (x0, .inr (6, (fX6 x1 (nI tz) (nI ta__88) (nI nq_89) 1 (nI pl_89)))), (aB k x1 240 fx)] := hD
      rw [show upd (vv n see tm gg_121) (Int32.toNatClampNeg 8) (nI nb_128) = vv n see nb_128 gg_121 from vv_upd8 _ _ _ _ _] at hP hD
      replace hP : va_P D classes [(h0, .inr (5, (fX5 h1 h2 h3 h4))), (aI k h1 10 (vv n see nb_128 gg_121)), (x0, .inr (6, (fX6 x1 (nI tz) (nI ta__88) (nI nq_89) 1 (nI pl_89)))), (aB k x1 240 fx)] H := hP
      replace hD : va_D A [(h0, .inr (5, (fX5 h1 h2 h3 h4))), (aI k h1 10 (vv n see nb_128 gg_121)), (x0, .inr (6, (fX6 x1 (nI tz) (nI ta__88) (nI nq_89) 1 (nI pl_89)))), (aB k x1 240 fx)] := hD
      refine lv_aload_n hx hb dX5_readClause_58 rfl (lv_at hl 1 rfl) ?_
      refine rw_v (D := D) (wr := [(h0, .inr (5, (fX5 h1 h2 h3 h4))), (aI k h1 10 (vv n see nb_128 gg_121))]) (va_runV (As := []) (rest := []) ⟨hx, hb, hml, hown, hts⟩ ((y_needSemicolon l D k st lo x0 x1 tz ta__88 (nI nq_89) 1 (nI pl_89) fx (by first | assumption | omega) (by first | assumption | omega)) H.size) (cwV 0 hts (gV tw_488 tw_489 tw_490 tw_80 tw_491) rfl rfl rfl (by decide +kernel) ⟨Nat.le_of_ble_eq_true rfl, Nat.le_of_ble_eq_true rfl⟩) (pV hS hAlo hlo hP hK (va_Dlo hD hAlo) hZ [2, 3] (by decide) rfl (ci := 6) (q := (RX6, TX6, 6)) (q0 := 0) rfl rfl) rfl rfl hl.1 rfl (lv_room (Nat.le_of_ble_eq_true rfl)) dX5_readClause_59 ⟨Nat.le_of_ble_eq_true rfl, Nat.le_of_ble_eq_true rfl⟩) hS hA hP hD [2, 3] [0, 1] rfl rfl (by decide) (by decide) (fun u H locs hw_131 hP hD hS => ?_)
      obtain ⟨ta__131, fn__131, fb__131⟩ := u
      replace hP : va_P D classes [(h0, .inr (5, (fX5 h1 h2 h3 h4))), (aI k h1 10 (vv n see nb_128 gg_121)), (x0, .inr (6, (fX6 x1 (nI tz) (nI ta__131) (nI nq_89) fn__131 fb__131))), (aB k x1 240 fx)] H := hP
      replace hD : va_D A [(h0, .inr (5, (fX5 h1 h2 h3 h4))), (aI k h1 10 (vv n see nb_128 gg_121)), (x0, .inr (6, (fX6 x1 (nI tz) (nI ta__131) (nI nq_89) fn__131 fb__131))), (aB k x1 240 fx)] := hD
      try dsimp only at hw_131
      obtain ⟨hs0_132, hs1_132⟩ := hw_131.1 (by decide)
      replace hs0_132 := hs0_132.symm
      subst hs0_132
      replace hs1_132 := hs1_132.symm
      subst hs1_132
      have hP9 := hP.sub (ws' := [(h0, .inr (5, (fX5 h1 h2 h3 h4))), (aI k h1 10 (vv n see nb_128 gg_121)), (x0, .inr (6, (fX6 x1 (nI tz) (nI ta__131) (nI nq_89) 1 (nI pl_89)))), (aB k x1 240 fx)]) [0, 1, 2, 3] rfl
      have hD9 := hD.sub (ws' := [(h0, .inr (5, (fX5 h1 h2 h3 h4))), (aI k h1 10 (vv n see nb_128 gg_121)), (x0, .inr (6, (fX6 x1 (nI tz) (nI ta__131) (nI nq_89) 1 (nI pl_89)))), (aB k x1 240 fx)]) [0, 1, 2, 3] (by decide) rfl
      exact W.vret hx hb hr (fun t ht hW => ⟨⟨(see, nb_128, gg_121, ta__131, (nI nq_89), 1, (nI pl_89)), rfl, ⟨.inr ⟨1, pl_89, rfl, by decide, by decide, by simp [siC, siF, hq_89, nI_clamp (show nb_128 < 2 ^ 31 by omega), (show zLE 7 = 0 from rfl), (show zMO 7 = 60 from rfl), (show decide ((7 : Nat) = 1) = false from rfl), -List.getD_eq_getElem?_getD], by simp [siC, siF, hq_89, nI_clamp (show nb_128 < 2 ^ 31 by omega), (show zLE 7 = 0 from rfl), (show zMO 7 = 60 from rfl), (show decide ((7 : Nat) = 1) = false from rfl), -List.getD_eq_getElem?_getD], rfl⟩, by omega, by omega, by omega, by omega⟩, by rw [ht]; exact hP9, hD9⟩, hS.F ht⟩) hS.2.2 dX5_readClause_62
    · refine va_iast hx hb hK hP hD hS 1 1 rfl rfl (by unfold vp_in; decide) dX5_readClause_19 (fun H locs hP hD hS => ?_)
      replace hP : va_P D classes [(h0, .inr (5, (fX5 h1 h2 h3 h4))), (aI k h1 10 (upd (vv n see tm g) (Int32.toNatClampNeg 7) r_88)), (x0, .inr (6, (fX6 x1 (nI tz) (nI ta__88) (nI nq_89) 2 (nI pl_89)))), (aB k x1 240 fx)] H := hP
      replace hD : va_D A [(h0, .inr (5, (fX5 h1 h2 h3 h4))), (aI k h1 10 (upd (vv n see tm g) (Int32.toNatClampNeg 7) r_88)), (x0, .inr (6, (fX6 x1 (nI tz) (nI ta__88) (nI nq_89) 2 (nI pl_89)))), (aB k x1 240 fx)] := hD
      rw [show upd (vv n see tm g) (Int32.toNatClampNeg 7) r_88 = vv n see tm (upd g 7 r_88) from vv_upd _ _ _ _ _ _ (by decide) (by decide) (by decide)] at hP hD
      obtain ⟨gg_134, hgg_134⟩ : ∃ z : Nat → Int32, z = upd g 7 r_88 := ⟨_, rfl⟩
      rw [← hgg_134] at hP hD
      replace hP : va_P D classes [(h0, .inr (5, (fX5 h1 h2 h3 h4))), (aI k h1 10 (vv n see tm gg_134)), (x0, .inr (6, (fX6 x1 (nI tz) (nI ta__88) (nI nq_89) 2 (nI pl_89)))), (aB k x1 240 fx)] H := hP
      replace hD : va_D A [(h0, .inr (5, (fX5 h1 h2 h3 h4))), (aI k h1 10 (vv n see tm gg_134)), (x0, .inr (6, (fX6 x1 (nI tz) (nI ta__88) (nI nq_89) 2 (nI pl_89)))), (aB k x1 240 fx)] := hD
      refine lv_iload_n hx hb dX5_readClause_20 rfl (lv_at hl 2 rfl) ?_
      refine lv_bipush (v := 7) hx hb dX5_readClause_21 (by decide) ?_
      refine lv_icmp_ne (tgt := 58) hx hb dX5_readClause_23 (by decide) (fun h => absurd (by decide) h) (fun _ => ?_)
      refine lv_aload_n hx hb dX5_readClause_26 rfl (lv_at hl 1 rfl) ?_
      refine lv_bipush (v := 8) hx hb dX5_readClause_27 (by decide) ?_
      refine ro_r (D := D) (va_runS (As := [.int 8]) (rest := [.ref x0]) ⟨hx, hb, hml, hown, hts⟩ ((x_wordOf_8 l D k st lo ) H.size) (va_cwS 1 hts (gS tw_386 tw_387 tw_81 tw_388) rfl rfl rfl (by decide +kernel) ⟨Nat.le_of_ble_eq_true rfl, Nat.le_of_ble_eq_true rfl⟩) (pS hS hAlo hlo hP hK (va_Dlo hD hAlo) hZ [] (by decide) rfl) rfl rfl hl.1 rfl (lv_room (Nat.le_of_ble_eq_true rfl)) dX5_readClause_29 ⟨Nat.le_of_ble_eq_true rfl, Nat.le_of_ble_eq_true rfl⟩) hS hA hP (fun H locs hP hS => ?_)
      refine rw_v (D := D) (wr := [(h0, .inr (5, (fX5 h1 h2 h3 h4))), (aI k h1 10 (vv n see tm gg_134))]) (va_runV (As := [.ref (st (100 + 8))]) (rest := []) ⟨hx, hb, hml, hown, hts⟩ ((y_needWord l D k st lo x0 x1 tz ta__88 (nI nq_89) 2 (nI pl_89) fx 8 (by first | assumption | omega) (by first | assumption | omega) (by first | assumption | omega)) H.size) (cwV 1 hts (gV tw_482 tw_483 tw_484 tw_80 tw_485) rfl rfl rfl (by decide +kernel) ⟨Nat.le_of_ble_eq_true rfl, Nat.le_of_ble_eq_true rfl⟩) (pV hS hAlo hlo hP hK (va_Dlo hD hAlo) hZ [2, 3] (by decide) rfl (ci := 6) (q := (RX6, TX6, 6)) (q0 := 0) rfl rfl) rfl rfl hl.1 rfl (lv_room (Nat.le_of_ble_eq_true rfl)) dX5_readClause_32 ⟨Nat.le_of_ble_eq_true rfl, Nat.le_of_ble_eq_true rfl⟩) hS hA hP hD [2, 3] [0, 1] rfl rfl (by decide) (by decide) (fun u H locs hw_136 hP hD hS => ?_)
      obtain ⟨ta__136, fn__136, fb__136⟩ := u
      replace hP : va_P D classes [(h0, .inr (5, (fX5 h1 h2 h3 h4))), (aI k h1 10 (vv n see tm gg_134)), (x0, .inr (6, (fX6 x1 (nI tz) (nI ta__136) (nI nq_89) fn__136 fb__136))), (aB k x1 240 fx)] H := hP
      replace hD : va_D A [(h0, .inr (5, (fX5 h1 h2 h3 h4))), (aI k h1 10 (vv n see tm gg_134)), (x0, .inr (6, (fX6 x1 (nI tz) (nI ta__136) (nI nq_89) fn__136 fb__136))), (aB k x1 240 fx)] := hD
      try dsimp only at hw_136
      obtain ⟨hs0_137, hs1_137, hs2_137⟩ := hw_136.1 (by decide)
      replace hs0_137 := hs0_137.symm
      subst hs0_137
      replace hs1_137 := hs1_137.symm
      subst hs1_137
      replace hs2_137 := hs2_137.symm
      subst hs2_137
      refine lv_aload_n hx hb dX5_readClause_35 rfl (lv_at hl 0 rfl) ?_
      refine va_get (D := D) (ci := 5) (v := .ref h1) (C := RX5) (T := TX5) (N := 4) hx hb hts inX5 hown hK hP 0 rfl rfl 0 (by decide) (hts _ tw_146) (fun _ h9 => h9) rfl dX5_readClause_36 ?_
      refine lv_bipush (v := 8) hx hb dX5_readClause_39 (by decide) ?_
      refine lv_aload_n hx hb dX5_readClause_41 rfl (lv_at hl 1 rfl) ?_
      refine va_getsN (A := A) hx hb (hZ.2.2.2.2.1.narrow hAlo) hS hown ((hZ.2.2.2.2.2.2.2.2.1.2.1 (RX5, 106, "LastPlace", "LEAST", "[I", RX7) (List.mem_of_getElem? (i := 1) rfl)).use rfl) (fun _ h9 => h9) dX5_readClause_42 ?_
      refine lv_bipush (v := 8) hx hb dX5_readClause_45 (by decide) ?_
      refine va_ti (A := A) hx hb (hZ.2.2.2.2.2.1.narrow hAlo) hS (i := 8) (by unfold vp_in; decide) (v := .int 0) rfl dX5_readClause_47 ?_
      refine va_getsN (A := A) hx hb (hZ.2.2.1.narrow hAlo) hS hown ((hZ.2.2.2.2.2.2.2.2.1.2.1 (RX5, 109, "LastPlace", "MOST", "[I", RX7) (List.mem_of_getElem? (i := 2) rfl)).use rfl) (fun _ h9 => h9) dX5_readClause_48 ?_
      refine lv_bipush (v := 8) hx hb dX5_readClause_51 (by decide) ?_
      refine va_ti (A := A) hx hb (hZ.2.2.2.1.narrow hAlo) hS (i := 8) (by unfold vp_in; decide) (v := .int 3) rfl dX5_readClause_53 ?_
      refine rw_i (D := D) (wr := [(h0, .inr (5, (fX5 h1 h2 h3 h4))), (aI k h1 10 (vv n see tm gg_134))]) (va_runV (As := [.int 0, .int 3]) (rest := [.int 8, .ref h1]) ⟨hx, hb, hml, hown, hts⟩ ((y_needNumber l D k st lo x0 x1 tz ta__88 (nI nq_89) 2 (nI pl_89) fx 0 3 (by first | assumption | omega) (by first | assumption | omega) (by decide)) H.size) (cwV 2 hts (gV tw_467 tw_468 tw_469 tw_80 tw_470) rfl rfl rfl (by decide +kernel) ⟨Nat.le_of_ble_eq_true rfl, Nat.le_of_ble_eq_true rfl⟩) (pV hS hAlo hlo hP hK (va_Dlo hD hAlo) hZ [2, 3] (by decide) rfl (ci := 6) (q := (RX6, TX6, 6)) (q0 := 0) rfl rfl) rfl rfl hl.1 rfl (lv_room (Nat.le_of_ble_eq_true rfl)) dX5_readClause_54 ⟨Nat.le_of_ble_eq_true rfl, Nat.le_of_ble_eq_true rfl⟩) hS hA hP hD [2, 3] [0, 1] rfl rfl (by decide) (by decide) (fun r_138 u H locs hw_138 hP hD hS => ?_)
      obtain ⟨ta__138, na__138, fn__138, fb__138⟩ := u
      replace hP : va_P D classes [(h0, .inr (5, (fX5 h1 h2 h3 h4))), (aI k h1 10 (vv n see tm gg_134)), (x0, .inr (6, (fX6 x1 (nI tz) (nI ta__138) na__138 fn__138 fb__138))), (aB k x1 240 fx)] H := hP
      replace hD : va_D A [(h0, .inr (5, (fX5 h1 h2 h3 h4))), (aI k h1 10 (vv n see tm gg_134)), (x0, .inr (6, (fX6 x1 (nI tz) (nI ta__138) na__138 fn__138 fb__138))), (aB k x1 240 fx)] := hD
      try dsimp only at hw_138
      have hr_139 := (hw_138.1 (by decide)).1
      obtain ⟨hs0_140, hs1_140, hs2_140, hs3_140⟩ := (hw_138.1 (by decide)).2
      replace hs0_140 := hs0_140.symm
      subst hs0_140
      replace hs1_140 := hs1_140.symm
      subst hs1_140
      replace hs2_140 := hs2_140.symm
      subst hs2_140
      replace hs3_140 := hs3_140.symm
      subst hs3_140
      obtain ⟨nb_141, hnl_141, hnh_141, rfl⟩ := inB_ofc (a := 0) (b := 3) (by omega) (by omega) hw_138.2.2.2.2
      refine va_iast hx hb hK hP hD hS 1 1 rfl rfl (by unfold vp_in; decide) dX5_readClause_57 (fun H locs hP hD hS => ?_)
      replace hP : va_P D classes [(h0, .inr (5, (fX5 h1 h2 h3 h4))), (aI k h1 10 (upd (vv n see tm gg_134) (Int32.toNatClampNeg 8) (nI nb_141))), (x0, .inr (6, (fX6 x1 (nI tz) (nI ta__88) (nI nq_89) 2 (nI pl_89)))), (aB k x1 240 fx)] H := hP
      replace hD : va_D A [(h0, .inr (5, (fX5 h1 h2 h3 h4))), (aI k h1 10 (upd (vv n see tm gg_134) (Int32.toNatClampNeg 8) (nI nb_141))), (x0, .inr (6, (fX6 x1 (nI tz) (nI ta__88) (nI nq_89) 2 (nI pl_89)))), (aB k x1 240 fx)] := hD
      rw [show upd (vv n see tm gg_134) (Int32.toNatClampNeg 8) (nI nb_141) = vv n see nb_141 gg_134 from vv_upd8 _ _ _ _ _] at hP hD
      replace hP : va_P D classes [(h0, .inr (5, (fX5 h1 h2 h3 h4))), (aI k h1 10 (vv n see nb_141 gg_134)), (x0, .inr (6, (fX6 x1 (nI tz) (nI ta__88) (nI nq_89) 2 (nI pl_89)))), (aB k x1 240 fx)] H := hP
      replace hD : va_D A [(h0, .inr (5, (fX5 h1 h2 h3 h4))), (aI k h1 10 (vv n see nb_141 gg_134)), (x0, .inr (6, (fX6 x1 (nI tz) (nI ta__88) (nI nq_89) 2 (nI pl_89)))), (aB k x1 240 fx)] := hD
      refine lv_aload_n hx hb dX5_readClause_58 rfl (lv_at hl 1 rfl) ?_
      refine rw_v (D := D) (wr := [(h0, .inr (5, (fX5 h1 h2 h3 h4))), (aI k h1 10 (vv n see nb_141 gg_134))]) (va_runV (As := []) (rest := []) ⟨hx, hb, hml, hown, hts⟩ ((y_needSemicolon l D k st lo x0 x1 tz ta__88 (nI nq_89) 2 (nI pl_89) fx (by first | assumption | omega) (by first | assumption | omega)) H.size) (cwV 0 hts (gV tw_488 tw_489 tw_490 tw_80 tw_491) rfl rfl rfl (by decide +kernel) ⟨Nat.le_of_ble_eq_true rfl, Nat.le_of_ble_eq_true rfl⟩) (pV hS hAlo hlo hP hK (va_Dlo hD hAlo) hZ [2, 3] (by decide) rfl (ci := 6) (q := (RX6, TX6, 6)) (q0 := 0) rfl rfl) rfl rfl hl.1 rfl (lv_room (Nat.le_of_ble_eq_true rfl)) dX5_readClause_59 ⟨Nat.le_of_ble_eq_true rfl, Nat.le_of_ble_eq_true rfl⟩) hS hA hP hD [2, 3] [0, 1] rfl rfl (by decide) (by decide) (fun u H locs hw_144 hP hD hS => ?_)
      obtain ⟨ta__144, fn__144, fb__144⟩ := u
      replace hP : va_P D classes [(h0, .inr (5, (fX5 h1 h2 h3 h4))), (aI k h1 10 (vv n see nb_141 gg_134)), (x0, .inr (6, (fX6 x1 (nI tz) (nI ta__144) (nI nq_89) fn__144 fb__144))), (aB k x1 240 fx)] H := hP
      replace hD : va_D A [(h0, .inr (5, (fX5 h1 h2 h3 h4))), (aI k h1 10 (vv n see nb_141 gg_134)), (x0, .inr (6, (fX6 x1 (nI tz) (nI ta__144) (nI nq_89) fn__144 fb__144))), (aB k x1 240 fx)] := hD
      try dsimp only at hw_144
      obtain ⟨hs0_145, hs1_145⟩ := hw_144.1 (by decide)
      replace hs0_145 := hs0_145.symm
      subst hs0_145
      replace hs1_145 := hs1_145.symm
      subst hs1_145
      have hP9 := hP.sub (ws' := [(h0, .inr (5, (fX5 h1 h2 h3 h4))), (aI k h1 10 (vv n see nb_141 gg_134)), (x0, .inr (6, (fX6 x1 (nI tz) (nI ta__144) (nI nq_89) 2 (nI pl_89)))), (aB k x1 240 fx)]) [0, 1, 2, 3] rfl
      have hD9 := hD.sub (ws' := [(h0, .inr (5, (fX5 h1 h2 h3 h4))), (aI k h1 10 (vv n see nb_141 gg_134)), (x0, .inr (6, (fX6 x1 (nI tz) (nI ta__144) (nI nq_89) 2 (nI pl_89)))), (aB k x1 240 fx)]) [0, 1, 2, 3] (by decide) rfl
      exact W.vret hx hb hr (fun t ht hW => ⟨⟨(see, nb_141, gg_134, ta__144, (nI nq_89), 2, (nI pl_89)), rfl, ⟨.inr ⟨2, pl_89, rfl, by decide, by decide, by simp [siC, siF, hq_89, nI_clamp (show nb_141 < 2 ^ 31 by omega), (show zLE 7 = 0 from rfl), (show zMO 7 = 60 from rfl), (show decide ((7 : Nat) = 1) = false from rfl), -List.getD_eq_getElem?_getD], by simp [siC, siF, hq_89, nI_clamp (show nb_141 < 2 ^ 31 by omega), (show zLE 7 = 0 from rfl), (show zMO 7 = 60 from rfl), (show decide ((7 : Nat) = 1) = false from rfl), -List.getD_eq_getElem?_getD], rfl⟩, by omega, by omega, by omega, by omega⟩, by rw [ht]; exact hP9, hD9⟩, hS.F ht⟩) hS.2.2 dX5_readClause_62
  · refine lv_aload_n hx hb dX5_readClause_0 rfl (lv_at hl 0 rfl) ?_
    refine va_get (D := D) (ci := 5) (v := .ref h1) (C := RX5) (T := TX5) (N := 4) hx hb hts inX5 hown hK hP 0 rfl rfl 0 (by decide) (hts _ tw_146) (fun _ h9 => h9) rfl dX5_readClause_1 ?_
    refine lv_iload_n hx hb dX5_readClause_4 rfl (lv_at hl 2 rfl) ?_
    refine lv_aload_n hx hb dX5_readClause_5 rfl (lv_at hl 1 rfl) ?_
    refine va_getsN (A := A) hx hb (hZ.2.2.2.2.1.narrow hAlo) hS hown ((hZ.2.2.2.2.2.2.2.2.1.2.1 (RX5, 106, "LastPlace", "LEAST", "[I", RX7) (List.mem_of_getElem? (i := 1) rfl)).use rfl) (fun _ h9 => h9) dX5_readClause_6 ?_
    refine lv_iload_n hx hb dX5_readClause_9 rfl (lv_at hl 2 rfl) ?_
    refine va_ti (A := A) hx hb (hZ.2.2.2.2.2.1.narrow hAlo) hS (i := 9) (by unfold vp_in; decide) (v := .int 0) rfl dX5_readClause_10 ?_
    refine va_getsN (A := A) hx hb (hZ.2.2.1.narrow hAlo) hS hown ((hZ.2.2.2.2.2.2.2.2.1.2.1 (RX5, 109, "LastPlace", "MOST", "[I", RX7) (List.mem_of_getElem? (i := 2) rfl)).use rfl) (fun _ h9 => h9) dX5_readClause_11 ?_
    refine lv_iload_n hx hb dX5_readClause_14 rfl (lv_at hl 2 rfl) ?_
    refine va_ti (A := A) hx hb (hZ.2.2.2.1.narrow hAlo) hS (i := 9) (by unfold vp_in; decide) (v := .int 999) rfl dX5_readClause_15 ?_
    refine rw_i (D := D) (wr := [(h0, .inr (5, (fX5 h1 h2 h3 h4))), (aI k h1 10 (vv n see tm g))]) (va_runV (As := [.int 0, .int 999]) (rest := [.int 9, .ref h1]) ⟨hx, hb, hml, hown, hts⟩ ((y_needNumber l D k st lo x0 x1 tz ta na 0 fb fx 0 999 (by first | assumption | omega) (by first | assumption | omega) (by decide)) s.heap.size) (cwV 2 hts (gV tw_467 tw_468 tw_469 tw_80 tw_470) rfl rfl rfl (by decide +kernel) ⟨Nat.le_of_ble_eq_true rfl, Nat.le_of_ble_eq_true rfl⟩) (pV hS hAlo hlo hP hK (va_Dlo hD hAlo) hZ [2, 3] (by decide) rfl (ci := 6) (q := (RX6, TX6, 6)) (q0 := 0) rfl rfl) rfl rfl hl.1 rfl (lv_room (Nat.le_of_ble_eq_true rfl)) dX5_readClause_16 ⟨Nat.le_of_ble_eq_true rfl, Nat.le_of_ble_eq_true rfl⟩) hS hA hP hD [2, 3] [0, 1] rfl rfl (by decide) (by decide) (fun r_146 u H locs hw_146 hP hD hS => ?_)
    obtain ⟨ta__146, na__146, fn__146, fb__146⟩ := u
    replace hP : va_P D classes [(h0, .inr (5, (fX5 h1 h2 h3 h4))), (aI k h1 10 (vv n see tm g)), (x0, .inr (6, (fX6 x1 (nI tz) (nI ta__146) na__146 fn__146 fb__146))), (aB k x1 240 fx)] H := hP
    replace hD : va_D A [(h0, .inr (5, (fX5 h1 h2 h3 h4))), (aI k h1 10 (vv n see tm g)), (x0, .inr (6, (fX6 x1 (nI tz) (nI ta__146) na__146 fn__146 fb__146))), (aB k x1 240 fx)] := hD
    try dsimp only at hw_146
    obtain ⟨pl_147, nq_147, rfl, hq_147⟩ := hw_146.2.1 rfl
    rw [show decide ((0 : Int32) < 0) = false from by decide] at hq_147
    rcases hq_147 with ⟨rfl, hq_147⟩ | ⟨rfl, hr_147, rfl, hq_147⟩ | ⟨rfl, hr_147, rfl, hq_147⟩
    · refine va_iast hx hb hK hP hD hS 1 1 rfl rfl (by unfold vp_in; decide) dX5_readClause_19 (fun H locs hP hD hS => ?_)
      replace hP : va_P D classes [(h0, .inr (5, (fX5 h1 h2 h3 h4))), (aI k h1 10 (upd (vv n see tm g) (Int32.toNatClampNeg 9) r_146)), (x0, .inr (6, (fX6 x1 (nI tz) (nI ta__146) (nI nq_147) 0 fb__146))), (aB k x1 240 fx)] H := hP
      replace hD : va_D A [(h0, .inr (5, (fX5 h1 h2 h3 h4))), (aI k h1 10 (upd (vv n see tm g) (Int32.toNatClampNeg 9) r_146)), (x0, .inr (6, (fX6 x1 (nI tz) (nI ta__146) (nI nq_147) 0 fb__146))), (aB k x1 240 fx)] := hD
      rw [show upd (vv n see tm g) (Int32.toNatClampNeg 9) r_146 = vv n see tm (upd g 9 r_146) from vv_upd _ _ _ _ _ _ (by decide) (by decide) (by decide)] at hP hD
      obtain ⟨gg_149, hgg_149⟩ : ∃ z : Nat → Int32, z = upd g 9 r_146 := ⟨_, rfl⟩
      rw [← hgg_149] at hP hD
      replace hP : va_P D classes [(h0, .inr (5, (fX5 h1 h2 h3 h4))), (aI k h1 10 (vv n see tm gg_149)), (x0, .inr (6, (fX6 x1 (nI tz) (nI ta__146) (nI nq_147) 0 fb__146))), (aB k x1 240 fx)] H := hP
      replace hD : va_D A [(h0, .inr (5, (fX5 h1 h2 h3 h4))), (aI k h1 10 (vv n see tm gg_149)), (x0, .inr (6, (fX6 x1 (nI tz) (nI ta__146) (nI nq_147) 0 fb__146))), (aB k x1 240 fx)] := hD
      refine lv_iload_n hx hb dX5_readClause_20 rfl (lv_at hl 2 rfl) ?_
      refine lv_bipush (v := 7) hx hb dX5_readClause_21 (by decide) ?_
      refine lv_icmp_ne (tgt := 58) hx hb dX5_readClause_23 (by decide) (fun _ => ?_) (fun h => absurd h (by decide))
      refine lv_aload_n hx hb dX5_readClause_58 rfl (lv_at hl 1 rfl) ?_
      refine rw_v (D := D) (wr := [(h0, .inr (5, (fX5 h1 h2 h3 h4))), (aI k h1 10 (vv n see tm gg_149))]) (va_runV (As := []) (rest := []) ⟨hx, hb, hml, hown, hts⟩ ((y_needSemicolon l D k st lo x0 x1 tz ta__146 (nI nq_147) 0 fb__146 fx (by first | assumption | omega) (by first | assumption | omega)) H.size) (cwV 0 hts (gV tw_488 tw_489 tw_490 tw_80 tw_491) rfl rfl rfl (by decide +kernel) ⟨Nat.le_of_ble_eq_true rfl, Nat.le_of_ble_eq_true rfl⟩) (pV hS hAlo hlo hP hK (va_Dlo hD hAlo) hZ [2, 3] (by decide) rfl (ci := 6) (q := (RX6, TX6, 6)) (q0 := 0) rfl rfl) rfl rfl hl.1 rfl (lv_room (Nat.le_of_ble_eq_true rfl)) dX5_readClause_59 ⟨Nat.le_of_ble_eq_true rfl, Nat.le_of_ble_eq_true rfl⟩) hS hA hP hD [2, 3] [0, 1] rfl rfl (by decide) (by decide) (fun u H locs hw_150 hP hD hS => ?_)
      obtain ⟨ta__150, fn__150, fb__150⟩ := u
      replace hP : va_P D classes [(h0, .inr (5, (fX5 h1 h2 h3 h4))), (aI k h1 10 (vv n see tm gg_149)), (x0, .inr (6, (fX6 x1 (nI tz) (nI ta__150) (nI nq_147) fn__150 fb__150))), (aB k x1 240 fx)] H := hP
      replace hD : va_D A [(h0, .inr (5, (fX5 h1 h2 h3 h4))), (aI k h1 10 (vv n see tm gg_149)), (x0, .inr (6, (fX6 x1 (nI tz) (nI ta__150) (nI nq_147) fn__150 fb__150))), (aB k x1 240 fx)] := hD
      try dsimp only at hw_150
      rcases hw_150.2.1 rfl with ⟨rfl, hq_151⟩ | ⟨rfl, pl_151, hq_151, rfl⟩
      · have hP9 := hP.sub (ws' := [(h0, .inr (5, (fX5 h1 h2 h3 h4))), (aI k h1 10 (vv n see tm gg_149)), (x0, .inr (6, (fX6 x1 (nI tz) (nI ta__150) (nI nq_147) 0 fb__150))), (aB k x1 240 fx)]) [0, 1, 2, 3] rfl
        have hD9 := hD.sub (ws' := [(h0, .inr (5, (fX5 h1 h2 h3 h4))), (aI k h1 10 (vv n see tm gg_149)), (x0, .inr (6, (fX6 x1 (nI tz) (nI ta__150) (nI nq_147) 0 fb__150))), (aB k x1 240 fx)]) [0, 1, 2, 3] (by decide) rfl
        exact W.vret hx hb hr (fun t ht hW => ⟨⟨(see, tm, gg_149, ta__150, (nI nq_147), 0, fb__150), rfl, ⟨.inl ⟨rfl, r_146, 0, (by simp [siC, siF, hq_147, hq_151, (show zLE 9 = 0 from rfl), (show zMO 9 = 999 from rfl), (show decide ((9 : Nat) = 1) = false from rfl), -List.getD_eq_getElem?_getD]), by rw [if_neg (by decide), vv_upd _ _ _ _ 9 _ (by decide) (by decide) (by decide), hgg_149]⟩, by omega, by omega, by omega, by omega⟩, by rw [ht]; exact hP9, hD9⟩, hS.F ht⟩) hS.2.2 dX5_readClause_62
      · have hP9 := hP.sub (ws' := [(h0, .inr (5, (fX5 h1 h2 h3 h4))), (aI k h1 10 (vv n see tm gg_149)), (x0, .inr (6, (fX6 x1 (nI tz) (nI ta__150) (nI nq_147) 1 (nI pl_151)))), (aB k x1 240 fx)]) [0, 1, 2, 3] rfl
        have hD9 := hD.sub (ws' := [(h0, .inr (5, (fX5 h1 h2 h3 h4))), (aI k h1 10 (vv n see tm gg_149)), (x0, .inr (6, (fX6 x1 (nI tz) (nI ta__150) (nI nq_147) 1 (nI pl_151)))), (aB k x1 240 fx)]) [0, 1, 2, 3] (by decide) rfl
        exact W.vret hx hb hr (fun t ht hW => ⟨⟨(see, tm, gg_149, ta__150, (nI nq_147), 1, (nI pl_151)), rfl, ⟨.inr ⟨1, pl_151, rfl, by decide, by decide, by simp [siC, siF, hq_147, hq_151, (show zLE 9 = 0 from rfl), (show zMO 9 = 999 from rfl), (show decide ((9 : Nat) = 1) = false from rfl), -List.getD_eq_getElem?_getD], by simp [siC, siF, hq_147, hq_151, (show zLE 9 = 0 from rfl), (show zMO 9 = 999 from rfl), (show decide ((9 : Nat) = 1) = false from rfl), -List.getD_eq_getElem?_getD], rfl⟩, by omega, by omega, by omega, by omega⟩, by rw [ht]; exact hP9, hD9⟩, hS.F ht⟩) hS.2.2 dX5_readClause_62
    · refine va_iast hx hb hK hP hD hS 1 1 rfl rfl (by unfold vp_in; decide) dX5_readClause_19 (fun H locs hP hD hS => ?_)
      replace hP : va_P D classes [(h0, .inr (5, (fX5 h1 h2 h3 h4))), (aI k h1 10 (upd (vv n see tm g) (Int32.toNatClampNeg 9) r_146)), (x0, .inr (6, (fX6 x1 (nI tz) (nI ta__146) (nI nq_147) 1 (nI pl_147)))), (aB k x1 240 fx)] H := hP
      replace hD : va_D A [(h0, .inr (5, (fX5 h1 h2 h3 h4))), (aI k h1 10 (upd (vv n see tm g) (Int32.toNatClampNeg 9) r_146)), (x0, .inr (6, (fX6 x1 (nI tz) (nI ta__146) (nI nq_147) 1 (nI pl_147)))), (aB k x1 240 fx)] := hD
      rw [show upd (vv n see tm g) (Int32.toNatClampNeg 9) r_146 = vv n see tm (upd g 9 r_146) from vv_upd _ _ _ _ _ _ (by decide) (by decide) (by decide)] at hP hD
      obtain ⟨gg_153, hgg_153⟩ : ∃ z : Nat → Int32, z = upd g 9 r_146 := ⟨_, rfl⟩
      rw [← hgg_153] at hP hD
      replace hP : va_P D classes [(h0, .inr (5, (fX5 h1 h2 h3 h4))), (aI k h1 10 (vv n see tm gg_153)), (x0, .inr (6, (fX6 x1 (nI tz) (nI ta__146) (nI nq_147) 1 (nI pl_147)))), (aB k x1 240 fx)] H := hP
      replace hD : va_D A [(h0, .inr (5, (fX5 h1 h2 h3 h4))), (aI k h1 10 (vv n see tm gg_153)), (x0, .inr (6, (fX6 x1 (nI tz) (nI ta__146) (nI nq_147) 1 (nI pl_147)))), (aB k x1 240 fx)] := hD
      refine lv_iload_n hx hb dX5_readClause_20 rfl (lv_at hl 2 rfl) ?_
      refine lv_bipush (v := 7) hx hb dX5_readClause_21 (by decide) ?_
      refine lv_icmp_ne (tgt := 58) hx hb dX5_readClause_23 (by decide) (fun _ => ?_) (fun h => absurd h (by decide))
      refine lv_aload_n hx hb dX5_readClause_58 rfl (lv_at hl 1 rfl) ?_
      refine rw_v (D := D) (wr := [(h0, .inr (5, (fX5 h1 h2 h3 h4))), (aI k h1 10 (vv n see tm gg_153))]) (va_runV (As := []) (rest := []) ⟨hx, hb, hml, hown, hts⟩ ((y_needSemicolon l D k st lo x0 x1 tz ta__146 (nI nq_147) 1 (nI pl_147) fx (by first | assumption | omega) (by first | assumption | omega)) H.size) (cwV 0 hts (gV tw_488 tw_489 tw_490 tw_80 tw_491) rfl rfl rfl (by decide +kernel) ⟨Nat.le_of_ble_eq_true rfl, Nat.le_of_ble_eq_true rfl⟩) (pV hS hAlo hlo hP hK (va_Dlo hD hAlo) hZ [2, 3] (by decide) rfl (ci := 6) (q := (RX6, TX6, 6)) (q0 := 0) rfl rfl) rfl rfl hl.1 rfl (lv_room (Nat.le_of_ble_eq_true rfl)) dX5_readClause_59 ⟨Nat.le_of_ble_eq_true rfl, Nat.le_of_ble_eq_true rfl⟩) hS hA hP hD [2, 3] [0, 1] rfl rfl (by decide) (by decide) (fun u H locs hw_154 hP hD hS => ?_)
      obtain ⟨ta__154, fn__154, fb__154⟩ := u
      replace hP : va_P D classes [(h0, .inr (5, (fX5 h1 h2 h3 h4))), (aI k h1 10 (vv n see tm gg_153)), (x0, .inr (6, (fX6 x1 (nI tz) (nI ta__154) (nI nq_147) fn__154 fb__154))), (aB k x1 240 fx)] H := hP
      replace hD : va_D A [(h0, .inr (5, (fX5 h1 h2 h3 h4))), (aI k h1 10 (vv n see tm gg_153)), (x0, .inr (6, (fX6 x1 (nI tz) (nI ta__154) (nI nq_147) fn__154 fb__154))), (aB k x1 240 fx)] := hD
      try dsimp only at hw_154
      obtain ⟨hs0_155, hs1_155⟩ := hw_154.1 (by decide)
      replace hs0_155 := hs0_155.symm
      subst hs0_155
      replace hs1_155 := hs1_155.symm
      subst hs1_155
      have hP9 := hP.sub (ws' := [(h0, .inr (5, (fX5 h1 h2 h3 h4))), (aI k h1 10 (vv n see tm gg_153)), (x0, .inr (6, (fX6 x1 (nI tz) (nI ta__154) (nI nq_147) 1 (nI pl_147)))), (aB k x1 240 fx)]) [0, 1, 2, 3] rfl
      have hD9 := hD.sub (ws' := [(h0, .inr (5, (fX5 h1 h2 h3 h4))), (aI k h1 10 (vv n see tm gg_153)), (x0, .inr (6, (fX6 x1 (nI tz) (nI ta__154) (nI nq_147) 1 (nI pl_147)))), (aB k x1 240 fx)]) [0, 1, 2, 3] (by decide) rfl
      exact W.vret hx hb hr (fun t ht hW => ⟨⟨(see, tm, gg_153, ta__154, (nI nq_147), 1, (nI pl_147)), rfl, ⟨.inr ⟨1, pl_147, rfl, by decide, by decide, by simp [siC, siF, hq_147, (show zLE 9 = 0 from rfl), (show zMO 9 = 999 from rfl), (show decide ((9 : Nat) = 1) = false from rfl), -List.getD_eq_getElem?_getD], by simp [siC, siF, hq_147, (show zLE 9 = 0 from rfl), (show zMO 9 = 999 from rfl), (show decide ((9 : Nat) = 1) = false from rfl), -List.getD_eq_getElem?_getD], rfl⟩, by omega, by omega, by omega, by omega⟩, by rw [ht]; exact hP9, hD9⟩, hS.F ht⟩) hS.2.2 dX5_readClause_62
    · refine va_iast hx hb hK hP hD hS 1 1 rfl rfl (by unfold vp_in; decide) dX5_readClause_19 (fun H locs hP hD hS => ?_)
      replace hP : va_P D classes [(h0, .inr (5, (fX5 h1 h2 h3 h4))), (aI k h1 10 (upd (vv n see tm g) (Int32.toNatClampNeg 9) r_146)), (x0, .inr (6, (fX6 x1 (nI tz) (nI ta__146) (nI nq_147) 2 (nI pl_147)))), (aB k x1 240 fx)] H := hP
      replace hD : va_D A [(h0, .inr (5, (fX5 h1 h2 h3 h4))), (aI k h1 10 (upd (vv n see tm g) (Int32.toNatClampNeg 9) r_146)), (x0, .inr (6, (fX6 x1 (nI tz) (nI ta__146) (nI nq_147) 2 (nI pl_147)))), (aB k x1 240 fx)] := hD
      rw [show upd (vv n see tm g) (Int32.toNatClampNeg 9) r_146 = vv n see tm (upd g 9 r_146) from vv_upd _ _ _ _ _ _ (by decide) (by decide) (by decide)] at hP hD
      obtain ⟨gg_157, hgg_157⟩ : ∃ z : Nat → Int32, z = upd g 9 r_146 := ⟨_, rfl⟩
      rw [← hgg_157] at hP hD
      replace hP : va_P D classes [(h0, .inr (5, (fX5 h1 h2 h3 h4))), (aI k h1 10 (vv n see tm gg_157)), (x0, .inr (6, (fX6 x1 (nI tz) (nI ta__146) (nI nq_147) 2 (nI pl_147)))), (aB k x1 240 fx)] H := hP
      replace hD : va_D A [(h0, .inr (5, (fX5 h1 h2 h3 h4))), (aI k h1 10 (vv n see tm gg_157)), (x0, .inr (6, (fX6 x1 (nI tz) (nI ta__146) (nI nq_147) 2 (nI pl_147)))), (aB k x1 240 fx)] := hD
      refine lv_iload_n hx hb dX5_readClause_20 rfl (lv_at hl 2 rfl) ?_
      refine lv_bipush (v := 7) hx hb dX5_readClause_21 (by decide) ?_
      refine lv_icmp_ne (tgt := 58) hx hb dX5_readClause_23 (by decide) (fun _ => ?_) (fun h => absurd h (by decide))
      refine lv_aload_n hx hb dX5_readClause_58 rfl (lv_at hl 1 rfl) ?_
      refine rw_v (D := D) (wr := [(h0, .inr (5, (fX5 h1 h2 h3 h4))), (aI k h1 10 (vv n see tm gg_157))]) (va_runV (As := []) (rest := []) ⟨hx, hb, hml, hown, hts⟩ ((y_needSemicolon l D k st lo x0 x1 tz ta__146 (nI nq_147) 2 (nI pl_147) fx (by first | assumption | omega) (by first | assumption | omega)) H.size) (cwV 0 hts (gV tw_488 tw_489 tw_490 tw_80 tw_491) rfl rfl rfl (by decide +kernel) ⟨Nat.le_of_ble_eq_true rfl, Nat.le_of_ble_eq_true rfl⟩) (pV hS hAlo hlo hP hK (va_Dlo hD hAlo) hZ [2, 3] (by decide) rfl (ci := 6) (q := (RX6, TX6, 6)) (q0 := 0) rfl rfl) rfl rfl hl.1 rfl (lv_room (Nat.le_of_ble_eq_true rfl)) dX5_readClause_59 ⟨Nat.le_of_ble_eq_true rfl, Nat.le_of_ble_eq_true rfl⟩) hS hA hP hD [2, 3] [0, 1] rfl rfl (by decide) (by decide) (fun u H locs hw_158 hP hD hS => ?_)
      obtain ⟨ta__158, fn__158, fb__158⟩ := u
      replace hP : va_P D classes [(h0, .inr (5, (fX5 h1 h2 h3 h4))), (aI k h1 10 (vv n see tm gg_157)), (x0, .inr (6, (fX6 x1 (nI tz) (nI ta__158) (nI nq_147) fn__158 fb__158))), (aB k x1 240 fx)] H := hP
      replace hD : va_D A [(h0, .inr (5, (fX5 h1 h2 h3 h4))), (aI k h1 10 (vv n see tm gg_157)), (x0, .inr (6, (fX6 x1 (nI tz) (nI ta__158) (nI nq_147) fn__158 fb__158))), (aB k x1 240 fx)] := hD
      try dsimp only at hw_158
      obtain ⟨hs0_159, hs1_159⟩ := hw_158.1 (by decide)
      replace hs0_159 := hs0_159.symm
      subst hs0_159
      replace hs1_159 := hs1_159.symm
      subst hs1_159
      have hP9 := hP.sub (ws' := [(h0, .inr (5, (fX5 h1 h2 h3 h4))), (aI k h1 10 (vv n see tm gg_157)), (x0, .inr (6, (fX6 x1 (nI tz) (nI ta__158) (nI nq_147) 2 (nI pl_147)))), (aB k x1 240 fx)]) [0, 1, 2, 3] rfl
      have hD9 := hD.sub (ws' := [(h0, .inr (5, (fX5 h1 h2 h3 h4))), (aI k h1 10 (vv n see tm gg_157)), (x0, .inr (6, (fX6 x1 (nI tz) (nI ta__158) (nI nq_147) 2 (nI pl_147)))), (aB k x1 240 fx)]) [0, 1, 2, 3] (by decide) rfl
      exact W.vret hx hb hr (fun t ht hW => ⟨⟨(see, tm, gg_157, ta__158, (nI nq_147), 2, (nI pl_147)), rfl, ⟨.inr ⟨2, pl_147, rfl, by decide, by decide, by simp [siC, siF, hq_147, (show zLE 9 = 0 from rfl), (show zMO 9 = 999 from rfl), (show decide ((9 : Nat) = 1) = false from rfl), -List.getD_eq_getElem?_getD], by simp [siC, siF, hq_147, (show zLE 9 = 0 from rfl), (show zMO 9 = 999 from rfl), (show decide ((9 : Nat) = 1) = false from rfl), -List.getD_eq_getElem?_getD], rfl⟩, by omega, by omega, by omega, by omega⟩, by rw [ht]; exact hP9, hD9⟩, hS.F ht⟩) hS.2.2 dX5_readClause_62

